/** Each promise of the document by hand-made runs: ordinary inputs, edges, wrong inputs. */
public final class PromisesTest {
    private static final int NONE = -1;
    private static final int UNKNOWN = -2;
    private static final int OUTSIDE = -3;
    private static final int NOT = -4;
    private static final int FULL = -5;
    private static final int LIFT = 99999;
    private static final int[] WRONG = {Integer.MIN_VALUE, -100000, -2, 100000, Integer.MAX_VALUE};
    private static final String FOUR_BIDDERS = "plain 40 9;blind 51 3;sick 30 20;dealer 60 5";
    private static final String FAIR = "clear 7;cloudy 5;smoky 4;" + FOUR_BIDDERS + ";reserve 8;refund 5";
    private static final String THREE = "plain 50 9;plain 50 9;plain 50 9";

    private static String promise = "";
    private static int checks = 0;
    private static int wrong = 0;

    private static void due(String call, int got, int want) {
        checks++;
        if (got != want) {
            wrong++;
            System.out.println(promise + ": " + call + " answered " + got + ", due is " + want);
        }
    }

    private static void put(SunsetSale x, String text) {
        x.erase();
        for (int i = 0; i < text.length(); i++) {
            x.write(text.charAt(i));
        }
    }

    private static int tell(SunsetSale x, String text) {
        put(x, text);
        return x.west();
    }

    private static SunsetSale told(String text) {
        SunsetSale x = new SunsetSale();
        int clauses = text.split(";").length;
        due("west() of " + text, tell(x, text), clauses);
        return x;
    }

    private static void bids(SunsetSale x, int... bids) {
        for (int bidder = 0; bidder < bids.length; bidder++) {
            x.bid(bidder, bids[bidder]);
        }
    }

    private static String times(int n, String clause) {
        StringBuilder text = new StringBuilder();
        for (int i = 0; i < n; i++) {
            text.append(i == 0 ? "" : ";").append(clause);
        }
        return text.toString();
    }

    public static void main(String[] args) {
        newObject();
        write();
        erase();
        faultOfWords();
        faultOfNumbers();
        faultOfTooMany();
        faultOfOneBehindAnother();
        west();
        westStartsAnew();
        evening();
        bidder();
        as();
        eveningAs();
        bid();
        saleByFirst();
        saleBySecond();
        saleBrightness();
        price();
        says();
        undo();
        keepAndBack();
        gain();
        limit();
        has();
        reply();
        tempted();
        cartel();
        otherwise();
        season();
        bright();
        scoreAndBest();
        seen();
        buyers();
        count();
        fullHouse();
        System.out.println(checks + " answers looked at, " + wrong + " not as due");
        if (wrong != 0) {
            System.exit(1);
        }
    }

    private static void newObject() {
        promise = "1 new object";
        SunsetSale x = new SunsetSale();
        for (int what = 0; what < 12; what++) {
            due("count(" + what + ")", x.count(what), 0);
        }
        due("evening(0, 0)", x.evening(0, 0), UNKNOWN);
        due("bidder(0, 0)", x.bidder(0, 0), UNKNOWN);
        due("best()", x.best(), NONE);
        due("buyers()", x.buyers(), 32);
        due("bright(0, 0)", x.bright(0, 0), 1);
        due("sale(0)", x.sale(0), NOT);
        due("otherwise()", x.otherwise(), NOT);
        due("undo()", x.undo(), NOT);
        due("back(0)", x.back(0), NOT);
        due("back(1)", x.back(1), NOT);
    }

    private static void write() {
        promise = "2 write";
        SunsetSale x = new SunsetSale();
        due("write(-1)", x.write(-1), OUTSIDE);
        due("write(256)", x.write(256), OUTSIDE);
        for (int n : WRONG) {
            due("write(" + n + ")", x.write(n), OUTSIDE);
        }
        due("count(11)", x.count(11), 0);
        due("write(0)", x.write(0), 1);
        due("write(255)", x.write(255), 2);
        for (int n = 3; n <= 160; n++) {
            due("letter " + n, x.write('a'), n);
        }
        due("letter 161", x.write('a'), FULL);
        due("write(256), full", x.write(256), OUTSIDE);
        due("write(-1), full", x.write(-1), OUTSIDE);
        due("count(11), full", x.count(11), 160);
    }

    private static void erase() {
        promise = "3 erase";
        SunsetSale x = told("clear 7;plain 40 9");
        due("erase() of nothing", x.erase(), 0);
        put(x, "second;;");
        due("erase()", x.erase(), 8);
        due("erase() again", x.erase(), 0);
        due("count(11)", x.count(11), 0);
        due("count(0)", x.count(0), 1);
        due("count(3)", x.count(3), 0);
        due("write after", x.write('n'), 1);
    }

    private static void fault(String text, int want) {
        faultBehind("", text, want);
    }

    private static void faultBehind(String earlier, String text, int want) {
        SunsetSale x = earlier.isEmpty() ? new SunsetSale() : told(earlier);
        put(x, text);
        int evenings = x.count(0);
        due("fault() of '" + text + "'", x.fault(), want);
        due("fault() again", x.fault(), want);
        due("letters of '" + text + "'", x.count(11), text.length());
        due("evenings", x.count(0), evenings);
        if (want != NONE) {
            due("west() of '" + text + "'", x.west(), NOT);
            due("letters, refused", x.count(11), text.length());
            due("evenings, refused", x.count(0), evenings);
        }
    }

    private static void faultOfWords() {
        promise = "4 fault";
        fault("", 0);
        fault("   ", 3);
        fault("west", NONE);
        fault("  west  ", NONE);
        fault("west;", 5);
        fault("west; ", 6);
        fault("west ; night", NONE);
        fault("West", 0);
        fault("wes", 0);
        fault("wests", 0);
        fault("westz", 0);
        fault("zest", 0);
        fault("westnight", 0);
        fault("west night", 5);
        fault("west5", 4);
        fault(";west", 0);
        fault("west;;night", 5);
        fault("west;nigh", 5);
        fault("west,night", 4);
        fault("night.", 5);
        fault("night\t", 5);
        fault("\tnight", 0);
        fault("night" + (char) 160, 5);
        fault("night" + (char) 0, 5);
        fault("12", 0);
        fault("first 1", 6);
        fault("second;first", NONE);
        fault("night;west;first;second", NONE);
        fault("{", 0);
        fault("`", 0);
        fault("first; dusk 5", 7);
    }

    private static void faultOfNumbers() {
        promise = "4 fault";
        String[] evenings = {"clear", "cloudy", "smoky", "refund"};
        for (String word : evenings) {
            int at = word.length() + 1;
            fault(word, at - 1);
            fault(word + " ", at);
            fault(word + " 0", NONE);
            fault(word + "7", NONE);
            fault(word + " 10", NONE);
            fault(word + " 05", NONE);
            fault(word + " 11", at);
            fault(word + " 99", at);
            fault(word + " 005", at);
            fault(word + " 4294967297", at);
            fault(word + " -1", at);
            fault(word + " x", at);
            fault(word + " 7 8", at + 2);
            fault(word + " 7 first", at + 2);
            fault(word + ";", at - 1);
        }
        fault("reserve", 7);
        fault("reserve 99", NONE);
        fault("reserve 100", 8);
        fault("reserve 1 1", 10);
        String[] bidders = {"plain", "blind", "sick", "dealer"};
        for (String word : bidders) {
            int at = word.length() + 1;
            fault(word, at - 1);
            fault(word + " 99 99", NONE);
            fault(word + "0 0", NONE);
            fault(word + " 99", at + 2);
            fault(word + " 9;", at + 1);
            fault(word + " 9 ", at + 2);
            fault(word + " 100 9", at);
            fault(word + " 9 100", at + 2);
            fault(word + " 9 x", at + 2);
            fault(word + " 9 9 9", at + 4);
            fault(word + " 9 9;" + word, 2 * at + 3);
        }
        fault("clear 5plain 1 1", 7);
        fault("clear 1:plain 1 1", 7);
        fault("clear 1/", 7);
        fault("clear7;plain40 9", NONE);
        fault(" clear 7 ; plain 40  9 ", NONE);
        fault("clear 11;dusk", 6);
    }

    private static void faultOfTooMany() {
        promise = "4 fault";
        fault(times(14, "first"), NONE);
        fault(times(14, "first") + " ", NONE);
        fault(times(14, "first") + ";", 83);
        fault(times(14, "first") + ";first", 83);
        fault(times(14, "first") + " first", 84);
        fault(times(7, "clear 1"), NONE);
        fault(times(8, "smoky 1"), 56);
        fault(times(7, "clear 1") + ";smoky 99", 56);
        fault(times(7, "clear 1") + ";night;cloudy 9", NONE);
        fault(times(7, "clear 1") + ";west;cloudy 9", NONE);
        fault("clear 1;night;" + times(7, "clear 1"), NONE);
        fault("clear 1;night;" + times(8, "clear 1"), 70);
        fault("clear 1;west;" + times(7, "clear 1"), NONE);
        fault("clear 1;west;" + times(8, "clear 1"), 69);
        fault("sick 1 1;west;" + times(5, "sick 1 1"), NONE);
        fault("sick 1 1;west;" + times(6, "sick 1 1"), 59);
        fault(times(5, "blind 1 1"), NONE);
        fault(times(6, "blind 1 1"), 50);
        fault(times(5, "sick 11 1") + ";dealer", 50);
        fault(times(5, "blind 1 1") + ";west;plain 1 1", NONE);
        fault(times(5, "blind 1 1") + ";night;plain 1 1", 56);
        faultBehind(times(6, "clear 1"), "clear 1", NONE);
        faultBehind(times(6, "clear 1"), "clear 1;cloudy 1", 8);
        faultBehind(times(7, "clear 1"), "smoky 1", 0);
        faultBehind(times(7, "clear 1"), "night;smoky 1", NONE);
        faultBehind(times(7, "clear 1"), "plain 1 1", NONE);
        faultBehind(times(5, "blind 1 1"), "clear 1;dealer 1 1", 8);
        faultBehind(times(4, "blind 1 1"), "dealer 1 1", NONE);
        faultBehind(times(5, "blind 1 1"), "west;dealer 1 1", NONE);
    }

    /** Nothing of a text that is gone may be read again. */
    private static void faultOfOneBehindAnother() {
        promise = "4 fault";
        SunsetSale x = new SunsetSale();
        String[] texts = {"clear 99", "night", "plain 9 100", "west", "clear   7", "clear", "plain 1 1;;", "plain 1", "refund 10", "refund 1"};
        int[] faults = {6, NONE, 8, NONE, NONE, 5, 10, 7, NONE, NONE};
        for (int i = 0; i < texts.length; i++) {
            put(x, texts[i]);
            due("fault() of '" + texts[i] + "'", x.fault(), faults[i]);
        }
        String blanks = " ".repeat(154);
        fault(blanks + "second", NONE);
        fault("second" + blanks, NONE);
        fault("clear " + blanks, 160);
        fault(blanks + "clear7", NONE);
        fault(" ".repeat(160), 160);
        fault("z".repeat(160), 0);
        fault("clear " + "7".repeat(154), 6);
    }

    private static void west() {
        promise = "5 west";
        SunsetSale x = new SunsetSale();
        due("west() of nothing", x.west(), NOT);
        due("told", tell(x, "second;reserve 5;refund 3;clear 1;night;clear 2;plain 1 2"), 7);
        due("letters", x.count(11), 0);
        due("west() again", x.west(), NOT);
        due("evenings", x.count(0), 1);
        due("its chance", x.evening(0, 1), 2);
        due("bidders", x.count(1), 1);
        due("rule", x.count(3), 1);
        due("reserve", x.count(4), 5);
        due("refund", x.count(5), 3);
        due("more", tell(x, "cloudy 9;sick 3 4"), 2);
        due("evenings stay", x.count(0), 2);
        due("chance stays", x.evening(0, 1), 2);
        due("bidders stay", x.count(1), 2);
        due("rule stays", x.count(3), 1);
        due("reserve stays", x.count(4), 5);
        due("refund stays", x.count(5), 3);
        due("a fault", tell(x, "first;reserve 9;night;dusk"), NOT);
        due("rule, refused", x.count(3), 1);
        due("letters, refused", x.count(11), 26);
        due("rule changed", tell(x, "first"), 1);
        due("rule", x.count(3), 0);
        due("night", tell(x, "night"), 1);
        due("no evenings", x.count(0), 0);
        due("bidders stay by night", x.count(1), 2);
        due("reserve stays by night", x.count(4), 5);
        due("west", tell(x, "second;clear 5;west"), 3);
        for (int what = 0; what < 12; what++) {
            due("count(" + what + ") behind west", x.count(what), 0);
        }
        due("fourteen", tell(x, times(14, "first")), 14);
    }

    private static void westStartsAnew() {
        promise = "5 west";
        SunsetSale x = told(FAIR);
        bids(x, 20, 7, 20);
        x.price(1, 9);
        x.says(0, 1, 9);
        x.seen(0, 1);
        x.sale(0);
        x.bid(2, 5);
        x.keep(1);
        due("second text", tell(x, "first"), 1);
        due("tonight", x.count(2), 0);
        due("bids", x.count(6), 0);
        due("bid", x.bidder(2, 4), NONE);
        due("paid so far", x.count(7), 0);
        due("joy of all", x.count(8), 0);
        due("seen", x.count(9), 0);
        due("can be undone", x.count(10), 0);
        due("undo()", x.undo(), NOT);
        due("back(1)", x.back(1), NOT);
        due("purse", x.bidder(0, 2), 90);
        due("joy", x.bidder(0, 3), 0);
        due("price", x.evening(1, 2), 0);
        due("owner", x.evening(0, 3), NONE);
        due("paid", x.evening(0, 4), 0);
        due("bright", x.evening(0, 5), NONE);
        due("best()", x.best(), NONE);
        due("says(0, 1)", x.says(0, 1, 5), 5);
        due("says(2, 0)", x.says(2, 0, 5), 5);
        due("bid again", x.bid(0, 90), 1);
        x.keep(0);
        due("refused text", tell(x, "dusk"), NOT);
        due("kept stays by a refused one", x.back(0), 0);
    }

    private static void evening() {
        promise = "6 evening";
        SunsetSale x = told("clear 10;cloudy 10;smoky 10;cloudy 2;cloudy 1;cloudy 0;clear 0;plain 40 9");
        int[] kinds = {0, 1, 2, 1, 1, 1, 0};
        int[] chances = {10, 8, 10, 0, 0, 0, 0};
        for (int e = 0; e < 7; e++) {
            due("kind of " + e, x.evening(e, 0), kinds[e]);
            due("chance of " + e, x.evening(e, 1), chances[e]);
            due("price of " + e, x.evening(e, 2), 0);
            due("owner of " + e, x.evening(e, 3), NONE);
            due("paid for " + e, x.evening(e, 4), 0);
            due("bright " + e, x.evening(e, 5), NONE);
        }
        x.price(0, 77);
        x.bid(0, 13);
        x.sale(0);
        x.sale(0);
        due("price", x.evening(0, 2), 77);
        due("owner", x.evening(0, 3), 0);
        due("paid", x.evening(0, 4), 13);
        due("bright", x.evening(0, 5), 1);
        due("nobody", x.evening(1, 3), NONE);
        due("nobody paid", x.evening(1, 4), 0);
        due("nobody's is bright", x.evening(1, 5), 1);
        due("tonight", x.evening(2, 5), NONE);
        due("evening(7, 0)", x.evening(7, 0), UNKNOWN);
        due("evening(-1, 0)", x.evening(-1, 0), UNKNOWN);
        due("evening(7, 6)", x.evening(7, 6), UNKNOWN);
        due("evening(0, 6)", x.evening(0, 6), OUTSIDE);
        due("evening(0, -1)", x.evening(0, -1), OUTSIDE);
        for (int n : WRONG) {
            due("evening(n, 0)", x.evening(n, 0), UNKNOWN);
            due("evening(0, n)", x.evening(0, n), OUTSIDE);
        }
    }

    private static void bidder() {
        promise = "7 bidder";
        SunsetSale x = told("clear 10;" + FOUR_BIDDERS + ";dealer 99 99");
        int[] kinds = {0, 1, 2, 3, 3};
        int[] worths = {40, 51, 30, 60, 99};
        int[] purses = {90, 30, 200, 50, 990};
        for (int b = 0; b < 5; b++) {
            due("kind of " + b, x.bidder(b, 0), kinds[b]);
            due("worth of " + b, x.bidder(b, 1), worths[b]);
            due("purse of " + b, x.bidder(b, 2), purses[b]);
            due("joy of " + b, x.bidder(b, 3), 0);
            due("bid of " + b, x.bidder(b, 4), NONE);
        }
        x.bid(1, 12);
        due("bid", x.bidder(1, 4), 12);
        x.sale(0);
        due("bid gone", x.bidder(1, 4), NONE);
        due("joy", x.bidder(1, 3), 25);
        due("purse", x.bidder(1, 2), 18);
        due("bidder(5, 0)", x.bidder(5, 0), UNKNOWN);
        due("bidder(-1, 9)", x.bidder(-1, 9), UNKNOWN);
        due("bidder(0, 5)", x.bidder(0, 5), OUTSIDE);
        due("bidder(0, -1)", x.bidder(0, -1), OUTSIDE);
        for (int n : WRONG) {
            due("bidder(n, 0)", x.bidder(n, 0), UNKNOWN);
            due("bidder(0, n)", x.bidder(0, n), OUTSIDE);
        }
    }

    private static void as() {
        promise = "8 as";
        SunsetSale x = told("clear 1;" + FOUR_BIDDERS);
        int[][] want = {
            {4000, 4000, NOT, NOT, NOT}, {2525, NOT, 2525, NOT, NOT},
            {3005, 3005, NOT, 3005, NOT}, {5000, 5000, NOT, NOT, 5000}};
        for (int b = 0; b < 4; b++) {
            for (int kind = 0; kind < 5; kind++) {
                due("as(" + b + ", " + kind + ")", x.as(b, kind), want[b][kind]);
            }
        }
        due("as(4, 0)", x.as(4, 0), UNKNOWN);
        due("as(-1, 9)", x.as(-1, 9), UNKNOWN);
        due("as(0, 5)", x.as(0, 5), OUTSIDE);
        due("as(0, -1)", x.as(0, -1), OUTSIDE);
        for (int n : WRONG) {
            due("as(n, 0)", x.as(n, 0), UNKNOWN);
            due("as(0, n)", x.as(0, n), OUTSIDE);
        }
        SunsetSale y = told("dealer 9 1;dealer 10 1;dealer 11 1;sick 0 1;blind 1 1");
        int[] edges = {0, 0, 100, 5, 0};
        for (int b = 0; b < 5; b++) {
            due("edge of " + b, y.as(b, 0), edges[b]);
        }
    }

    private static void eveningAs() {
        promise = "9 eveningAs";
        SunsetSale x = told("clear 1;cloudy 2;smoky 3;refund 7");
        int[][] want = {{35, 35, NOT, NOT}, {35, 35, 35, NOT}, {0, NOT, NOT, 0}};
        for (int e = 0; e < 3; e++) {
            for (int kind = 0; kind < 4; kind++) {
                due("eveningAs(" + e + ", " + kind + ")", x.eveningAs(e, kind), want[e][kind]);
            }
        }
        due("eveningAs(3, 0)", x.eveningAs(3, 0), UNKNOWN);
        due("eveningAs(-1, 4)", x.eveningAs(-1, 4), UNKNOWN);
        due("eveningAs(0, 4)", x.eveningAs(0, 4), OUTSIDE);
        due("eveningAs(0, -1)", x.eveningAs(0, -1), OUTSIDE);
        for (int n : WRONG) {
            due("eveningAs(n, 0)", x.eveningAs(n, 0), UNKNOWN);
            due("eveningAs(0, n)", x.eveningAs(0, n), OUTSIDE);
        }
        x.sale(1);
        due("one gone by", x.eveningAs(0, 0), 35);
        due("all", tell(x, "refund 10"), 1);
        due("eveningAs(1, 1)", x.eveningAs(1, 1), 50);
        due("nothing", tell(x, "refund 0"), 1);
        due("eveningAs(1, 1)", x.eveningAs(1, 1), 0);
    }

    private static void bid() {
        promise = "10 bid";
        SunsetSale x = told("clear 5;plain 1 1;plain 1 0;plain 99 99;reserve 50");
        due("bid(0, 10)", x.bid(0, 10), 1);
        due("more than the purse", x.bid(0, 11), NOT);
        due("bid stays", x.bidder(0, 4), 10);
        due("bid(0, 3)", x.bid(0, 3), 1);
        due("in place", x.bidder(0, 4), 3);
        due("bid(1, 1)", x.bid(1, 1), NOT);
        due("bid(1, 0)", x.bid(1, 0), 2);
        due("bid(2, 99)", x.bid(2, 99), 3);
        due("bid(2, 100)", x.bid(2, 100), OUTSIDE);
        due("bid(1, 100)", x.bid(1, 100), OUTSIDE);
        due("bid(2, -2)", x.bid(2, -2), OUTSIDE);
        due("bid(2, NONE)", x.bid(2, NONE), 2);
        due("bid(2, NONE) again", x.bid(2, NONE), 2);
        due("no bid", x.bidder(2, 4), NONE);
        due("bid(3, 100)", x.bid(3, 100), UNKNOWN);
        due("bid(-1, 0)", x.bid(-1, 0), UNKNOWN);
        for (int n : WRONG) {
            due("bid(n, 0)", x.bid(n, 0), UNKNOWN);
            due("bid(0, n)", x.bid(0, n), OUTSIDE);
        }
        due("what can be undone", x.count(10), 6);
        x.sale(0);
        due("no evening", x.bid(0, 1), NOT);
        due("no evening, none", x.bid(0, NONE), NOT);
        due("no evening, outside", x.bid(0, 100), OUTSIDE);
        due("no evening, unknown", x.bid(3, 1), UNKNOWN);
    }

    private static void saleByFirst() {
        promise = "11 sale";
        SunsetSale x = told(FAIR);
        due("sale(-1)", x.sale(-1), OUTSIDE);
        due("sale(10000)", x.sale(10000), OUTSIDE);
        for (int n : WRONG) {
            due("sale(n)", x.sale(n), OUTSIDE);
        }
        due("tonight", x.count(2), 0);
        bids(x, 20, 7, 20);
        due("of several the least", x.sale(0), 20);
        due("it is bright", x.evening(0, 5), 1);
        due("owner", x.evening(0, 3), 0);
        due("joy", x.bidder(0, 3), 40);
        due("purse", x.bidder(0, 2), 70);
        due("the other's purse", x.bidder(2, 2), 200);
        due("bids are gone", x.count(6), 0);
        due("tonight", x.count(2), 1);
        bids(x, NONE, NONE, 15, 14);
        due("the most", x.sale(0), 15);
        due("it is dull", x.evening(1, 5), 0);
        due("paid", x.evening(1, 4), 15);
        due("7 of 15 come back", x.bidder(2, 2), 192);
        due("joy of a dull one", x.bidder(2, 3), 5);
        due("paid so far", x.count(7), 28);
        bids(x, 7, NONE, NONE, 30);
        due("by smoke", x.sale(0), 30);
        due("it is dull", x.evening(2, 5), 0);
        due("nothing comes back", x.bidder(3, 2), 20);
        due("no joy", x.bidder(3, 3), 0);
        due("paid so far", x.count(7), 58);
        due("joy of all", x.count(8), 45);
        due("no evening", x.sale(0), NOT);
        due("no evening, outside", x.sale(10000), OUTSIDE);
        due("tonight", x.count(2), 3);
    }

    private static void saleBySecond() {
        promise = "11 sale";
        String start = "second;reserve 10;" + times(7, "clear 10") + ";" + THREE;
        SunsetSale x = told(start);
        bids(x, 30, 30, 9);
        due("as much", x.sale(0), 30);
        due("the least of them", x.evening(0, 3), 0);
        bids(x, 20, 9);
        due("the other below the reserve", x.sale(0), 10);
        bids(x, 9, 25, 12);
        due("the second", x.sale(0), 12);
        due("owner", x.evening(2, 3), 1);
        bids(x, 9, 9, 9);
        due("all below the reserve", x.sale(0), NONE);
        due("nobody", x.evening(3, 3), NONE);
        due("it is bright all the same", x.evening(3, 5), 1);
        due("bids are gone", x.count(6), 0);
        bids(x, NONE, NONE, 10);
        due("alone with the reserve", x.sale(0), 10);
        due("owner", x.evening(4, 3), 2);
        bids(x, 11, NONE, 12);
        due("the second is bidder 0", x.sale(0), 11);
        due("owner", x.evening(5, 3), 2);
        due("nobody bids", x.sale(0), NONE);
        due("paid so far", x.count(7), 73);
        due("purse", x.bidder(2, 2), 69);
    }

    /** Whether the first sales by z are bright at all is told by digits less than the chance. */
    private static void saleBrightness() {
        promise = "11 sale";
        int[] lots = {0, 1, 6, 9999};
        int[][] digits = {
            {1, 7, 9, 9, 6, 9, 0}, {3, 0, 3, 4, 2, 7, 9}, {8, 1, 0, 6, 0, 1, 9}, {3, 2, 8, 2, 3, 0, 5}};
        for (int i = 0; i < lots.length; i++) {
            SunsetSale dull = new SunsetSale();
            SunsetSale bright = new SunsetSale();
            for (int e = 0; e < 7; e++) {
                tell(dull, "clear " + digits[i][e]);
                tell(bright, "smoky " + (digits[i][e] + 1));
            }
            for (int e = 0; e < 7; e++) {
                dull.sale(lots[i]);
                bright.sale(lots[i]);
                due("dull " + e + " by " + lots[i], dull.evening(e, 5), 0);
                due("bright " + e + " by " + lots[i], bright.evening(e, 5), 1);
            }
        }
    }

    private static void price() {
        promise = "12 price";
        SunsetSale x = told("clear 5;clear 5");
        due("price(0, 99)", x.price(0, 99), 0);
        due("price(0, 0)", x.price(0, 0), 99);
        due("price(1, 7)", x.price(1, 7), 0);
        x.sale(0);
        due("of one gone by", x.price(0, 3), 0);
        due("of one gone by", x.evening(0, 2), 3);
        due("price(2, 0)", x.price(2, 0), UNKNOWN);
        due("price(-1, 100)", x.price(-1, 100), UNKNOWN);
        due("price(1, 100)", x.price(1, 100), OUTSIDE);
        due("price(1, -1)", x.price(1, -1), OUTSIDE);
        for (int n : WRONG) {
            due("price(n, 0)", x.price(n, 0), UNKNOWN);
            due("price(0, n)", x.price(0, n), OUTSIDE);
        }
        due("price stays", x.evening(1, 2), 7);
        due("what can be undone", x.count(10), 5);
    }

    private static void says() {
        promise = "13 says";
        SunsetSale x = told("clear 5;clear 5");
        due("says(0, 0, 10)", x.says(0, 0, 10), 5);
        due("says(0, 0, 0)", x.says(0, 0, 0), 10);
        due("says(2, 1, 3)", x.says(2, 1, 3), 5);
        due("says(2, 1, 4)", x.says(2, 1, 4), 3);
        due("says(1, 1, 4)", x.says(1, 1, 4), 5);
        due("says(3, 0, 0)", x.says(3, 0, 0), UNKNOWN);
        due("says(-1, 0, 0)", x.says(-1, 0, 0), UNKNOWN);
        due("says(0, 2, 11)", x.says(0, 2, 11), UNKNOWN);
        due("says(0, -1, 0)", x.says(0, -1, 0), UNKNOWN);
        due("says(0, 0, 11)", x.says(0, 0, 11), OUTSIDE);
        due("says(0, 0, -1)", x.says(0, 0, -1), OUTSIDE);
        for (int n : WRONG) {
            due("says(n, 0, 0)", x.says(n, 0, 0), UNKNOWN);
            due("says(0, n, 0)", x.says(0, n, 0), UNKNOWN);
            due("says(0, 0, n)", x.says(0, 0, n), OUTSIDE);
        }
        due("what can be undone", x.count(10), 5);
        x.sale(0);
        due("gone by", x.says(0, 0, 1), NOT);
        due("gone by, outside", x.says(0, 0, 11), OUTSIDE);
        due("tonight", x.says(0, 1, 1), 5);
        x.sale(0);
        due("gone by", x.says(0, 1, 1), NOT);
    }

    private static void undo() {
        promise = "14 undo";
        SunsetSale x = told(FAIR);
        due("none", x.undo(), NOT);
        x.bid(0, 20);
        x.says(1, 0, 9);
        x.price(0, 12);
        x.bid(3, 30);
        x.sale(3);
        due("can be undone", x.count(10), 5);
        due("the sale", x.undo(), 4);
        due("tonight", x.count(2), 0);
        due("bids are back", x.count(6), 2);
        due("bid is back", x.bidder(3, 4), 30);
        due("purse is back", x.bidder(3, 2), 50);
        due("joy is back", x.bidder(3, 3), 0);
        due("owner", x.evening(0, 3), NONE);
        due("paid", x.evening(0, 4), 0);
        due("bright", x.evening(0, 5), NONE);
        due("paid so far", x.count(7), 0);
        due("the bid", x.undo(), 3);
        due("one bid", x.count(6), 1);
        due("the price", x.undo(), 2);
        due("price is back", x.evening(0, 2), 0);
        due("what was said", x.undo(), 1);
        due("the first bid", x.undo(), 0);
        due("no bid", x.count(6), 0);
        due("none", x.undo(), NOT);
        due("it was 5", x.says(1, 0, 5), 5);
        x.bid(0, 100);
        x.price(0, 0);
        x.says(0, 3, 0);
        due("refused ones don't count", x.count(10), 2);
        for (int n = 0; n < 20; n++) {
            x.price(0, n);
        }
        due("the last 8", x.count(10), 8);
        for (int left = 7; left >= 0; left--) {
            due("one of 8", x.undo(), left);
        }
        due("the 9th", x.undo(), NOT);
        due("price by then", x.evening(0, 2), 11);
        x.bid(0, NONE);
        due("nothing became other", x.undo(), 0);
        put(x, "night");
        x.seen(0, 1);
        x.price(0, 50);
        due("undo()", x.undo(), 0);
        due("the text stays", x.count(11), 5);
        due("seen stays", x.count(9), 1);
    }

    private static void keepAndBack() {
        promise = "15 keep, 16 back";
        SunsetSale x = told(FAIR);
        due("keep(2)", x.keep(2), UNKNOWN);
        due("keep(-1)", x.keep(-1), UNKNOWN);
        due("back(2)", x.back(2), UNKNOWN);
        due("back(-1)", x.back(-1), UNKNOWN);
        for (int n : WRONG) {
            due("keep(n)", x.keep(n), UNKNOWN);
            due("back(n)", x.back(n), UNKNOWN);
        }
        due("back(0)", x.back(0), NOT);
        x.bid(0, 20);
        x.says(0, 2, 8);
        x.price(2, 33);
        due("keep(0)", x.keep(0), 0);
        due("what can be undone stays", x.count(10), 3);
        due("back(1)", x.back(1), NOT);
        x.sale(0);
        due("keep(1)", x.keep(1), 1);
        x.sale(0);
        x.price(2, 1);
        x.says(0, 2, 1);
        put(x, "first");
        x.seen(1, 0);
        due("back(0)", x.back(0), 0);
        due("tonight", x.count(2), 0);
        due("nothing can be undone", x.count(10), 0);
        due("undo()", x.undo(), NOT);
        due("bid", x.bidder(0, 4), 20);
        due("purse", x.bidder(0, 2), 90);
        due("joy", x.bidder(0, 3), 0);
        due("price", x.evening(2, 2), 33);
        due("bright", x.evening(0, 5), NONE);
        due("paid so far", x.count(7), 0);
        due("said", x.says(0, 2, 8), 8);
        due("the text stays", x.count(11), 5);
        due("seen stays", x.count(9), 1);
        x.bid(0, 1);
        due("back(1)", x.back(1), 1);
        due("owner", x.evening(0, 3), 0);
        due("paid", x.evening(0, 4), 20);
        due("bright", x.evening(0, 5), 1);
        due("purse", x.bidder(0, 2), 70);
        due("joy", x.bidder(0, 3), 40);
        due("paid so far", x.count(7), 20);
        x.bid(2, 9);
        due("back(1), still kept", x.back(1), 1);
        due("no bid", x.count(6), 0);
        due("keep(0) anew", x.keep(0), 1);
        x.sale(0);
        due("back(0)", x.back(0), 1);
        x.sale(0);
        x.sale(0);
        due("keep(0), none tonight", x.keep(0), 3);
        due("west()", x.west(), 1);
        due("back(0) behind a text", x.back(0), NOT);
        due("back(1) behind a text", x.back(1), NOT);
    }

    private static void gain() {
        promise = "17 gain";
        SunsetSale x = told(FAIR);
        due("plain", x.gain(0, 0, 20), 110 + LIFT);
        due("blind by clouds", x.gain(1, 1, 11), 175 + LIFT);
        due("sick by smoke", x.gain(2, 2, 20), LIFT - 50);
        due("dealer", x.gain(3, 1, 99), 150 + 7 * 49 - 990 + LIFT);
        due("more than the purse", x.gain(1, 0, 99), 250 + 3 * 49 - 990 + LIFT);
        due("for nothing", x.gain(2, 1, 0), 90 + 35 + LIFT);
        x.sale(0);
        due("gone by", x.gain(0, 0, 20), 110 + LIFT);
        due("gain(4, 0, 0)", x.gain(4, 0, 0), UNKNOWN);
        due("gain(-1, 0, 0)", x.gain(-1, 0, 0), UNKNOWN);
        due("gain(0, 3, 100)", x.gain(0, 3, 100), UNKNOWN);
        due("gain(0, -1, 0)", x.gain(0, -1, 0), UNKNOWN);
        due("gain(0, 0, 100)", x.gain(0, 0, 100), OUTSIDE);
        due("gain(0, 0, -1)", x.gain(0, 0, -1), OUTSIDE);
        for (int n : WRONG) {
            due("gain(n, 0, 0)", x.gain(n, 0, 0), UNKNOWN);
            due("gain(0, n, 0)", x.gain(0, n, 0), UNKNOWN);
            due("gain(0, 0, n)", x.gain(0, 0, n), OUTSIDE);
        }
    }

    private static void limit() {
        promise = "18 limit";
        SunsetSale x = told(FAIR);
        int[] want = {32, 29, 26, 41};
        for (int b = 0; b < 4; b++) {
            due("limit(" + b + ")", x.limit(b), want[b]);
        }
        due("limit(4)", x.limit(4), UNKNOWN);
        due("limit(-1)", x.limit(-1), UNKNOWN);
        for (int n : WRONG) {
            due("limit(n)", x.limit(n), UNKNOWN);
        }
        x.sale(0);
        due("by clouds", x.limit(0), 18);
        x.sale(0);
        due("by smoke", x.limit(0), 16);
        x.sale(0);
        due("no evening", x.limit(0), NOT);
        due("no evening, unknown", x.limit(4), UNKNOWN);
        SunsetSale y = told("clear 10;clear 10;clear 0;plain 99 99;plain 99 1;plain 99 0;plain 0 9;refund 10");
        due("the top", y.limit(0), 99);
        due("the purse", y.limit(1), 10);
        due("an empty purse", y.limit(2), 0);
        due("no worth", y.limit(3), 0);
        y.bid(1, 4);
        y.sale(0);
        due("the purse left", y.limit(1), 6);
        y.sale(0);
        due("all comes back", y.limit(0), 99);
        due("all comes back, of no worth", y.limit(3), 90);
        SunsetSale z = told("clear 10;plain 1 9;plain 2 9");
        due("limit 1", z.limit(0), 1);
        due("limit 2", z.limit(1), 2);
    }

    private static void has() {
        promise = "19 has";
        SunsetSale x = told(FAIR);
        bids(x, 20, 25, 7, 25);
        due("has(0)", x.has(0), LIFT);
        due("has(1)", x.has(1), 250 + 3 * 12 - 250 + LIFT);
        due("has(3)", x.has(3), LIFT);
        bids(x, 90);
        due("too dear", x.has(0), 280 + 3 * 45 - 900 + LIFT);
        due("has(1)", x.has(1), LIFT);
        bids(x, 7, 7, 7, 7);
        due("below the reserve", x.has(0), LIFT);
        due("has(4)", x.has(4), UNKNOWN);
        due("has(-1)", x.has(-1), UNKNOWN);
        for (int n : WRONG) {
            due("has(n)", x.has(n), UNKNOWN);
        }
        x.sale(0);
        x.sale(0);
        x.sale(0);
        due("no evening", x.has(0), NOT);
        due("no evening, unknown", x.has(4), UNKNOWN);
        SunsetSale y = told("second;reserve 10;clear 5;" + THREE);
        bids(y, 15, 40, 20);
        due("by second", y.has(1), 250 - 200 + LIFT);
        due("by second, not his", y.has(2), LIFT);
    }

    private static void reply() {
        promise = "20 reply";
        SunsetSale x = told(FAIR);
        bids(x, 20, 25, 7, 25);
        due("reply(0, 0)", x.reply(0, 0), 25);
        due("reply(0, 1)", x.reply(0, 1), 66 + LIFT);
        due("reply(1, 0)", x.reply(1, 0), 25);
        due("reply(3, 0)", x.reply(3, 0), 26);
        due("reply(3, 1)", x.reply(3, 1), 350 + 39 - 260 + LIFT);
        due("bids as they were", x.bidder(3, 4), 25);
        due("how many", x.count(6), 4);
        due("reply(0, 2)", x.reply(0, 2), OUTSIDE);
        due("reply(0, -1)", x.reply(0, -1), OUTSIDE);
        due("reply(4, 2)", x.reply(4, 2), UNKNOWN);
        due("reply(-1, 0)", x.reply(-1, 0), UNKNOWN);
        for (int n : WRONG) {
            due("reply(n, 0)", x.reply(n, 0), UNKNOWN);
            due("reply(0, n)", x.reply(0, n), OUTSIDE);
        }
        x.sale(0);
        x.sale(0);
        x.sale(0);
        due("no evening", x.reply(0, 0), NOT);
        due("no evening, outside", x.reply(0, 2), OUTSIDE);
        SunsetSale y = told("second;reserve 10;clear 5;" + THREE + ";plain 20 9;plain 99 1");
        bids(y, NONE, 20, 12, NONE, 3);
        due("as much as the most", y.reply(0, 0), 20);
        due("for it", y.reply(0, 1), 50 + LIFT);
        due("more than the most", y.reply(2, 0), 21);
        due("the least that has it", y.reply(1, 0), 12);
        due("for the next bid", y.reply(1, 1), 130 + LIFT);
        due("too dear", y.reply(3, 0), NONE);
        due("too dear", y.reply(3, 1), LIFT);
        due("the purse is too small", y.reply(4, 0), NONE);
        bids(y, NONE, NONE, NONE);
        due("all of the purse", y.reply(4, 0), 10);
        due("all of the purse", y.reply(4, 1), 495 - 100 + LIFT);
        due("no gain, rather none", y.reply(3, 0), NONE);
        SunsetSale z = told("clear 5;plain 9 9;plain 9 0");
        due("a bid of 0", z.reply(0, 0), 0);
        due("a bid of 0", z.reply(0, 1), 45 + LIFT);
        due("a bid of 0 by an empty purse", z.reply(1, 0), 0);
        z.bid(0, 0);
        due("as much by a later one", z.reply(1, 0), NONE);
    }

    private static void tempted() {
        promise = "21 tempted";
        SunsetSale x = told("second;reserve 10;clear 5;" + THREE + ";plain 20 9");
        bids(x, NONE, 20, 12);
        due("two", x.tempted(), 5);
        bids(x, 90);
        due("who has it would keep it, the others find it too dear", x.tempted(), 0);
        bids(x, 0, 50, 49);
        due("who pays too much", x.tempted(), 2);
        due("bids as they were", x.bidder(1, 4), 50);
        tell(x, "first");
        due("nobody bids", x.tempted(), 7);
        bids(x, 10);
        due("who has it at the reserve", x.tempted(), 6);
        x.sale(0);
        due("no evening", x.tempted(), NOT);
    }

    private static void cartel() {
        promise = "22 cartel";
        SunsetSale x = told("second;reserve 10;clear 5;" + THREE);
        due("nobody has it", x.cartel(0), NONE);
        due("nobody has it", x.cartel(1), NONE);
        bids(x, 30, 25, 20);
        due("all", x.cartel(0), 15);
        due("all", x.cartel(1), 7);
        due("bids as they were", x.count(6), 3);
        bids(x, 30, 25, 9);
        due("the least set", x.cartel(0), 15);
        due("the least set", x.cartel(1), 3);
        bids(x, 9, 25, 25);
        due("the owner's", x.cartel(0), 15);
        due("the owner's", x.cartel(1), 6);
        bids(x, 20, 11, 25);
        due("with bidder 0", x.cartel(0), 10);
        due("with bidder 0", x.cartel(1), 7);
        bids(x, 20, 9, 25);
        due("with bidder 0 alone", x.cartel(0), 10);
        due("with bidder 0 alone", x.cartel(1), 5);
        bids(x, 9, 9, 25);
        due("nothing to save", x.cartel(0), 0);
        due("nothing to save", x.cartel(1), 5);
        bids(x, 9, 9, 9);
        due("below the reserve", x.cartel(0), NONE);
        due("cartel(2)", x.cartel(2), OUTSIDE);
        due("cartel(-1)", x.cartel(-1), OUTSIDE);
        for (int n : WRONG) {
            due("cartel(n)", x.cartel(n), OUTSIDE);
        }
        x.sale(0);
        due("no evening", x.cartel(0), NOT);
        due("no evening, outside", x.cartel(2), OUTSIDE);
        tell(x, "first");
        bids(x, 30, 31, 20);
        due("by first", x.cartel(0), 0);
        due("by first", x.cartel(1), 3);
        SunsetSale alone = told("second;clear 5;plain 50 9");
        bids(alone, 30);
        due("fewer than two", alone.cartel(0), NONE);
        due("fewer than two", alone.cartel(1), NONE);
    }

    private static void otherwise() {
        promise = "23 otherwise";
        SunsetSale x = told("reserve 10;clear 5;" + THREE);
        due("nobody has it", x.otherwise(), NONE);
        bids(x, 30, 25, 20);
        due("by second", x.otherwise(), 25);
        bids(x, 30, 9, 9);
        due("the reserve", x.otherwise(), 10);
        bids(x, 9, 9, 9);
        due("below the reserve", x.otherwise(), NONE);
        tell(x, "second");
        bids(x, 30, 31, 20);
        due("by first", x.otherwise(), 31);
        x.sale(0);
        due("no evening", x.otherwise(), NOT);
    }

    private static void season() {
        promise = "24 season";
        SunsetSale x = told("clear 5;clear 10;clear 2;plain 30 5;plain 30 3;sick 1 0");
        due("for nothing", x.season(0, 0), 150 + 300 + 60);
        due("for nothing", x.season(0, 1), 7);
        x.price(0, 10);
        x.price(1, 25);
        x.price(2, 6);
        due("two", x.season(0, 0), 100);
        due("the least set", x.season(0, 1), 3);
        due("the purse", x.season(1, 0), 50);
        due("the least of two", x.season(1, 1), 1);
        due("an empty purse", x.season(2, 0), 0);
        due("an empty purse", x.season(2, 1), 0);
        x.price(1, 20);
        due("just the purse", x.season(1, 0), 150);
        due("just the purse", x.season(1, 1), 3);
        x.price(1, 24);
        due("the better one", x.season(1, 1), 2);
        x.sale(0);
        due("from tonight on", x.season(0, 0), 60);
        due("bits by numbers", x.season(0, 1), 2);
        x.price(1, 31);
        x.price(2, 7);
        due("nothing is worth it", x.season(0, 0), 0);
        due("nothing is worth it", x.season(0, 1), 0);
        x.price(2, 0);
        due("the last", x.season(2, 0), 2 + 40);
        due("the last", x.season(2, 1), 4);
        due("season(3, 2)", x.season(3, 2), UNKNOWN);
        due("season(-1, 0)", x.season(-1, 0), UNKNOWN);
        due("season(0, 2)", x.season(0, 2), OUTSIDE);
        due("season(0, -1)", x.season(0, -1), OUTSIDE);
        for (int n : WRONG) {
            due("season(n, 0)", x.season(n, 0), UNKNOWN);
            due("season(0, n)", x.season(0, n), OUTSIDE);
        }
        x.sale(0);
        x.sale(0);
        due("all gone by", x.season(0, 0), 0);
        due("all gone by", x.season(0, 1), 0);
    }

    private static void odds(SunsetSale x, int k, int above, int below) {
        due("bright(" + k + ", 0)", x.bright(k, 0), above);
        due("bright(" + k + ", 1)", x.bright(k, 1), below);
    }

    private static void bright() {
        promise = "25 bright";
        SunsetSale x = told("clear 5;smoky 10;cloudy 4");
        odds(x, 0, 1, 1);
        odds(x, 1, 1, 1);
        odds(x, 2, 3, 5);
        odds(x, 3, 1, 10);
        odds(x, 4, 0, 1);
        odds(x, 7, 0, 1);
        x.sale(0);
        odds(x, 2, 1, 5);
        odds(x, 3, 0, 1);
        due("bright(8, 0)", x.bright(8, 0), OUTSIDE);
        due("bright(-1, 0)", x.bright(-1, 0), OUTSIDE);
        due("bright(0, 2)", x.bright(0, 2), OUTSIDE);
        due("bright(0, -1)", x.bright(0, -1), OUTSIDE);
        for (int n : WRONG) {
            due("bright(n, 0)", x.bright(n, 0), OUTSIDE);
            due("bright(0, n)", x.bright(0, n), OUTSIDE);
        }
        x.sale(0);
        x.sale(0);
        odds(x, 0, 1, 1);
        odds(x, 1, 0, 1);
        SunsetSale y = told(times(7, "clear 3"));
        odds(y, 7, 2187, 10000000);
        odds(y, 1, 9176457, 10000000);
        SunsetSale z = told(times(7, "clear 5"));
        odds(z, 4, 1, 2);
        odds(z, 7, 1, 128);
        odds(z, 0, 1, 1);
    }

    private static void scoreAndBest() {
        promise = "26 score, 27 best";
        SunsetSale x = told("clear 10;clear 0;clear 10;clear 0");
        x.says(0, 0, 10);
        x.says(1, 0, 7);
        x.says(0, 1, 9);
        x.says(1, 1, 0);
        x.says(0, 2, 4);
        x.says(2, 2, 10);
        due("none gone by", x.score(0), 0);
        due("none gone by", x.best(), NONE);
        x.sale(0);
        due("score(0)", x.score(0), 0);
        due("score(1)", x.score(1), 9);
        due("score(2)", x.score(2), 25);
        due("best()", x.best(), 0);
        x.sale(0);
        due("score(0)", x.score(0), 81);
        due("score(1)", x.score(1), 9);
        due("score(2)", x.score(2), 50);
        due("best()", x.best(), 1);
        x.sale(0);
        due("score(0)", x.score(0), 117);
        due("score(1)", x.score(1), 34);
        due("score(2)", x.score(2), 50);
        x.undo();
        due("score(1), undone", x.score(1), 9);
        x.sale(0);
        x.says(1, 3, 4);
        x.says(2, 3, 0);
        x.sale(0);
        due("score(1)", x.score(1), 50);
        due("score(2)", x.score(2), 50);
        due("of several the least", x.best(), 1);
        due("score(3)", x.score(3), UNKNOWN);
        due("score(-1)", x.score(-1), UNKNOWN);
        for (int n : WRONG) {
            due("score(n)", x.score(n), UNKNOWN);
        }
        SunsetSale y = told("clear 10");
        y.says(2, 0, 10);
        y.sale(0);
        due("the last is best", y.best(), 2);
    }

    private static void seen() {
        promise = "28 seen, 29 forget";
        SunsetSale x = told(FOUR_BIDDERS);
        due("forget() nothing", x.forget(), 0);
        due("seen(4, 0)", x.seen(4, 0), UNKNOWN);
        due("seen(-1, 2)", x.seen(-1, 2), UNKNOWN);
        due("seen(0, 2)", x.seen(0, 2), OUTSIDE);
        due("seen(0, -1)", x.seen(0, -1), OUTSIDE);
        for (int n : WRONG) {
            due("seen(n, 0)", x.seen(n, 0), UNKNOWN);
            due("seen(0, n)", x.seen(0, n), OUTSIDE);
        }
        due("nothing seen", x.count(9), 0);
        for (int n = 1; n <= 6; n++) {
            due("seen " + n, x.seen(n % 4, n % 2), n);
        }
        due("a seventh", x.seen(0, 0), FULL);
        due("a seventh, outside", x.seen(0, 2), OUTSIDE);
        due("a seventh, unknown", x.seen(4, 0), UNKNOWN);
        due("six seen", x.count(9), 6);
        due("forget()", x.forget(), 6);
        due("nothing seen", x.count(9), 0);
        due("buyers() then", x.buyers(), 47);
        due("seen anew", x.seen(0, 1), 1);
        due("buyers() by that alone", x.buyers(), 14);
    }

    private static void buyers() {
        promise = "30 buyers";
        SunsetSale x = told(FOUR_BIDDERS);
        due("nothing seen", x.buyers(), 47);
        x.seen(0, 1);
        due("his are down", x.buyers(), 14);
        x.seen(2, 1);
        due("and his", x.buyers(), 10);
        x.seen(3, 1);
        due("the blind one", x.buyers(), 2);
        x.seen(1, 0);
        due("a blind one has none", x.buyers(), 2);
        x.seen(3, 0);
        due("both at once", x.buyers(), 0);
        x.forget();
        x.seen(2, 0);
        due("he or nobody", x.buyers(), 36);
        x.seen(0, 0);
        due("nobody", x.buyers(), 32);
        x.forget();
        x.seen(1, 0);
        due("a blind one's are never down", x.buyers(), 47);
        x.seen(1, 1);
        due("a blind one's were down", x.buyers(), 0);
        x.forget();
        x.seen(3, 0);
        x.seen(0, 1);
        due("he alone", x.buyers(), 8);
        due("none", tell(x, "west"), 1);
        due("nobody to buy", x.buyers(), 32);
    }

    private static void count() {
        promise = "31 count";
        SunsetSale x = told("second;" + FAIR);
        bids(x, 20, 7, 20, 15);
        x.sale(0);
        bids(x, NONE, 9, 12);
        x.seen(0, 1);
        x.seen(1, 0);
        put(x, "fir");
        int[] want = {3, 4, 1, 1, 8, 5, 2, 20, 40, 2, 8, 3};
        for (int what = 0; what < 12; what++) {
            due("count(" + what + ")", x.count(what), want[what]);
        }
        due("count(12)", x.count(12), OUTSIDE);
        due("count(-1)", x.count(-1), OUTSIDE);
        for (int n : WRONG) {
            due("count(n)", x.count(n), OUTSIDE);
        }
        x.sale(0);
        due("paid, less what came back", x.count(7), 20 + 9 - 4);
        due("joy of all", x.count(8), 40 + 5);
        x.sale(0);
        due("tonight, all gone by", x.count(2), 3);
    }

    /** As many evenings and bidders as there can be, so that no row is too short. */
    private static void fullHouse() {
        promise = "20 to 25, with all places taken";
        SunsetSale x = told("second;" + times(7, "clear 10") + ";" + times(5, "plain 9 9"));
        bids(x, 5, 6, 7, 8, 9);
        due("otherwise()", x.otherwise(), 9);
        due("cartel(0)", x.cartel(0), 8);
        due("cartel(1)", x.cartel(1), 31);
        due("has(4)", x.has(4), 10 + LIFT);
        due("reply(4, 0)", x.reply(4, 0), 9);
        due("reply(0, 0)", x.reply(0, 0), NONE);
        due("tempted()", x.tempted(), 0);
        due("season(4, 0)", x.season(4, 0), 630);
        due("season(4, 1)", x.season(4, 1), 127);
        due("bright(7, 0)", x.bright(7, 0), 1);
        for (int e = 0; e < 7; e++) {
            x.bid(4, 9);
            due("sale " + e, x.sale(e), e == 0 ? 8 : 0);
        }
        due("score(0)", x.score(0), 175);
        due("best()", x.best(), 0);
        due("season(4, 0), all gone by", x.season(4, 0), 0);
        due("bright(0, 0), all gone by", x.bright(0, 0), 1);
        due("limit(4), all gone by", x.limit(4), NOT);
        due("joy", x.bidder(4, 3), 63);
        due("purse", x.bidder(4, 2), 82);
        for (int b = 0; b < 5; b++) {
            x.seen(b, b == 4 ? 0 : 1);
        }
        due("buyers()", x.buyers(), 16);
    }
}
