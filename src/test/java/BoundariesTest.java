import java.math.BigInteger;

/** Each sentence of the document that names a boundary has a test of its own here, under the sentence's words. */
public final class BoundariesTest {
    private static final int NONE = -1;
    private static final int UNKNOWN = -2;
    private static final int OUTSIDE = -3;
    private static final int NOT = -4;
    private static final int FULL = -5;
    private static final int LIFT = 99999;
    private static final String[] EVENING_WORDS = {"clear", "cloudy", "smoky"};
    private static final String[] BIDDER_WORDS = {"plain", "blind", "sick", "dealer"};
    private static final String[] BARE_WORDS = {"west", "first", "second", "night"};

    private static String sentence = "";
    private static int sentences = 0;
    private static int checks = 0;
    private static int wrong = 0;

    private static void says(String words) {
        sentence = words;
        sentences++;
    }

    private static void due(String call, int got, int want) {
        checks++;
        if (got != want) {
            wrong++;
            System.out.println("\"" + sentence + "\": " + call + " answered " + got + ", due is " + want);
        }
    }

    private static void put(SunsetSale x, String text) {
        x.erase();
        for (int i = 0; i < text.length(); i++) {
            x.write(text.charAt(i));
        }
    }

    private static int tell(SunsetSale x, String text) {
        put(x, text);
        return x.west();
    }

    private static SunsetSale told(String text) {
        SunsetSale x = new SunsetSale();
        due("west() of '" + text + "'", tell(x, text), text.split(";").length);
        return x;
    }

    private static void fault(SunsetSale x, String text, int want) {
        put(x, text);
        due("fault() of '" + text + "'", x.fault(), want);
    }

    private static void fault(String text, int want) {
        fault(new SunsetSale(), text, want);
    }

    private static void bids(SunsetSale x, int... bids) {
        for (int bidder = 0; bidder < bids.length; bidder++) {
            x.bid(bidder, bids[bidder]);
        }
    }

    private static String times(int n, String clause) {
        return (clause + ";").repeat(n).substring(0, n * (clause.length() + 1) - 1);
    }

    private static String blanks(int n) {
        return " ".repeat(n);
    }

    public static void main(String[] args) {
        evenings();
        bidders();
        atFirst();
        letters();
        clauses();
        oneTooMany();
        wordsAndBlanks();
        numbers();
        tooSoon();
        order();
        behindTheText();
        worths();
        saleEdges();
        brightness();
        refunds();
        kinds();
        eveningAndBidderTold();
        bidEdges();
        pricesAndSayings();
        undoneEdges();
        keptEdges();
        gainEdges();
        limitEdges();
        hasEdges();
        replyEdges();
        temptedEdges();
        cartelEdges();
        otherwiseEdges();
        seasonEdges();
        oddsEdges();
        scoreEdges();
        sightEdges();
        buyerEdges();
        countEdges();
        lastCall();
        System.out.println(sentences + " sentences, " + checks + " answers looked at, " + wrong + " not as due");
        if (wrong != 0) {
            System.exit(1);
        }
    }

    private static void evenings() {
        says("EVENINGS are 0, 1 .. as they come, 7 at most (none at first)");
        SunsetSale x = new SunsetSale();
        due("count(0), at first", x.count(0), 0);
        due("evening(0, 0), at first", x.evening(0, 0), UNKNOWN);
        for (int n = 1; n <= 7; n++) {
            due("evening " + n, tell(x, EVENING_WORDS[n % 3] + n), 1);
            due("count(0)", x.count(0), n);
            due("the last one's kind", x.evening(n - 1, 0), n % 3);
            due("none behind it", x.evening(n, 0), UNKNOWN);
        }
        for (String word : EVENING_WORDS) {
            due("an eighth", tell(x, word + " 1"), NOT);
            due("count(0)", x.count(0), 7);
        }
        says("with a CHANCE (0 .. 10 tenths) to be BRIGHT; of a CLOUDY one that is 2 tenths less than told (0 at least)");
        for (int chance = 0; chance <= 10; chance++) {
            SunsetSale y = told("clear " + chance + ";cloudy " + chance + ";smoky " + chance);
            due("clear " + chance, y.evening(0, 1), chance);
            due("cloudy " + chance, y.evening(1, 1), chance < 2 ? 0 : chance - 2);
            due("smoky " + chance, y.evening(2, 1), chance);
        }
    }

    private static void bidders() {
        says("BIDDERS are 0, 1 .. as they come, 5 at most (none at first)");
        SunsetSale x = new SunsetSale();
        due("count(1), at first", x.count(1), 0);
        due("bidder(0, 0), at first", x.bidder(0, 0), UNKNOWN);
        for (int n = 1; n <= 5; n++) {
            due("bidder " + n, tell(x, BIDDER_WORDS[n % 4] + n + " 1"), 1);
            due("count(1)", x.count(1), n);
            due("the last one's kind", x.bidder(n - 1, 0), n % 4);
            due("nobody behind him", x.bidder(n, 0), UNKNOWN);
        }
        for (String word : BIDDER_WORDS) {
            due("a sixth", tell(x, word + " 1 1"), NOT);
            due("count(1)", x.count(1), 5);
        }
        says("of a WORTH (0 .. 99), with a PURSE (0 .. 99 tens)");
        SunsetSale y = told("plain 0 0;blind 99 99;sick 0 99;dealer 99 0");
        int[] worths = {0, 99, 0, 99};
        int[] purses = {0, 990, 990, 0};
        for (int b = 0; b < 4; b++) {
            due("worth of " + b, y.bidder(b, 1), worths[b]);
            due("purse of " + b, y.bidder(b, 2), purses[b]);
        }
    }

    private static void atFirst() {
        says("A new object: No EVENINGS, nobody");
        SunsetSale empty = new SunsetSale();
        for (int what = 0; what < 12; what++) {
            due("count(" + what + ")", empty.count(what), 0);
        }
        says("RULE is 0 FIRST (as at first), 1 SECOND; RESERVE 0 .. 99 (0 at first); REFUND 0 .. 10 tenths (0 at first)");
        SunsetSale x = new SunsetSale();
        int[] low = {0, 0, 0};
        int[] top = {1, 99, 10};
        String[] texts = {"second;reserve 99;refund 10", "first;reserve 0;refund 0"};
        for (int i = 0; i < 3; i++) {
            due("count(" + (3 + i) + "), at first", x.count(3 + i), low[i]);
        }
        due("west()", tell(x, texts[0]), 3);
        for (int i = 0; i < 3; i++) {
            due("count(" + (3 + i) + "), at the top", x.count(3 + i), top[i]);
        }
        due("west()", tell(x, texts[1]), 3);
        for (int i = 0; i < 3; i++) {
            due("count(" + (3 + i) + "), at the bottom", x.count(3 + i), low[i]);
        }
        says("west: all as at first");
        due("west()", tell(x, "clear 1;plain 1 1;" + texts[0]), 5);
        due("west()", tell(x, "west"), 1);
        for (int what = 0; what < 12; what++) {
            due("count(" + what + ")", x.count(what), 0);
        }
        due("evening(0, 0)", x.evening(0, 0), UNKNOWN);
        due("bidder(0, 0)", x.bidder(0, 0), UNKNOWN);
        says("night: no EVENINGS");
        due("west()", tell(x, times(7, "clear 1") + ";plain 1 1;night"), 9);
        due("count(0)", x.count(0), 0);
        due("count(1)", x.count(1), 1);
        due("sale(0)", x.sale(0), NOT);
        due("night of none", tell(x, "night"), 1);
    }

    private static void letters() {
        says("THE TEXT is a row of letters, 160 at most");
        SunsetSale x = new SunsetSale();
        for (int n = 1; n <= 160; n++) {
            due("letter " + n, x.write(n == 160 ? 'z' : ' '), n);
        }
        due("letter 161", x.write('a'), FULL);
        due("count(11)", x.count(11), 160);
        due("the 160th is read", x.fault(), 159);
        due("erase()", x.erase(), 160);
        due("the first again", x.write('a'), 1);
        says("A letter (its number, 0 .. 255)");
        due("write(0)", x.write(0), 2);
        due("write(255)", x.write(255), 3);
        due("write(-1)", x.write(-1), OUTSIDE);
        due("write(256)", x.write(256), OUTSIDE);
        due("a letter and 256 is not that letter", x.write(256 + 'a'), OUTSIDE);
        due("count(11)", x.count(11), 3);
        says("THE TEXT is empty: how many letters it had");
        due("erase()", x.erase(), 3);
        due("erase() of an empty one", x.erase(), 0);
    }

    private static void clauses() {
        says("CLAUSES with ; between, 1 to 14 (an empty TEXT ends too soon; behind the 14th no ; can stand)");
        fault("", 0);
        due("west() of an empty one", new SunsetSale().west(), NOT);
        fault("first", NONE);
        due("west() of one", tell(new SunsetSale(), "first"), 1);
        String fourteen = times(14, "first");
        fault(fourteen, NONE);
        due("west() of fourteen", tell(new SunsetSale(), fourteen), 14);
        fault(fourteen + ";", 83);
        fault(fourteen + " ;", 84);
        fault(fourteen + ";first", 83);
        fault(fourteen + ";;", 83);
        fault(times(13, "first") + ";", 78);
        fault(times(13, "first") + ";;", 78);
        fault(";", 0);
        fault("first;", 6);
        fault("first;;first", 6);
        SunsetSale x = new SunsetSale();
        due("fifteen are refused", tell(x, times(15, "second")), NOT);
        due("and none is done", x.count(3), 0);
        due("another text may have as many", tell(x, fourteen), 14);
    }

    private static void oneTooMany() {
        says("an EVENING more, of CHANCE C, an eighth cannot stand there (at its word)");
        for (String word : EVENING_WORDS) {
            fault(times(7, "clear 1") + ";" + word + " 1", 56);
            fault(times(7, "clear 1") + "; " + word, 57);
            fault(times(7, "clear 1") + ";" + word + " 11", 56);
            fault(times(6, "clear 1") + ";" + word + " 1", NONE);
            fault(told(times(7, "clear 1")), word + " 1", 0);
            fault(told(times(6, "clear 1")), "smoky 1;" + word + " 1", 8);
            fault(told(times(7, "clear 1")), "night;" + word + " 1", NONE);
            fault(told(times(7, "clear 1")), word + " 1;night", 0);
            fault(told(times(7, "clear 1")), "west;" + word + " 1", NONE);
            fault(told("clear 1"), "night;" + times(7, word + "1"), NONE);
            fault(told("clear 1"), "night;" + times(8, word + "1"), 6 + 7 * (word.length() + 2));
            fault(told("clear 1"), "west;" + times(7, word + "1"), NONE);
            fault(told("clear 1"), "west;" + times(8, word + "1"), 5 + 7 * (word.length() + 2));
        }
        SunsetSale x = told(times(6, "clear 1"));
        for (int again = 0; again < 3; again++) {
            fault(x, "clear 1", NONE);
            due("fault() asked again", x.fault(), NONE);
            fault(x, "clear 1;clear 1", 8);
        }
        says("a BIDDER more, of WORTH W, with P tens, a sixth cannot stand there");
        for (String word : BIDDER_WORDS) {
            fault(times(5, "plain 1 1") + ";" + word + " 1 1", 50);
            fault(times(5, "plain 1 1") + "; " + word, 51);
            fault(times(5, "plain 1 1") + ";" + word + " 100 1", 50);
            fault(times(4, "plain 1 1") + ";" + word + " 1 1", NONE);
            fault(told(times(5, "plain 1 1")), word + " 1 1", 0);
            fault(told(times(4, "plain 1 1")), "sick 1 1;" + word + " 1 1", 9);
            fault(told(times(5, "plain 1 1")), "night;" + word + " 1 1", 6);
            fault(told(times(5, "plain 1 1")), "west;" + word + " 1 1", NONE);
            fault(told("plain 1 1"), "west;" + times(5, word + "1 1"), NONE);
            fault(told("plain 1 1"), "west;" + times(6, word + "1 1"), 5 + 5 * (word.length() + 4));
        }
        SunsetSale y = told(times(4, "plain 1 1"));
        for (int again = 0; again < 3; again++) {
            fault(y, "plain 1 1", NONE);
            due("fault() asked again", y.fault(), NONE);
            fault(y, "plain 1 1;plain 1 1", 10);
        }
    }

    private static void wordsAndBlanks() {
        says("each is one of: west. clear C. .. night. (As written here, without points)");
        for (String word : BARE_WORDS) {
            fault(word, NONE);
            fault(word + ".", word.length());
            fault(word + " 1", word.length() + 1);
            fault(word.substring(1), 0);
            fault(word.substring(0, word.length() - 1), 0);
            fault(word + "s", 0);
            for (int i = 0; i < word.length(); i++) {
                fault(word.substring(0, i) + "x" + word.substring(i + 1), 0);
            }
        }
        says("small letters a .. z");
        for (String word : BARE_WORDS) {
            fault(word.toUpperCase(), 0);
            fault(word.substring(0, 1).toUpperCase() + word.substring(1), 0);
            fault(word.substring(0, 2) + word.substring(2).toUpperCase(), 0);
        }
        fault("first`", 5);
        fault("firsta", 0);
        fault("firstz", 0);
        fault("first{", 5);
        says("blanks (32) may stand ahead of, between and behind TOKENS");
        fault(blanks(10) + "clear" + blanks(10) + "7" + blanks(10) + ";" + blanks(10) + "night" + blanks(10), NONE);
        fault(blanks(155) + "night", NONE);
        fault("night" + blanks(155), NONE);
        fault("clear" + blanks(154) + "7", NONE);
        fault("cl ear 7", 0);
        fault("plain 1" + blanks(3) + "1 1", 12);
        for (int other : new int[] {0, 9, 10, 13, 31, 33, 160, 255}) {
            fault("night" + (char) other, 5);
            fault((char) other + "night", 0);
        }
        says("none is needed but between two words, two numbers");
        fault("clear7;plain40 9;reserve5;refund5", NONE);
        fault("clear7plain40 9", 6);
        fault("firstsecond", 0);
        fault("first second", 6);
        fault("plain40", 7);
        fault("plain409", 5);
    }

    private static void numbers() {
        says("numbers of 1 or 2 digits");
        fault("clear 7", NONE);
        fault("clear 07", NONE);
        fault("clear 00", NONE);
        fault("clear 007", 6);
        fault("plain 09 09", NONE);
        fault("plain 009 9", 6);
        fault("plain 9 009", 8);
        due("07 is 7", told("clear 07").evening(0, 1), 7);
        says("a number out of its bounds, of more digits, also");
        String[] tenths = {"clear", "cloudy", "smoky", "refund"};
        for (String word : tenths) {
            int at = word.length() + 1;
            fault(word + " 0", NONE);
            fault(word + " 10", NONE);
            fault(word + " 11", at);
            fault(word + " 99", at);
            fault(word + " 100", at);
        }
        fault("reserve 0", NONE);
        fault("reserve 99", NONE);
        fault("reserve 100", 8);
        fault("reserve 000", 8);
        for (String word : BIDDER_WORDS) {
            int at = word.length() + 1;
            fault(word + " 0 0", NONE);
            fault(word + " 99 99", NONE);
            fault(word + " 100 99", at);
            fault(word + " 99 100", at + 3);
            fault(word + " 100 100", at);
        }
        for (String wrap : new String[] {"4294967296", "4294967303", "18446744073709551623", "2147483648"}) {
            fault("clear " + wrap, 6);
            fault("plain 7 " + wrap, 8);
        }
        fault("clear " + "0".repeat(154), 6);
        says("a row of digits, any other letter");
        fault("clear -7", 6);
        fault("clear +7", 6);
        fault("clear 7.5", 7);
        fault("clear /", 6);
        fault("clear :", 6);
        fault("clear ;", 6);
        fault("7", 0);
    }

    private static void tooSoon() {
        says("or at the end, if it comes too soon (the place of the FAULT: or the length)");
        fault("", 0);
        fault(" ", 1);
        fault(blanks(160), 160);
        fault("first;", 6);
        fault("first; ", 7);
        fault("clear", 5);
        fault("clear ", 6);
        fault("clear" + blanks(155), 160);
        fault("plain", 5);
        fault("plain 1", 7);
        fault("plain 1 ", 8);
        fault("plain 1" + blanks(153), 160);
        fault("reserve", 7);
        fault("refund  ", 8);
        says("The place of the FAULT (the letter with which the TOKEN begins); NONE");
        fault("  dusk", 2);
        fault("clear   dusk", 8);
        fault("first;  123", 8);
        fault("first  !", 7);
        fault("first", NONE);
        says("A FAULT is at the first TOKEN that cannot stand there (also behind a text that had another)");
        SunsetSale x = new SunsetSale();
        String[] texts = {"clear 99", "night", "plain 9 100", "west", "plain 100 1", "second", "refund 11", "plain 1", "first"};
        int[] faults = {6, NONE, 8, NONE, 6, NONE, 7, 7, NONE};
        for (int i = 0; i < texts.length; i++) {
            fault(x, texts[i], faults[i]);
        }
        fault("clear 11;dusk;;", 6);
        fault("dusk;clear 11", 0);
        fault("first!second?", 5);
    }

    private static void order() {
        says("CLAUSES are done in their order");
        SunsetSale x = told("clear 1;plain 1 1;reserve 9;reserve 8;refund 2;refund 3;second;first;second;night;clear 4;smoky 5");
        due("count(0)", x.count(0), 2);
        due("the first behind the night", x.evening(0, 1), 4);
        due("the second", x.evening(1, 0), 2);
        due("rule", x.count(3), 1);
        due("reserve", x.count(4), 8);
        due("refund", x.count(5), 3);
        due("west amid", tell(x, "reserve 7;west;sick 2 3"), 3);
        due("reserve", x.count(4), 0);
        due("bidders", x.count(1), 1);
        due("bidder", x.bidder(0, 0), 2);
        says("what earlier texts told stays");
        due("west()", tell(x, "second;reserve 7;refund 6;clear 3"), 4);
        due("west()", tell(x, "smoky 8;blind 5 6"), 2);
        int[] want = {2, 2, 0, 1, 7, 6};
        for (int what = 0; what < 6; what++) {
            due("count(" + what + ")", x.count(what), want[what]);
        }
        due("evening 0", x.evening(0, 1), 3);
        due("bidder 0", x.bidder(0, 1), 2);
        due("bidder 1", x.bidder(1, 1), 5);
        says("THE TEXT's CLAUSES are done, and it is empty then: how many there were. NOT: it has a FAULT");
        put(x, "first;reserve 1;night;");
        due("west() of a fault at the end", x.west(), NOT);
        due("no clause is done: rule", x.count(3), 1);
        due("no clause is done: reserve", x.count(4), 7);
        due("no clause is done: evenings", x.count(0), 2);
        due("the text stays", x.count(11), 22);
        due("the fault stays", x.fault(), 22);
        "first".chars().forEach(x::write);
        due("mended", x.west(), 4);
        due("empty then", x.count(11), 0);
        due("west() of what is empty then", x.west(), NOT);
    }

    private static void behindTheText() {
        says("Behind them TONIGHT is EVENING 0, PURSES as told, nobody has JOY, BIDS; PRICES of all EVENINGS are 0; "
            + "three TELLERS say 5 of each; nothing is SEEN, nothing is kept or can be undone");
        SunsetSale x = told(times(7, "clear 10") + ";" + times(5, "plain 9 9"));
        for (int e = 0; e < 7; e++) {
            x.price(e, 90 + e);
            x.says(e % 3, e, e);
        }
        for (int e = 0; e < 6; e++) {
            x.bid(e % 5, 9);
            x.sale(e);
        }
        bids(x, 1, 2, 3, 4, 5);
        x.keep(0);
        x.keep(1);
        x.seen(4, 1);
        due("west()", tell(x, "first"), 1);
        int[] want = {7, 5, 0, 0, 0, 0, 0, 0, 0, 0, 0, 0};
        for (int what = 0; what < 12; what++) {
            due("count(" + what + ")", x.count(what), want[what]);
        }
        for (int b = 0; b < 5; b++) {
            due("purse of " + b, x.bidder(b, 2), 90);
            due("joy of " + b, x.bidder(b, 3), 0);
            due("bid of " + b, x.bidder(b, 4), NONE);
        }
        due("back(0)", x.back(0), NOT);
        due("back(1)", x.back(1), NOT);
        due("undo()", x.undo(), NOT);
        due("buyers()", x.buyers(), 63);
        for (int e = 0; e < 7; e++) {
            due("price of " + e, x.evening(e, 2), 0);
            due("owner of " + e, x.evening(e, 3), NONE);
            due("paid for " + e, x.evening(e, 4), 0);
            due("outcome of " + e, x.evening(e, 5), NONE);
            for (int t = 0; t < 3; t++) {
                due("teller " + t + " of " + e, x.says(t, e, 5), 5);
            }
        }
    }

    private static void worths() {
        says("to a BLIND one half of it, cut (as much)");
        SunsetSale x = told("blind 0 1;blind 1 1;blind 2 1;blind 3 1;blind 99 1");
        int[] blind = {0, 0, 101, 101, 4949};
        for (int b = 0; b < 5; b++) {
            due("as(" + b + ", 2)", x.as(b, 2), blind[b]);
        }
        says("to a DEALER his WORTH less 10, 0 at least (0)");
        SunsetSale y = told("dealer 0 1;dealer 9 1;dealer 10 1;dealer 11 1;dealer 99 1");
        int[] dealer = {0, 0, 0, 100, 8900};
        for (int b = 0; b < 5; b++) {
            due("as(" + b + ", 4)", y.as(b, 4), dealer[b]);
        }
        says("to a PLAIN one his WORTH (0); to a SICK one his WORTH (5)");
        SunsetSale z = told("plain 0 1;plain 99 1;sick 0 1;sick 99 1");
        int[] others = {0, 9900, 5, 9905};
        for (int b = 0; b < 4; b++) {
            due("as(" + b + ", 0)", z.as(b, 0), others[b]);
        }
    }

    private static void saleEdges() {
        says("of those who BID RESERVE or more");
        SunsetSale x = told("reserve 50;" + times(7, "clear 10") + ";plain 9 99;plain 9 99;plain 9 99");
        bids(x, 49, 49, 49);
        due("one below", x.sale(0), NONE);
        bids(x, 49, 50, NONE);
        due("just the reserve", x.sale(0), 50);
        due("his", x.evening(1, 3), 1);
        due("west()", tell(x, "reserve 0"), 1);
        bids(x, NONE, 0, NONE);
        due("a bid of 0 by a reserve of 0", x.sale(0), 0);
        due("his", x.evening(0, 3), 1);
        due("west()", tell(x, "reserve 99"), 1);
        bids(x, 98, NONE, 99);
        due("the top", x.sale(0), 99);
        due("his", x.evening(0, 3), 2);
        says("who BID most has it, of several the least");
        bids(x, NONE, 99, 99);
        x.sale(0);
        due("the least of two", x.evening(1, 3), 1);
        bids(x, 99, 99, 99);
        x.sale(0);
        due("the least of three", x.evening(2, 3), 0);
        says("by SECOND the most of BIDS of others that are RESERVE or more, RESERVE, if there is none");
        due("west()", tell(x, "second;reserve 50"), 2);
        bids(x, 90, 49, 49);
        due("one below", x.sale(0), 50);
        bids(x, 90, 50, 49);
        due("just the reserve", x.sale(0), 50);
        bids(x, 51, 90, 52);
        due("the most of others", x.sale(0), 52);
        bids(x, 90, 90, 49);
        due("as much as he", x.sale(0), 90);
        bids(x, NONE, NONE, 50);
        due("alone", x.sale(0), 50);
        due("west()", tell(x, "reserve 0"), 1);
        bids(x, 90, NONE, NONE);
        due("alone, no reserve", x.sale(0), 0);
        due("his for nothing", x.evening(0, 3), 0);
        says("Nobody BIDS so: nobody has it (it is BRIGHT or not all the same)");
        due("west()", tell(x, "night;reserve 1;clear 10;clear 0"), 4);
        bids(x, 0, 0, 0);
        due("sale(0)", x.sale(0), NONE);
        due("bright", x.evening(0, 5), 1);
        due("nobody's", x.evening(0, 3), NONE);
        due("joy of all", x.count(8), 0);
        says("Then BIDS are gone, TONIGHT is the next EVENING");
        due("count(6)", x.count(6), 0);
        due("count(2)", x.count(2), 1);
        due("sale(0)", x.sale(0), NONE);
        due("dull", x.evening(1, 5), 0);
        due("count(2), all gone by", x.count(2), 2);
        says("A SALE of TONIGHT (there is such an EVENING)");
        due("sale(0)", x.sale(0), NOT);
        due("count(2)", x.count(2), 2);
        due("of a new object", new SunsetSale().sale(0), NOT);
    }

    private static void brightness() {
        says("By a number z (0 .. 9999)");
        SunsetSale x = told(times(3, "clear 10"));
        due("sale(-1)", x.sale(-1), OUTSIDE);
        due("sale(10000)", x.sale(10000), OUTSIDE);
        due("sale(0)", x.sale(0), NONE);
        due("sale(9999)", x.sale(9999), NONE);
        due("count(2)", x.count(2), 2);
        says("it is BRIGHT, if (x times x) modulo 65521 modulo 10 is less than its CHANCE");
        for (int z = 0; z <= 9999; z += 101) {
            for (int chance = 0; chance <= 10; chance++) {
                SunsetSale y = told(times(7, "smoky " + chance));
                for (int e = 0; e < 7; e++) {
                    y.sale(z);
                    due("evening " + e + " of " + chance + " by " + z, y.evening(e, 5), digit(z, e) < chance ? 1 : 0);
                }
            }
        }
    }

    private static int digit(int z, int evening) {
        BigInteger x = BigInteger.valueOf(7919).multiply(BigInteger.valueOf(z))
            .add(BigInteger.valueOf(6151).multiply(BigInteger.valueOf(evening))).add(BigInteger.ONE);
        return x.multiply(x).mod(BigInteger.valueOf(65521)).mod(BigInteger.TEN).intValue();
    }

    private static void refunds() {
        says("If it is DULL, and not SMOKY, REFUND tenths of what he paid, cut, come back to him");
        for (int refund = 0; refund <= 10; refund++) {
            SunsetSale x = told("refund " + refund + ";clear 0;cloudy 2;smoky 0;clear 10;clear 0;sick 9 99");
            int left = 990;
            for (int e = 0; e < 5; e++) {
                int bid = e == 4 ? 99 : 19;
                int comesBack = e == 2 || e == 3 ? 0 : bid * refund / 10;
                x.bid(0, bid);
                due("sale", x.sale(e), bid);
                left -= bid - comesBack;
                due("purse behind " + e + " with refund " + refund, x.bidder(0, 2), left);
                due("what was paid for it", x.evening(e, 4), bid);
            }
            due("what was paid so far (less what came back)", x.count(7), 990 - left);
            due("joy", x.count(8), 5 + 5 + 5 + 9 + 5);
        }
        says("what comes back of 50, if it is DULL");
        for (int refund = 0; refund <= 10; refund++) {
            SunsetSale x = told("clear 10;cloudy 0;smoky 5;refund " + refund);
            due("clear", x.eveningAs(0, 1), 5 * refund);
            due("cloudy", x.eveningAs(1, 2), 5 * refund);
            due("smoky", x.eveningAs(2, 3), 0);
        }
    }

    private static void kinds() {
        says("ONE (0); PLAIN (1) under it; BLIND (2) is ONE; SICK (3) is PLAIN; DEALER (4) is PLAIN. NOT: he is none such");
        SunsetSale x = told("plain 20 1;blind 20 1;sick 20 1;dealer 20 1;clear 5;cloudy 5;smoky 5;refund 1");
        String[] bidders = {"++---", "+-+--", "++-+-", "++--+"};
        int[] worths = {2000, 1010, 2005, 1000};
        for (int b = 0; b < 4; b++) {
            for (int kind = 0; kind < 5; kind++) {
                due("as(" + b + ", " + kind + ")", x.as(b, kind), bidders[b].charAt(kind) == '+' ? worths[b] : NOT);
            }
            due("as(" + b + ", 5)", x.as(b, 5), OUTSIDE);
            due("as(" + b + ", -1)", x.as(b, -1), OUTSIDE);
        }
        due("as(4, 0)", x.as(4, 0), UNKNOWN);
        says("EVENING (0); CLEAR (1) under it; CLOUDY (2) is CLEAR; SMOKY (3) is an EVENING. NOT: it is none such");
        String[] evenings = {"++--", "+++-", "+--+"};
        int[] backs = {5, 5, 0};
        for (int e = 0; e < 3; e++) {
            for (int kind = 0; kind < 4; kind++) {
                due("eveningAs(" + e + ", " + kind + ")", x.eveningAs(e, kind), evenings[e].charAt(kind) == '+' ? backs[e] : NOT);
            }
            due("eveningAs(" + e + ", 4)", x.eveningAs(e, 4), OUTSIDE);
            due("eveningAs(" + e + ", -1)", x.eveningAs(e, -1), OUTSIDE);
        }
        due("eveningAs(3, 0)", x.eveningAs(3, 0), UNKNOWN);
    }

    private static void eveningAndBidderTold() {
        says("of one gone by: who had it (3; NONE), what he paid (4; 0 nobody), 1 it was BRIGHT, 0 (5; NONE: it is to come); "
            + "of one to come 3 NONE, 4 0");
        SunsetSale x = told("clear 10;clear 0;clear 10;plain 9 9");
        x.bid(0, 7);
        x.sale(0);
        x.sale(0);
        x.bid(0, 8);
        int[][] want = {{0, 7, 1}, {NONE, 0, 0}, {NONE, 0, NONE}};
        for (int e = 0; e < 3; e++) {
            for (int what = 3; what < 6; what++) {
                due("evening(" + e + ", " + what + ")", x.evening(e, what), want[e][what - 3]);
            }
        }
        x.sale(0);
        due("the last one gone by", x.evening(2, 4), 8);
        says("Of an EVENING: .. UNKNOWN; OUTSIDE");
        due("evening(3, 6)", x.evening(3, 6), UNKNOWN);
        due("evening(2, 6)", x.evening(2, 6), OUTSIDE);
        due("evening(2, -1)", x.evening(2, -1), OUTSIDE);
        due("evening(-1, 0)", x.evening(-1, 0), UNKNOWN);
        says("Of a BIDDER: .. BID (4; NONE). UNKNOWN; OUTSIDE");
        due("bidder(0, 4)", x.bidder(0, 4), NONE);
        due("bidder(1, 5)", x.bidder(1, 5), UNKNOWN);
        due("bidder(0, 5)", x.bidder(0, 5), OUTSIDE);
        due("bidder(0, -1)", x.bidder(0, -1), OUTSIDE);
        due("bidder(-1, 0)", x.bidder(-1, 0), UNKNOWN);
    }

    private static void bidEdges() {
        says("A BIDDER BIDS (0 .. 99), in place of what he did, or not (NONE): how many BID");
        SunsetSale x = told("clear 5;" + times(5, "plain 9 10"));
        for (int b = 0; b < 5; b++) {
            due("bid(" + b + ", 0)", x.bid(b, 0), b + 1);
        }
        due("in place", x.bid(4, 99), 5);
        due("bid", x.bidder(4, 4), 99);
        due("bid(4, 100)", x.bid(4, 100), OUTSIDE);
        due("bid(4, -2)", x.bid(4, -2), OUTSIDE);
        due("bid stays", x.bidder(4, 4), 99);
        due("not any more", x.bid(4, NONE), 4);
        due("not, as before", x.bid(4, NONE), 4);
        says("NOT: it is more than his PURSE, there is no EVENING TONIGHT");
        SunsetSale y = told("clear 10;clear 10;plain 9 1;plain 9 0");
        due("all of it", y.bid(0, 10), 1);
        due("one more", y.bid(0, 11), NOT);
        due("bid stays", y.bidder(0, 4), 10);
        due("0 of an empty purse", y.bid(1, 0), 2);
        due("1 of an empty purse", y.bid(1, 1), NOT);
        due("none of an empty purse", y.bid(1, NONE), 1);
        y.sale(0);
        due("his purse is empty now", y.bid(0, 1), NOT);
        due("0 he may", y.bid(0, 0), 1);
        y.sale(0);
        due("no evening", y.bid(0, 0), NOT);
        due("no evening, none", y.bid(0, NONE), NOT);
        due("no evening, and outside", y.bid(0, 100), OUTSIDE);
        due("no evening, and unknown", y.bid(2, 100), UNKNOWN);
        due("never an evening", told("plain 9 9").bid(0, 0), NOT);
    }

    private static void pricesAndSayings() {
        says("PRICE of an EVENING (0 .. 99): what it was. UNKNOWN; OUTSIDE");
        SunsetSale x = told(times(7, "clear 5"));
        due("price(6, 99)", x.price(6, 99), 0);
        due("price(6, 100)", x.price(6, 100), OUTSIDE);
        due("price(6, -1)", x.price(6, -1), OUTSIDE);
        due("price(7, 100)", x.price(7, 100), UNKNOWN);
        due("price(6, 0)", x.price(6, 0), 99);
        due("price(6, 1)", x.price(6, 1), 0);
        says("What a TELLER says of an EVENING (0 .. 10): what he said. UNKNOWN; OUTSIDE; NOT: it is gone by");
        due("says(2, 6, 10)", x.says(2, 6, 10), 5);
        due("says(2, 6, 11)", x.says(2, 6, 11), OUTSIDE);
        due("says(2, 6, -1)", x.says(2, 6, -1), OUTSIDE);
        due("says(3, 6, 11)", x.says(3, 6, 11), UNKNOWN);
        due("says(2, 7, 11)", x.says(2, 7, 11), UNKNOWN);
        due("says(2, 6, 0)", x.says(2, 6, 0), 10);
        due("says(2, 6, 1)", x.says(2, 6, 1), 0);
        due("says(0, 0, 6)", x.says(0, 0, 6), 5);
        x.sale(0);
        due("gone by", x.says(0, 0, 6), NOT);
        due("gone by, and outside", x.says(0, 0, 11), OUTSIDE);
        due("gone by, and unknown", x.says(3, 0, 11), UNKNOWN);
        due("tonight", x.says(0, 1, 6), 5);
        x.undo();
        x.undo();
        due("no more gone by", x.says(0, 0, 7), 6);
    }

    private static void undoneEdges() {
        says("also one by which nothing became other");
        SunsetSale x = told("clear 5;clear 5;plain 9 9");
        due("undo() of nothing", x.undo(), NOT);
        x.bid(0, NONE);
        x.price(0, 0);
        x.says(0, 0, 5);
        due("count(10)", x.count(10), 3);
        due("undo()", x.undo(), 2);
        due("undo()", x.undo(), 1);
        due("undo()", x.undo(), 0);
        due("undo()", x.undo(), NOT);
        says("the last 8 can be");
        for (int n = 1; n <= 30; n++) {
            x.price(0, n);
            due("count(10)", x.count(10), Math.min(n, 8));
        }
        for (int left = 7; left >= 0; left--) {
            due("undo()", x.undo(), left);
            due("price", x.evening(0, 2), 22 + left);
        }
        due("a ninth", x.undo(), NOT);
        due("price stays", x.evening(0, 2), 22);
        for (int n = 50; n < 60; n++) {
            x.price(0, n);
            x.price(0, n + 20);
            x.undo();
        }
        due("what made room for one undone does not come back", x.count(10), 7);
        for (int left = 6; left >= 0; left--) {
            due("undo()", x.undo(), left);
            due("price", x.evening(0, 2), 52 + left);
        }
        due("none is left", x.undo(), NOT);
        says("The latest bid(), sale(), price(), says() is undone");
        x.bid(0, 9);
        x.sale(0);
        x.bid(0, 100);
        x.sale(-1);
        x.price(2, 0);
        x.says(0, 0, 0);
        x.keep(0);
        x.seen(0, 0);
        x.forget();
        x.write('a');
        x.erase();
        due("no other call counts, nor a refused one", x.count(10), 2);
        due("the sale", x.undo(), 1);
        due("tonight", x.count(2), 0);
        due("his bid", x.bidder(0, 4), 9);
        due("the bid", x.undo(), 0);
        due("none", x.bidder(0, 4), NONE);
    }

    private static void keptEdges() {
        says("All as it is (but THE TEXT, SEEN, what can be undone) is kept (k 0, 1): TONIGHT. UNKNOWN: no such k");
        SunsetSale x = told("clear 10;clear 10;plain 9 9");
        due("keep(-1)", x.keep(-1), UNKNOWN);
        due("keep(2)", x.keep(2), UNKNOWN);
        x.seen(0, 1);
        x.write('a');
        x.bid(0, 5);
        due("keep(0)", x.keep(0), 0);
        x.sale(0);
        x.sale(0);
        due("keep(1), all gone by", x.keep(1), 2);
        x.forget();
        x.erase();
        wholeCourse();
        says("It is as it was kept, nothing can be undone: TONIGHT");
        due("back(0)", x.back(0), 0);
        due("his bid", x.bidder(0, 4), 5);
        due("not SEEN", x.count(9), 0);
        due("not THE TEXT", x.count(11), 0);
        due("nothing can be undone", x.count(10), 0);
        due("undo()", x.undo(), NOT);
        x.bid(0, 6);
        due("what follows can", x.count(10), 1);
        due("back(1)", x.back(1), 2);
        due("what he paid", x.evening(0, 4), 5);
        due("back(0), as often as one likes", x.back(0), 0);
        due("his bid as kept", x.bidder(0, 4), 5);
        says("UNKNOWN; NOT: nothing was kept since the last text");
        due("back(-1)", x.back(-1), UNKNOWN);
        due("back(2)", x.back(2), UNKNOWN);
        due("a refused text", tell(x, "dusk"), NOT);
        due("kept yet", x.back(1), 2);
        due("a text", tell(x, "first"), 1);
        due("back(0)", x.back(0), NOT);
        due("back(1)", x.back(1), NOT);
        due("keep(1)", x.keep(1), 0);
        due("the other one", x.back(0), NOT);
        due("back(1)", x.back(1), 0);
        SunsetSale y = new SunsetSale();
        due("back(0) of a new object", y.back(0), NOT);
        due("keep(0) of a new object", y.keep(0), 0);
        due("back(0) then", y.back(0), 0);
    }

    /** Of all that a sale, a price and a saying change, nothing may be left behind. */
    private static void wholeCourse() {
        SunsetSale x = told("clear 10;clear 10;clear 10;plain 9 9;plain 9 9;refund 1");
        x.says(2, 2, 8);
        bids(x, 5, 6);
        x.keep(0);
        x.sale(0);
        x.price(2, 3);
        x.says(2, 2, 7);
        bids(x, 8);
        x.keep(1);
        int[] early = {0, 90, 0, NONE, 0, NONE, 0, 5, 0, 0};
        int[] late = {1, 84, 9, 1, 6, 1, 3, 8, 6, 9};
        for (int turn = 0; turn < 2; turn++) {
            due("back(0)", x.back(0), 0);
            course(x, early);
            due("said", x.says(2, 2, 1), 8);
            due("back(1)", x.back(1), 1);
            course(x, late);
            due("said", x.says(2, 2, 1), 7);
        }
        due("back(0)", x.back(0), 0);
        x.says(2, 2, 6);
        x.sale(0);
        x.undo();
        course(x, early);
        x.undo();
        due("said, undone", x.says(2, 2, 6), 8);
    }

    private static void course(SunsetSale x, int[] want) {
        int[] got = {x.count(2), x.bidder(1, 2), x.bidder(1, 3), x.evening(0, 3), x.evening(0, 4), x.evening(0, 5),
            x.evening(2, 2), x.bidder(0, 4), x.count(7), x.count(8)};
        for (int i = 0; i < want.length; i++) {
            due("part " + i + " of what is kept and undone", got[i], want[i]);
        }
    }

    private static void gainEdges() {
        says("GAIN of one by an EVENING for a price (0 .. 99), and 99999. UNKNOWN; OUTSIDE");
        SunsetSale x = told("clear 0;clear 10;cloudy 5;smoky 0;plain 99 9;plain 0 0;sick 99 1;blind 99 1;dealer 10 1;refund 9");
        due("least", x.gain(1, 3, 99), LIFT - 990);
        due("most", x.gain(0, 1, 0), LIFT + 990);
        due("never bright, 9 tenths come back, cut", x.gain(0, 0, 99), LIFT + 10 * 89 - 990);
        due("9 tenths of 1 are nothing", x.gain(0, 0, 1), LIFT - 10);
        due("always bright", x.gain(0, 1, 99), LIFT);
        due("by clouds", x.gain(2, 2, 10), LIFT + 3 * 99 + 7 * (5 + 9) - 100);
        due("by smoke nothing comes back", x.gain(3, 3, 10), LIFT + 490 - 100);
        due("a dealer's", x.gain(4, 1, 0), LIFT);
        due("gain(0, 0, 100)", x.gain(0, 0, 100), OUTSIDE);
        due("gain(0, 0, -1)", x.gain(0, 0, -1), OUTSIDE);
        due("gain(5, 0, 100)", x.gain(5, 0, 100), UNKNOWN);
        due("gain(0, 4, 100)", x.gain(0, 4, 100), UNKNOWN);
    }

    private static void limitEdges() {
        says("LIMIT of one: the greatest price (0 .. 99, no more than his PURSE) for which GAIN is not below 0");
        SunsetSale x = told("refund 10;clear 0;clear 10;smoky 0;plain 9 99;plain 9 1;plain 9 0;plain 0 9;sick 99 99");
        int[][] want = {{99, 10, 0, 90, 99}, {9, 9, 0, 0, 99}, {0, 0, 0, 0, 5}};
        for (int e = 0; e < 3; e++) {
            for (int b = 0; b < 5; b++) {
                due("limit(" + b + ") of evening " + e, x.limit(b), want[e][b]);
            }
            x.sale(0);
        }
        says("LIMIT. UNKNOWN; NOT: there is no EVENING TONIGHT");
        due("limit(0)", x.limit(0), NOT);
        due("limit(5)", x.limit(5), UNKNOWN);
        says("GAIN is not below 0, by what comes back, cut");
        SunsetSale y = told("refund 5;clear 0;sick 9 99");
        due("11 is below 0", y.gain(0, 0, 11), LIFT - 10);
        due("10 is not", y.gain(0, 0, 10), LIFT);
        due("limit", y.limit(0), 10);
        SunsetSale z = told("refund 9;clear 0;sick 9 99");
        due("51 is below 0", z.gain(0, 0, 51), LIFT - 10);
        due("50 is not", z.gain(0, 0, 50), LIFT);
        due("limit", z.limit(0), 50);
        SunsetSale w = told("clear 1;clear 10;plain 9 99;plain 11 99;plain 1 99");
        due("1 is just below 0", w.gain(0, 0, 1), LIFT - 1);
        due("limit", w.limit(0), 0);
        due("1 is just not below 0", w.gain(1, 0, 1), LIFT + 1);
        due("limit", w.limit(1), 1);
        w.sale(0);
        due("1 at 0", w.gain(2, 1, 1), LIFT);
        due("limit", w.limit(2), 1);
    }

    private static void hasEdges() {
        says("HAS: by BIDS as they are what GAIN one has (0, if it is not his)");
        SunsetSale x = told("clear 5;reserve 5;plain 20 9;plain 20 9");
        due("nobody bids", x.has(0), LIFT);
        bids(x, 4, 4);
        due("below the reserve", x.has(0), LIFT);
        bids(x, 5, 5);
        due("his", x.has(0), LIFT + 50);
        due("not his", x.has(1), LIFT);
        bids(x, 5, 90);
        due("below 0", x.has(1), LIFT - 800);
        says("HAS, and 99999. UNKNOWN; NOT: there is no EVENING TONIGHT");
        due("has(2)", x.has(2), UNKNOWN);
        x.sale(0);
        due("has(0)", x.has(0), NOT);
        due("has(2)", x.has(2), UNKNOWN);
    }

    private static void replyEdges() {
        says("REPLY of one: the BID (none, or 0 .. 99, no more than his PURSE; none is least)");
        SunsetSale x = told("clear 10;clear 0;plain 99 99;plain 99 1;plain 0 9;plain 99 0");
        due("0 is enough", x.reply(0, 0), 0);
        due("and gains", x.reply(0, 1), LIFT + 990);
        due("of no worth: none", x.reply(2, 0), NONE);
        due("an empty purse may bid 0", x.reply(3, 0), 0);
        bids(x, 9);
        due("all of his purse", x.reply(1, 0), 10);
        bids(x, 10);
        due("one more is not his", x.reply(1, 0), NONE);
        due("he has nothing then", x.reply(1, 1), LIFT);
        due("an empty purse may not bid 11", x.reply(3, 0), NONE);
        SunsetSale y = told("clear 10;reserve 99;sick 99 99;dealer 99 99;blind 99 99;plain 99 9");
        due("gain of 0: rather none", y.reply(0, 0), NONE);
        due("west()", tell(y, "reserve 98"), 1);
        due("98", y.reply(0, 0), 98);
        bids(y, NONE, 98);
        due("who is less has it by as much", y.reply(0, 0), 98);
        bids(y, 98, NONE);
        due("who is more needs 99, which gains nothing", y.reply(1, 0), NONE);
        says("by which he HAS most, all others as they are, of several the least; how much");
        SunsetSale z = told("second;clear 10;reserve 5;plain 40 9;plain 40 9;plain 40 9");
        bids(z, 80, 30, 20);
        due("the least that has it, as who is least", z.reply(0, 0), 30);
        due("how much", z.reply(0, 1), LIFT + 100);
        bids(z, 30, 80, 20);
        due("the least that has it", z.reply(1, 0), 31);
        due("how much", z.reply(1, 1), LIFT + 100);
        due("too dear: none", z.reply(2, 0), NONE);
        bids(z, 4, 80, 4);
        due("the reserve", z.reply(1, 0), 5);
        due("nothing changes", z.bidder(1, 4), 80);
        says("REPLY: the BID (what 0; NONE), what he HAS then, and 99999 (1). UNKNOWN; OUTSIDE; NOT");
        due("reply(3, 2)", z.reply(3, 2), UNKNOWN);
        due("reply(0, 2)", z.reply(0, 2), OUTSIDE);
        due("reply(0, -1)", z.reply(0, -1), OUTSIDE);
        z.sale(0);
        due("reply(0, 0)", z.reply(0, 0), NOT);
        due("reply(0, 2), no evening", z.reply(0, 2), OUTSIDE);
        due("reply(3, 2), no evening", z.reply(3, 2), UNKNOWN);
    }

    private static void temptedEdges() {
        says("TEMPTED: those who would HAVE more by their REPLY, by bits");
        SunsetSale x = told("clear 10;reserve 5;" + times(5, "plain 20 9"));
        due("all", x.tempted(), 31);
        bids(x, 5);
        due("all but who has it for the least", x.tempted(), 30);
        bids(x, 19);
        due("who pays more than he must", x.tempted(), 1);
        bids(x, NONE, NONE, NONE, NONE, 21);
        due("who loses by it; the others find it too dear", x.tempted(), 16);
        bids(x, NONE, NONE, NONE, 20, 20);
        due("as much by having it as by none", x.tempted(), 0);
        says("TEMPTED. NOT: there is no EVENING TONIGHT");
        x.sale(0);
        due("tempted()", x.tempted(), NOT);
        due("of a new object", new SunsetSale().tempted(), NOT);
        due("nobody there", told("clear 1").tempted(), 0);
    }

    private static void cartelEdges() {
        says("sets of two BIDDERS at least, who has it by BIDS being one of them, all others of which do not BID: "
            + "the one by which he pays least");
        SunsetSale x = told("second;clear 5;reserve 10;" + times(5, "plain 50 9"));
        bids(x, 50, 40, 30, 20, 12);
        due("all five", x.cartel(1), 31);
        due("how much less", x.cartel(0), 30);
        bids(x, 12, 20, 30, 40, 50);
        due("all five", x.cartel(1), 31);
        bids(x, NONE, 20, NONE, 20, 50);
        due("those who bid", x.cartel(1), 26);
        due("how much less", x.cartel(0), 10);
        says("of several the least set; how much less than by BIDS as they are");
        bids(x, NONE, NONE, 50, NONE, NONE);
        due("nothing to save: the least", x.cartel(1), 5);
        due("nothing to save", x.cartel(0), 0);
        bids(x, 50, NONE, NONE, NONE, NONE);
        due("nothing to save: the least", x.cartel(1), 3);
        bids(x, 50, NONE, NONE, NONE, 10);
        due("a bid of the reserve costs nothing", x.cartel(1), 3);
        bids(x, 50, NONE, NONE, NONE, 11);
        due("one more does", x.cartel(1), 17);
        due("one", x.cartel(0), 1);
        bids(x, 50, 9, NONE, NONE, 11);
        due("who is below the reserve is not needed", x.cartel(1), 17);
        says("CARTEL .. none: nobody has it, there are fewer than two");
        bids(x, 9, 9, 9, 9, 9);
        due("nobody has it", x.cartel(0), NONE);
        due("nobody has it", x.cartel(1), NONE);
        SunsetSale one = told("second;clear 5;plain 50 9");
        one.bid(0, 9);
        due("one bidder", one.cartel(0), NONE);
        due("one bidder", one.cartel(1), NONE);
        SunsetSale two = told("second;clear 5;plain 50 9;plain 50 9");
        two.bid(1, 9);
        due("two bidders", two.cartel(0), 0);
        due("two bidders", two.cartel(1), 3);
        says("CARTEL: how much less (what 0), the set (1); NONE. OUTSIDE; NOT: there is no EVENING TONIGHT");
        due("cartel(2)", two.cartel(2), OUTSIDE);
        due("cartel(-1)", two.cartel(-1), OUTSIDE);
        two.sale(0);
        due("cartel(0)", two.cartel(0), NOT);
        due("cartel(2), no evening", two.cartel(2), OUTSIDE);
        due("nobody there", told("clear 1").cartel(0), NONE);
    }

    private static void otherwiseEdges() {
        says("OTHERWISE: what TONIGHT would be paid by the other RULE, BIDS as they are; none: nobody has it");
        SunsetSale x = told("clear 5;reserve 10;plain 50 9;plain 50 9");
        due("nobody bids", x.otherwise(), NONE);
        bids(x, 9, 9);
        due("below the reserve", x.otherwise(), NONE);
        bids(x, 10, 9);
        due("just the reserve", x.otherwise(), 10);
        bids(x, 30, 10);
        due("the other just the reserve", x.otherwise(), 10);
        bids(x, 30, 30);
        due("as much", x.otherwise(), 30);
        due("west()", tell(x, "second"), 1);
        bids(x, 30, 90);
        due("by FIRST", x.otherwise(), 90);
        due("the rule stays", x.count(3), 1);
        says("OTHERWISE; NONE. NOT: there is no EVENING TONIGHT");
        x.sale(0);
        due("otherwise()", x.otherwise(), NOT);
        due("of a new object", new SunsetSale().otherwise(), NOT);
    }

    private static void seasonEdges() {
        says("SEASON of one: EVENINGS from TONIGHT on");
        SunsetSale x = told(times(7, "clear 10") + ";plain 10 1;plain 10 0");
        for (int gone = 0; gone < 7; gone++) {
            due("season(0, 0), " + gone + " gone by", x.season(0, 0), 100 * (7 - gone));
            due("season(0, 1), " + gone + " gone by", x.season(0, 1), 128 - (1 << gone));
            x.sale(0);
        }
        due("season(0, 0), all gone by", x.season(0, 0), 0);
        due("season(0, 1), all gone by", x.season(0, 1), 0);
        says("a set of which PRICES together are no more than his PURSE");
        due("west()", tell(x, "first"), 1);
        for (int e = 0; e < 7; e++) {
            x.price(e, 5);
        }
        due("two for 10", x.season(0, 0), 100);
        due("nothing for nothing", x.season(1, 0), 0);
        due("nothing for nothing", x.season(1, 1), 0);
        x.price(3, 6);
        due("not 11", x.season(0, 0), 100);
        x.price(6, 4);
        due("4 and 5", x.season(0, 0), 110);
        says("by which his GAINS for these PRICES are most together; of several the least (by bits): how much, the set");
        due("the least of them", x.season(0, 1), 65);
        x.price(6, 5);
        due("the least of them", x.season(0, 1), 3);
        for (int e = 0; e < 7; e++) {
            x.price(e, 10);
        }
        due("gains of 0: the empty set", x.season(0, 1), 0);
        due("gains of 0", x.season(0, 0), 0);
        x.price(6, 9);
        due("the last alone", x.season(0, 1), 64);
        for (int e = 0; e < 7; e++) {
            x.price(e, 99);
        }
        due("too dear: the empty set", x.season(0, 1), 0);
        due("too dear", x.season(0, 0), 0);
        says("SEASON: GAINS together (what 0), the set (1). UNKNOWN; OUTSIDE");
        due("season(2, 2)", x.season(2, 2), UNKNOWN);
        due("season(0, 2)", x.season(0, 2), OUTSIDE);
        due("season(0, -1)", x.season(0, -1), OUTSIDE);
        SunsetSale none = told("plain 9 9");
        due("no evenings", none.season(0, 0), 0);
        due("no evenings", none.season(0, 1), 0);
    }

    private static void odds(SunsetSale x, int k, int above, int below) {
        due("bright(" + k + ", 0)", x.bright(k, 0), above);
        due("bright(" + k + ", 1)", x.bright(k, 1), below);
    }

    private static void oddsEdges() {
        says("BRIGHT ODDS: the odds that of EVENINGS from TONIGHT on k at least (0 .. 7) are BRIGHT");
        SunsetSale x = told(times(7, "clear 10"));
        for (int k = 0; k <= 7; k++) {
            odds(x, k, 1, 1);
        }
        x.sale(0);
        odds(x, 6, 1, 1);
        odds(x, 7, 0, 1);
        SunsetSale y = told(times(7, "clear 0"));
        odds(y, 0, 1, 1);
        odds(y, 1, 0, 1);
        SunsetSale none = new SunsetSale();
        odds(none, 0, 1, 1);
        odds(none, 1, 0, 1);
        odds(none, 7, 0, 1);
        says("Parts are told in lowest terms: above (part 0), below (1)");
        SunsetSale z = told(times(7, "clear 1"));
        odds(z, 7, 1, 10000000);
        odds(z, 6, 1, 156250);
        odds(z, 1, 5217031, 10000000);
        odds(told("clear 5;clear 5"), 1, 3, 4);
        says("BRIGHT ODDS. OUTSIDE");
        due("bright(8, 0)", z.bright(8, 0), OUTSIDE);
        due("bright(-1, 0)", z.bright(-1, 0), OUTSIDE);
        due("bright(0, 2)", z.bright(0, 2), OUTSIDE);
        due("bright(0, -1)", z.bright(0, -1), OUTSIDE);
    }

    private static void scoreEdges() {
        says("SCORE of a TELLER (0 .. 2): of each EVENING gone by");
        SunsetSale x = told(times(7, "clear 10"));
        for (int t = 0; t < 3; t++) {
            due("none gone by", x.score(t), 0);
        }
        due("score(3)", x.score(3), UNKNOWN);
        due("score(-1)", x.score(-1), UNKNOWN);
        for (int e = 0; e < 7; e++) {
            x.says(0, e, 10);
            x.says(1, e, 0);
            x.sale(0);
            due("right", x.score(0), 0);
            due("wrong", x.score(1), 100 * (e + 1));
            due("5", x.score(2), 25 * (e + 1));
        }
        says("what he said of it (0 .. 10) less 10, if it was BRIGHT, times itself");
        for (int said = 0; said <= 10; said++) {
            SunsetSale y = told("clear 10;clear 0");
            y.says(1, 0, said);
            y.says(1, 1, said);
            y.sale(0);
            due("bright, said " + said, y.score(1), (10 - said) * (10 - said));
            y.sale(0);
            due("and dull", y.score(1), (10 - said) * (10 - said) + said * said);
        }
        says("BEST TELLER: of least SCORE, of several the least; none: none is gone by");
        SunsetSale z = told("clear 10;clear 10;clear 10");
        due("best() of a new object", new SunsetSale().best(), NONE);
        due("none gone by", z.best(), NONE);
        z.says(2, 1, 6);
        z.says(1, 2, 6);
        z.sale(0);
        due("all alike", z.best(), 0);
        z.sale(0);
        due("the last", z.best(), 2);
        z.sale(0);
        due("two alike", z.best(), 1);
        z.undo();
        z.undo();
        z.undo();
        due("none gone by any more", z.best(), NONE);
    }

    private static void sightEdges() {
        says("SEEN, 6 at most, of a lost evening: a BIDDER's blinds were down (1), or not (0)");
        SunsetSale x = told(times(5, "plain 9 9"));
        for (int n = 1; n <= 6; n++) {
            due("seen(4, 1)", x.seen(4, 1), n);
        }
        due("a seventh", x.seen(4, 1), FULL);
        due("count(9)", x.count(9), 6);
        due("a seventh of what is not as told", x.seen(4, 2), OUTSIDE);
        due("a seventh of nobody", x.seen(5, 2), UNKNOWN);
        says("SEEN is nothing: how many there were");
        due("forget()", x.forget(), 6);
        due("forget() of nothing", x.forget(), 0);
        due("seen anew", x.seen(0, 0), 1);
        says("SEEN: how many. UNKNOWN; OUTSIDE; FULL");
        due("seen(5, 0)", x.seen(5, 0), UNKNOWN);
        due("seen(-1, 0)", x.seen(-1, 0), UNKNOWN);
        due("seen(0, 2)", x.seen(0, 2), OUTSIDE);
        due("seen(0, -1)", x.seen(0, -1), OUTSIDE);
        due("count(9)", x.count(9), 1);
    }

    private static void buyerEdges() {
        says("By law all blinds but the buyer's are down; if nobody bought it, none");
        SunsetSale x = told("plain 9 9;blind 9 9;sick 9 9;dealer 9 9;plain 9 9");
        due("nothing seen: all and nobody", x.buyers(), 63);
        x.seen(4, 1);
        due("one down: not he, not nobody", x.buyers(), 15);
        x.forget();
        x.seen(4, 0);
        due("one not down: he or nobody", x.buyers(), 48);
        x.seen(4, 0);
        due("the same again", x.buyers(), 48);
        x.seen(0, 0);
        due("two not down: nobody", x.buyers(), 32);
        x.seen(2, 1);
        due("and one down: it cannot be", x.buyers(), 0);
        x.forget();
        x.seen(0, 1);
        x.seen(2, 1);
        x.seen(3, 1);
        x.seen(4, 1);
        due("all down that can be", x.buyers(), 2);
        x.seen(0, 0);
        due("down and not: it cannot be", x.buyers(), 0);
        says("a BLIND one has none");
        x.forget();
        x.seen(1, 0);
        due("not down: it tells nothing", x.buyers(), 63);
        x.seen(4, 1);
        due("nor beside another", x.buyers(), 15);
        x.forget();
        x.seen(1, 1);
        due("down: it cannot be", x.buyers(), 0);
        says("BUYERS: who can have bought it, by bits (nobody: bit 5)");
        due("nobody there", new SunsetSale().buyers(), 32);
        due("one there", told("plain 9 9").buyers(), 33);
        SunsetSale y = told("clear 1;plain 9 0");
        y.sale(0);
        due("purse and tonight tell nothing of a lost one", y.buyers(), 33);
    }

    private static void countEdges() {
        says("count: 0 EVENINGS .. 11 letters of THE TEXT. OUTSIDE");
        SunsetSale x = told("second;reserve 9;refund 5;clear 10;clear 0;clear 1;plain 9 9;sick 8 8");
        bids(x, 12, 11);
        x.sale(0);
        bids(x, NONE, 13);
        x.sale(0);
        bids(x, 1);
        x.seen(0, 0);
        x.write('a');
        int[] want = {3, 2, 2, 1, 9, 5, 1, 11 + 9 - 4, 9 + 5, 1, 7, 1};
        for (int what = 0; what < 12; what++) {
            due("count(" + what + ")", x.count(what), want[what]);
        }
        due("count(12)", x.count(12), OUTSIDE);
        due("count(-1)", x.count(-1), OUTSIDE);
        due("count(least)", x.count(Integer.MIN_VALUE), OUTSIDE);
        due("count(most)", x.count(Integer.MAX_VALUE), OUTSIDE);
    }

    private static void lastCall() {
        says("An object is used for at most 512 calls");
        SunsetSale x = new SunsetSale();
        for (int n = 1; n <= 500; n++) {
            due("letter " + n, x.write(' '), n <= 160 ? n : FULL);
        }
        x.erase();
        "clear 7".chars().forEach(x::write);
        due("call 509", x.fault(), NONE);
        due("call 510", x.west(), 1);
        due("call 511", x.price(0, 9), 0);
        due("call 512", x.undo(), 0);
    }
}
