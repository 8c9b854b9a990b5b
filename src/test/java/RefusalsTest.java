import java.util.ArrayList;
import java.util.Arrays;
import java.util.List;

/**
 * "Refused, and nothing changes: UNKNOWN, OUTSIDE, NOT, FULL: the first of these that fits."
 * In several states each call is made with numbers at, beside and far from their bounds. Which refusal is due is
 * read off the document's order; that nothing changed is told by a twin object that was not asked.
 */
public final class RefusalsTest {
    private static final int NONE = -1;
    private static final int UNKNOWN = -2;
    private static final int OUTSIDE = -3;
    private static final int NOT = -4;
    private static final int FULL = -5;
    /** What stands for an answer that is no refusal. */
    private static final int TAKEN = 0;
    /** The calls by which something may become other, if they are not refused. */
    private static final List<String> CHANGES = List.of(
        "write", "erase", "west", "bid", "sale", "price", "says", "undo", "keep", "back", "seen", "forget");

    private static int checks = 0;
    private static int wrong = 0;
    private static int mostCalls = 0;

    private interface Step {
        int on(SunsetSale x);
    }

    private interface Setup {
        void on(Counted x);
    }

    /** An object and how often it was called, since the document promises nothing beyond 512 calls. */
    private static final class Counted {
        final SunsetSale x = new SunsetSale();
        final List<Integer> trace = new ArrayList<>();
        int calls = 0;

        int ask(Step step) {
            calls++;
            mostCalls = Math.max(mostCalls, calls);
            int answer = step.on(x);
            trace.add(answer);
            return answer;
        }

        void put(String text) {
            for (int i = 0; i < text.length(); i++) {
                char letter = text.charAt(i);
                ask(x -> x.write(letter));
            }
        }

        void tell(String text) {
            put(text);
            ask(SunsetSale::west);
        }
    }

    /** A state by what leads to it, with what the refusals go by, written out by hand. */
    private static final class State {
        final String name;
        final Setup setup;
        int[] eveningKinds = {};
        int[] bidderKinds = {};
        int[] purses = {};
        int tonight = 0;
        int letters = 0;
        int sights = 0;
        int undoable = 0;
        boolean hasFault = true;
        boolean[] isKept = {false, false};
        final List<List<Integer>> due = new ArrayList<>();

        State(String name, Setup setup) {
            this.name = name;
            this.setup = setup;
        }

        boolean isEvening(int e) {
            return e >= 0 && e < eveningKinds.length;
        }

        boolean isBidder(int b) {
            return b >= 0 && b < bidderKinds.length;
        }

        int tonightOrNot() {
            return isEvening(tonight) ? TAKEN : NOT;
        }
    }

    private static final String SHORT = "clear 7;cloudy 9;smoky 4;plain 40 9;blind 51 3;sick 9 0;dealer 60 5;refund 5";

    public static void main(String[] args) {
        for (State state : states()) {
            for (int probe = 0; probe < 4; probe++) {
                Counted twin = new Counted();
                state.setup.on(twin);
                twin.trace.clear();
                probe(twin, probe);
                state.due.add(new ArrayList<>(twin.trace));
            }
            askAll(state);
        }
        note("no object is called more than 512 times: " + mostCalls, mostCalls <= 512);
        System.out.println(checks + " refusals looked at, " + wrong + " not as due");
        if (wrong != 0) {
            System.exit(1);
        }
    }

    private static void note(String what, boolean holds) {
        checks++;
        if (!holds) {
            wrong++;
            System.out.println("not so: " + what);
        }
    }

    private static List<State> states() {
        return List.of(fresh(), begun(), ended(), textAtTheBrim(), sightsAtTheBrim(), fullHouse(), nobodyThere(), noEvening());
    }

    private static State fresh() {
        return new State("a new object", x -> { });
    }

    private static State begun() {
        State s = new State("in the middle", x -> {
            x.tell(SHORT);
            x.ask(y -> y.bid(0, 20));
            x.ask(y -> y.keep(0));
            x.ask(y -> y.sale(3));
            x.ask(y -> y.price(1, 12));
            x.ask(y -> y.price(2, 7));
            x.ask(y -> y.says(0, 1, 9));
            x.ask(y -> y.says(2, 2, 0));
            x.ask(y -> y.keep(1));
            x.ask(y -> y.bid(1, 11));
            x.ask(y -> y.bid(3, 11));
            x.ask(y -> y.seen(0, 1));
            x.ask(y -> y.seen(2, 0));
            x.put("second;first");
        });
        s.eveningKinds = new int[] {0, 1, 2};
        s.bidderKinds = new int[] {0, 1, 2, 3};
        s.purses = new int[] {70, 30, 0, 50};
        s.tonight = 1;
        s.letters = 12;
        s.sights = 2;
        s.undoable = 8;
        s.hasFault = false;
        s.isKept = new boolean[] {true, true};
        return s;
    }

    private static State ended() {
        State s = new State("all evenings gone by", x -> {
            x.tell("clear 9;smoky 5;plain 40 9;dealer 60 5;reserve 10");
            x.ask(y -> y.says(1, 0, 7));
            x.ask(y -> y.bid(1, 50));
            x.ask(y -> y.sale(0));
            x.ask(y -> y.keep(1));
            x.ask(y -> y.bid(0, 9));
            x.ask(y -> y.sale(9999));
            x.put("second;dusk");
        });
        s.eveningKinds = new int[] {0, 2};
        s.bidderKinds = new int[] {0, 3};
        s.purses = new int[] {90, 0};
        s.tonight = 2;
        s.letters = 11;
        s.undoable = 5;
        s.isKept = new boolean[] {false, true};
        return s;
    }

    private static State textAtTheBrim() {
        State s = new State("a full text", x -> {
            x.tell("clear 7;plain 40 1");
            x.put(" ".repeat(60) + "second" + " ".repeat(89) + ";west");
        });
        s.eveningKinds = new int[] {0};
        s.bidderKinds = new int[] {0};
        s.purses = new int[] {10};
        s.letters = 160;
        s.hasFault = false;
        return s;
    }

    private static State sightsAtTheBrim() {
        State s = new State("six seen", x -> {
            x.tell("cloudy 7;blind 40 1;sick 8 99");
            for (int i = 0; i < 6; i++) {
                int bidder = i % 2;
                x.ask(y -> y.seen(bidder, bidder));
            }
            x.ask(y -> y.price(0, 0));
            x.put("clear 11");
        });
        s.eveningKinds = new int[] {1};
        s.bidderKinds = new int[] {1, 2};
        s.purses = new int[] {10, 990};
        s.letters = 8;
        s.sights = 6;
        s.undoable = 1;
        return s;
    }

    private static State fullHouse() {
        State s = new State("seven evenings, five bidders", x -> {
            x.tell("clear9;clear8;clear7;cloudy6;cloudy5;smoky4;smoky3;sick9 9;sick8 8;blind7 7;plain6 6;dealer5 0");
            x.ask(y -> y.bid(3, 60));
            x.ask(y -> y.sale(5));
            x.ask(y -> y.undo());
            x.ask(y -> y.keep(0));
            x.put("smoky 1");
        });
        s.eveningKinds = new int[] {0, 0, 0, 1, 1, 2, 2};
        s.bidderKinds = new int[] {2, 2, 1, 0, 3};
        s.purses = new int[] {90, 80, 70, 60, 0};
        s.letters = 7;
        s.undoable = 1;
        s.isKept = new boolean[] {true, false};
        return s;
    }

    private static State nobodyThere() {
        State s = new State("evenings, no bidders", x -> {
            x.tell("clear 7;clear 2;second");
            x.ask(y -> y.sale(1));
            x.ask(y -> y.keep(0));
        });
        s.eveningKinds = new int[] {0, 0};
        s.tonight = 1;
        s.undoable = 1;
        s.isKept = new boolean[] {true, false};
        return s;
    }

    private static State noEvening() {
        State s = new State("bidders, no evenings", x -> {
            x.tell("plain 7 1;sick 2 3;reserve 4;clear 1;night");
            x.ask(y -> y.seen(1, 1));
        });
        s.bidderKinds = new int[] {0, 2};
        s.purses = new int[] {10, 30};
        s.sights = 1;
        return s;
    }

    /** Looks at all that can be told: 0 as it is, 1 undone step by step, 2 as it was kept, 3 behind THE TEXT. */
    private static void probe(Counted c, int probe) {
        if (probe == 0) {
            lookAtAll(c);
            hearTellers(c);
        } else if (probe == 1) {
            for (int i = 0; i < 9; i++) {
                c.ask(SunsetSale::undo);
                lookAtCourse(c);
            }
            hearTellers(c);
        } else if (probe == 2) {
            c.ask(x -> x.back(0));
            lookAtCourse(c);
            hearTellers(c);
            c.ask(x -> x.back(1));
            lookAtCourse(c);
            hearTellers(c);
        } else {
            c.ask(SunsetSale::fault);
            c.ask(SunsetSale::west);
            lookAtCourse(c);
            c.ask(SunsetSale::erase);
            c.ask(SunsetSale::forget);
        }
    }

    private static void lookAtAll(Counted c) {
        for (int i = 0; i < 12; i++) {
            int n = i;
            c.ask(x -> x.count(n));
        }
        for (int i = 0; i < 42; i++) {
            int n = i;
            c.ask(x -> x.evening(n / 6, n % 6));
        }
        for (int i = 0; i < 25; i++) {
            int n = i;
            c.ask(x -> x.bidder(n / 5, n % 5));
        }
        for (int i = 0; i < 5; i++) {
            int n = i;
            c.ask(x -> x.limit(n));
            c.ask(x -> x.has(n));
            c.ask(x -> x.reply(n, 0));
            c.ask(x -> x.reply(n, 1));
            c.ask(x -> x.season(n, 0));
            c.ask(x -> x.season(n, 1));
            c.ask(x -> x.as(n, 0));
            c.ask(x -> x.gain(n, 0, 31));
            c.ask(x -> x.bright(n, 0));
        }
        for (int i = 0; i < 3; i++) {
            int n = i;
            c.ask(x -> x.cartel(n));
            c.ask(x -> x.score(n));
        }
        c.ask(SunsetSale::tempted);
        c.ask(SunsetSale::otherwise);
        c.ask(SunsetSale::best);
        c.ask(SunsetSale::buyers);
        c.ask(SunsetSale::fault);
    }

    private static void lookAtCourse(Counted c) {
        for (int i = 2; i < 11; i++) {
            int n = i;
            c.ask(x -> x.count(n));
        }
        for (int i = 0; i < 5; i++) {
            int n = i;
            c.ask(x -> x.bidder(n, 2));
            c.ask(x -> x.bidder(n, 4));
        }
        for (int i = 0; i < 3; i++) {
            int n = i;
            c.ask(x -> x.evening(n, 2));
            c.ask(x -> x.evening(n, 3));
            c.ask(x -> x.evening(n, 5));
        }
    }

    private static void hearTellers(Counted c) {
        for (int i = 0; i < 21; i++) {
            int n = i;
            c.ask(x -> x.says(n / 7, n % 7, 5));
        }
    }

    private static void look(State s, String call, int due, Step step) {
        boolean changes = due == TAKEN && CHANGES.contains(call.substring(0, call.indexOf('(')));
        for (int probe = 0; probe < (changes ? 1 : 4); probe++) {
            Counted c = new Counted();
            s.setup.on(c);
            int answer = c.ask(step);
            note(s.name + ": " + call + " answered " + answer + ", due is " + (due == TAKEN ? "no refusal" : due),
                due == TAKEN ? answer >= NONE : answer == due);
            if (!changes) {
                c.trace.clear();
                probe(c, probe);
                note(s.name + ": " + call + " changed something, seen by probe " + probe, c.trace.equals(s.due.get(probe)));
            }
        }
    }

    private static int first(int... refusals) {
        return Arrays.stream(refusals).filter(r -> r != TAKEN).findFirst().orElse(TAKEN);
    }

    private static int outside(int n, int low, int top) {
        return n >= low && n <= top ? TAKEN : OUTSIDE;
    }

    private static int unknown(boolean isKnown) {
        return isKnown ? TAKEN : UNKNOWN;
    }

    private static int not(boolean holds) {
        return holds ? TAKEN : NOT;
    }

    /** Numbers at 0 and at a bound, beside them, and so far off that arithmetic would wrap around. */
    private static int[] about(int... tops) {
        List<Integer> numbers = new ArrayList<>(List.of(Integer.MIN_VALUE, -100, -5, -2, -1, 0, 1, 65536, Integer.MAX_VALUE));
        for (int top : tops) {
            for (int n = top - 1; n <= top + 1; n++) {
                if (!numbers.contains(n)) {
                    numbers.add(n);
                }
            }
        }
        return numbers.stream().mapToInt(n -> n).toArray();
    }

    private static void askAll(State s) {
        askTexts(s);
        askWhat(s);
        askKinds(s);
        askSales(s);
        askTellers(s);
        askKeeps(s);
        askForetold(s);
        askCartels(s);
        askGain(s);
        askSights(s);
    }

    private static void askTexts(State s) {
        for (int n : about(32, 255)) {
            look(s, "write(" + n + ")", first(outside(n, 0, 255), s.letters < 160 ? TAKEN : FULL), x -> x.write(n));
        }
        look(s, "erase()", TAKEN, SunsetSale::erase);
        look(s, "fault()", TAKEN, SunsetSale::fault);
        look(s, "west()", not(!s.hasFault), SunsetSale::west);
    }

    private static void askWhat(State s) {
        for (int what : about(5, 11)) {
            look(s, "count(" + what + ")", outside(what, 0, 11), x -> x.count(what));
            for (int n : about(s.eveningKinds.length, s.bidderKinds.length)) {
                look(s, "evening(" + n + ", " + what + ")",
                    first(unknown(s.isEvening(n)), outside(what, 0, 5)), x -> x.evening(n, what));
                look(s, "bidder(" + n + ", " + what + ")",
                    first(unknown(s.isBidder(n)), outside(what, 0, 4)), x -> x.bidder(n, what));
            }
        }
    }

    private static void askKinds(State s) {
        String[] bidders = {"01", "02", "013", "014"};
        String[] evenings = {"01", "012", "03"};
        for (int kind : about(3, 4)) {
            for (int n : about(2, 4)) {
                boolean isSuch = s.isBidder(n) && bidders[s.bidderKinds[n]].contains("" + kind);
                look(s, "as(" + n + ", " + kind + ")",
                    first(unknown(s.isBidder(n)), outside(kind, 0, 4), not(isSuch)), x -> x.as(n, kind));
            }
            for (int n : about(2, 6)) {
                boolean isSuch = s.isEvening(n) && evenings[s.eveningKinds[n]].contains("" + kind);
                look(s, "eveningAs(" + n + ", " + kind + ")",
                    first(unknown(s.isEvening(n)), outside(kind, 0, 3), not(isSuch)), x -> x.eveningAs(n, kind));
            }
        }
    }

    private static void askSales(State s) {
        for (int z : about(9999)) {
            look(s, "sale(" + z + ")", first(outside(z, 0, 9999), s.tonightOrNot()), x -> x.sale(z));
        }
        for (int b : about(s.bidderKinds.length)) {
            int purse = s.isBidder(b) ? s.purses[b] : 0;
            for (int n : about(99, purse)) {
                look(s, "bid(" + b + ", " + n + ")",
                    first(unknown(s.isBidder(b)), outside(n, NONE, 99), not(n <= purse), s.tonightOrNot()), x -> x.bid(b, n));
            }
        }
        for (int e : about(s.eveningKinds.length)) {
            for (int n : about(99)) {
                look(s, "price(" + e + ", " + n + ")",
                    first(unknown(s.isEvening(e)), outside(n, 0, 99)), x -> x.price(e, n));
            }
        }
    }

    private static void askTellers(State s) {
        for (int t : about(2)) {
            boolean isTeller = t >= 0 && t <= 2;
            look(s, "score(" + t + ")", unknown(isTeller), x -> x.score(t));
            for (int e : new int[] {-1, 0, s.tonight - 1, s.tonight, s.eveningKinds.length, Integer.MIN_VALUE, Integer.MAX_VALUE}) {
                for (int n : about(10)) {
                    look(s, "says(" + t + ", " + e + ", " + n + ")",
                        first(unknown(isTeller), unknown(s.isEvening(e)), outside(n, 0, 10), not(e >= s.tonight)),
                        x -> x.says(t, e, n));
                }
            }
        }
        look(s, "best()", TAKEN, SunsetSale::best);
    }

    private static void askKeeps(State s) {
        look(s, "undo()", not(s.undoable > 0), SunsetSale::undo);
        for (int k : about(1)) {
            boolean isOne = k == 0 || k == 1;
            look(s, "keep(" + k + ")", unknown(isOne), x -> x.keep(k));
            look(s, "back(" + k + ")", first(unknown(isOne), not(isOne && s.isKept[k])), x -> x.back(k));
        }
    }

    private static void askForetold(State s) {
        for (int b : about(s.bidderKinds.length)) {
            int known = unknown(s.isBidder(b));
            look(s, "limit(" + b + ")", first(known, s.tonightOrNot()), x -> x.limit(b));
            look(s, "has(" + b + ")", first(known, s.tonightOrNot()), x -> x.has(b));
            for (int what : about(1)) {
                look(s, "reply(" + b + ", " + what + ")",
                    first(known, outside(what, 0, 1), s.tonightOrNot()), x -> x.reply(b, what));
                look(s, "season(" + b + ", " + what + ")", first(known, outside(what, 0, 1)), x -> x.season(b, what));
            }
        }
        for (int k : about(7)) {
            for (int part : about(1)) {
                look(s, "bright(" + k + ", " + part + ")",
                    first(outside(k, 0, 7), outside(part, 0, 1)), x -> x.bright(k, part));
            }
        }
    }

    private static void askCartels(State s) {
        for (int what : about(1)) {
            look(s, "cartel(" + what + ")", first(outside(what, 0, 1), s.tonightOrNot()), x -> x.cartel(what));
        }
        look(s, "tempted()", s.tonightOrNot(), SunsetSale::tempted);
        look(s, "otherwise()", s.tonightOrNot(), SunsetSale::otherwise);
    }

    private static void askGain(State s) {
        int[] some = {Integer.MIN_VALUE, -1, 0, 98, 99, 100, Integer.MAX_VALUE};
        for (int b : about(s.bidderKinds.length)) {
            for (int e : about(s.eveningKinds.length)) {
                for (int price : some) {
                    look(s, "gain(" + b + ", " + e + ", " + price + ")",
                        first(unknown(s.isBidder(b)), unknown(s.isEvening(e)), outside(price, 0, 99)),
                        x -> x.gain(b, e, price));
                }
            }
        }
    }

    private static void askSights(State s) {
        for (int b : about(s.bidderKinds.length)) {
            for (int down : about(1)) {
                look(s, "seen(" + b + ", " + down + ")",
                    first(unknown(s.isBidder(b)), outside(down, 0, 1), s.sights < 6 ? TAKEN : FULL), x -> x.seen(b, down));
            }
        }
        look(s, "forget()", TAKEN, SunsetSale::forget);
        look(s, "buyers()", TAKEN, SunsetSale::buyers);
    }
}
