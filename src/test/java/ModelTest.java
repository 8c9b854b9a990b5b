import java.math.BigInteger;
import java.util.ArrayDeque;
import java.util.ArrayList;
import java.util.Arrays;
import java.util.Deque;
import java.util.List;
import java.util.Map;
import java.util.Random;
import java.util.regex.Matcher;
import java.util.regex.Pattern;

/** Long mixed runs beside a second, slow reading of the document, so that no state goes astray unseen. */
public final class ModelTest {
    private static final int RUNS = 4000;
    private static final int CALLS = 512;
    private static final int NONE = -1;
    private static final int UNKNOWN = -2;
    private static final int OUTSIDE = -3;
    private static final int NOT = -4;
    private static final int FULL = -5;
    private static final int LIFT = 99999;
    private static final String[] NAMES = {
        "write", "erase", "fault", "west", "evening", "bidder", "as", "eveningAs", "bid", "sale", "price", "says",
        "undo", "keep", "back", "gain", "limit", "has", "reply", "tempted", "cartel", "otherwise", "season", "bright",
        "score", "best", "seen", "forget", "buyers", "count"};
    private static final int[] ARGUMENTS = {
        1, 0, 0, 0, 2, 2, 2, 2, 2, 1, 2, 3, 0, 1, 1, 3, 1, 1, 2, 0, 1, 0, 2, 2, 1, 0, 2, 0, 0, 1};

    private record Sunset(String kind, int chance) { }

    private record Person(String kind, int worth, int tens) { }

    /** What a sale leaves behind of an evening. */
    private record Gone(int owner, int paid, boolean bright) { }

    private static final class Course {
        List<Gone> gone = new ArrayList<>();
        List<Integer> purses = new ArrayList<>();
        List<Integer> joys = new ArrayList<>();
        List<Integer> bids = new ArrayList<>();
        List<Integer> prices = new ArrayList<>();
        List<List<Integer>> sayings = new ArrayList<>();
        int takings = 0;

        Course copy() {
            Course c = new Course();
            c.gone.addAll(gone);
            c.purses.addAll(purses);
            c.joys.addAll(joys);
            c.bids.addAll(bids);
            c.prices.addAll(prices);
            for (List<Integer> row : sayings) {
                c.sayings.add(new ArrayList<>(row));
            }
            c.takings = takings;
            return c;
        }
    }

    private static final class Model {
        private static final Pattern TOKEN = Pattern.compile("[a-z]+|[0-9]+|[^ ]", Pattern.DOTALL);
        private static final Map<String, int[]> TOPS = Map.ofEntries(
            Map.entry("west", new int[] {}), Map.entry("night", new int[] {}),
            Map.entry("first", new int[] {}), Map.entry("second", new int[] {}),
            Map.entry("clear", new int[] {10}), Map.entry("cloudy", new int[] {10}),
            Map.entry("smoky", new int[] {10}), Map.entry("refund", new int[] {10}),
            Map.entry("reserve", new int[] {99}), Map.entry("plain", new int[] {99, 99}),
            Map.entry("blind", new int[] {99, 99}), Map.entry("sick", new int[] {99, 99}),
            Map.entry("dealer", new int[] {99, 99}));
        private static final List<String> EVENING_KINDS = List.of("clear", "cloudy", "smoky");
        private static final List<String> BIDDER_KINDS = List.of("plain", "blind", "sick", "dealer");

        StringBuilder text = new StringBuilder();
        List<List<String>> clauses = new ArrayList<>();
        List<Sunset> evenings = new ArrayList<>();
        List<Person> people = new ArrayList<>();
        boolean second = false;
        int reserve = 0;
        int refund = 0;
        Course now = new Course();
        Deque<Course> past = new ArrayDeque<>();
        Course[] kept = new Course[2];
        List<int[]> sights = new ArrayList<>();

        int findFault() {
            clauses.clear();
            int evening = evenings.size();
            int person = people.size();
            Matcher m = TOKEN.matcher(text);
            boolean more = m.find();
            while (true) {
                if (!more || !TOPS.containsKey(m.group())) {
                    return more ? m.start() : text.length();
                }
                String word = m.group();
                if (EVENING_KINDS.contains(word) && ++evening > 7 || BIDDER_KINDS.contains(word) && ++person > 5) {
                    return m.start();
                }
                evening = word.equals("west") || word.equals("night") ? 0 : evening;
                person = word.equals("west") ? 0 : person;
                List<String> clause = new ArrayList<>(List.of(word));
                for (int top : TOPS.get(word)) {
                    more = m.find();
                    if (!more || !m.group().matches("[0-9]{1,2}") || Integer.parseInt(m.group()) > top) {
                        return more ? m.start() : text.length();
                    }
                    clause.add(m.group());
                }
                clauses.add(clause);
                if (!m.find()) {
                    return NONE;
                }
                if (!m.group().equals(";") || clauses.size() == 14) {
                    return m.start();
                }
                more = m.find();
            }
        }

        int west() {
            if (findFault() != NONE) {
                return NOT;
            }
            for (List<String> clause : clauses) {
                perform(clause);
            }
            text.setLength(0);
            now = new Course();
            for (Person p : people) {
                now.purses.add(p.tens * 10);
                now.joys.add(0);
                now.bids.add(NONE);
            }
            for (int i = 0; i < evenings.size(); i++) {
                now.prices.add(0);
                now.sayings.add(new ArrayList<>(List.of(5, 5, 5)));
            }
            past.clear();
            kept = new Course[2];
            sights.clear();
            return clauses.size();
        }

        private void perform(List<String> clause) {
            String word = clause.get(0);
            int n = clause.size() > 1 ? Integer.parseInt(clause.get(1)) : 0;
            if (EVENING_KINDS.contains(word)) {
                evenings.add(new Sunset(word, word.equals("cloudy") ? (n < 2 ? 0 : n - 2) : n));
            } else if (BIDDER_KINDS.contains(word)) {
                people.add(new Person(word, n, Integer.parseInt(clause.get(2))));
            } else if (word.equals("reserve")) {
                reserve = n;
            } else if (word.equals("refund")) {
                refund = n;
            } else if (word.equals("night")) {
                evenings.clear();
            } else if (word.equals("west")) {
                evenings.clear();
                people.clear();
                second = false;
                reserve = 0;
                refund = 0;
            } else {
                second = word.equals("second");
            }
        }

        int tonight() {
            return now.gone.size();
        }

        boolean none() {
            return tonight() >= evenings.size();
        }

        boolean noEvening(int e) {
            return e < 0 || e >= evenings.size();
        }

        boolean noBidder(int b) {
            return b < 0 || b >= people.size();
        }

        static boolean out(int n, int low, int high) {
            return n < low || n > high;
        }

        int worth(int b, boolean bright) {
            Person p = people.get(b);
            return switch (p.kind) {
                case "plain" -> bright ? p.worth : 0;
                case "blind" -> p.worth / 2;
                case "sick" -> bright ? p.worth : 5;
                default -> bright && p.worth > 10 ? p.worth - 10 : 0;
            };
        }

        int comesBack(int e, int price) {
            return evenings.get(e).kind.equals("smoky") ? 0 : price * refund / 10;
        }

        int gainOf(int b, int e, int price) {
            int sum = 0;
            for (int tenth = 0; tenth < 10; tenth++) {
                boolean bright = tenth < evenings.get(e).chance;
                sum += worth(b, bright) + (bright ? 0 : comesBack(e, price)) - price;
            }
            return sum;
        }

        /** Owner and payment; the owner is NONE if nobody has it. */
        int[] sell(List<Integer> bids, boolean bySecond) {
            List<int[]> ranks = new ArrayList<>();
            for (int b = 0; b < bids.size(); b++) {
                if (bids.get(b) != NONE && bids.get(b) >= reserve) {
                    ranks.add(new int[] {bids.get(b), b});
                }
            }
            if (ranks.isEmpty()) {
                return new int[] {NONE, NONE};
            }
            ranks.sort((one, other) -> one[0] != other[0] ? other[0] - one[0] : one[1] - other[1]);
            int next = ranks.size() > 1 ? ranks.get(1)[0] : reserve;
            return new int[] {ranks.get(0)[1], bySecond ? next : ranks.get(0)[0]};
        }

        int hasBy(List<Integer> bids, int b) {
            int[] sold = sell(bids, second);
            return sold[0] == b ? gainOf(b, tonight(), sold[1]) : 0;
        }

        int[] replyOf(int b) {
            int[] best = null;
            for (int n = NONE; n <= 99 && n <= now.purses.get(b); n++) {
                List<Integer> trial = new ArrayList<>(now.bids);
                trial.set(b, n);
                int h = hasBy(trial, b);
                if (best == null || h > best[1]) {
                    best = new int[] {n, h};
                }
            }
            return best;
        }

        int cartel(int what) {
            int[] real = sell(now.bids, second);
            int least = Integer.MAX_VALUE;
            int set = NONE;
            for (int s = 0; s < 1 << people.size(); s++) {
                if (real[0] == NONE || Integer.bitCount(s) < 2 || (s & 1 << real[0]) == 0) {
                    continue;
                }
                List<Integer> trial = new ArrayList<>(now.bids);
                for (int b = 0; b < trial.size(); b++) {
                    if (b != real[0] && (s & 1 << b) != 0) {
                        trial.set(b, NONE);
                    }
                }
                if (sell(trial, second)[1] < least) {
                    least = sell(trial, second)[1];
                    set = s;
                }
            }
            return set == NONE ? NONE : what == 0 ? real[1] - least : set;
        }

        int sale(int z) {
            BigInteger x = BigInteger.valueOf(7919).multiply(BigInteger.valueOf(z))
                .add(BigInteger.valueOf(6151L * tonight())).add(BigInteger.ONE);
            int digit = x.multiply(x).mod(BigInteger.valueOf(65521)).mod(BigInteger.TEN).intValue();
            int e = tonight();
            boolean bright = digit < evenings.get(e).chance;
            int[] sold = sell(now.bids, second);
            if (sold[0] != NONE) {
                int net = sold[1] - (bright ? 0 : comesBack(e, sold[1]));
                now.purses.set(sold[0], now.purses.get(sold[0]) - net);
                now.joys.set(sold[0], now.joys.get(sold[0]) + worth(sold[0], bright));
                now.takings += net;
            }
            now.bids.replaceAll(b -> NONE);
            now.gone.add(new Gone(sold[0], Math.max(0, sold[1]), bright));
            return sold[1];
        }

        int season(int b, int what) {
            int best = 0;
            int set = 0;
            for (int s = 0; s < 128; s++) {
                int cost = 0;
                int gains = 0;
                boolean fits = true;
                for (int e = 0; e < 7; e++) {
                    if ((s & 1 << e) != 0) {
                        fits &= e >= tonight() && e < evenings.size();
                        if (fits) {
                            cost += now.prices.get(e);
                            gains += gainOf(b, e, now.prices.get(e));
                        }
                    }
                }
                if (fits && cost <= now.purses.get(b) && gains > best) {
                    best = gains;
                    set = s;
                }
            }
            return what == 0 ? best : set;
        }

        int bright(int k, int part) {
            int left = evenings.size() - tonight();
            long above = 0;
            for (int s = 0; s < 1 << left; s++) {
                long ways = 1;
                for (int i = 0; i < left; i++) {
                    int chance = evenings.get(tonight() + i).chance;
                    ways *= (s & 1 << i) != 0 ? chance : 10 - chance;
                }
                above += Integer.bitCount(s) >= k ? ways : 0;
            }
            BigInteger below = BigInteger.TEN.pow(left);
            BigInteger common = below.gcd(BigInteger.valueOf(above));
            return (part == 0 ? BigInteger.valueOf(above) : below).divide(common).intValue();
        }

        int score(int teller) {
            int sum = 0;
            for (int e = 0; e < tonight(); e++) {
                int miss = now.sayings.get(e).get(teller) - (now.gone.get(e).bright ? 10 : 0);
                sum += miss * miss;
            }
            return sum;
        }

        int buyers() {
            int set = 0;
            for (int buyer = 0; buyer <= 5; buyer++) {
                boolean can = buyer == 5 || buyer < people.size();
                for (int[] sight : sights) {
                    boolean blind = people.get(sight[0]).kind.equals("blind");
                    boolean down = buyer != 5 && !blind && sight[0] != buyer;
                    can &= down == (sight[1] == 1);
                }
                set += can ? 1 << buyer : 0;
            }
            return set;
        }

        private void remember() {
            past.addLast(now.copy());
            if (past.size() > 8) {
                past.removeFirst();
            }
        }

        int answer(String name, int a, int b, int c) {
            return switch (name) {
                case "write" -> out(a, 0, 255) ? OUTSIDE : text.length() == 160 ? FULL : text.append((char) a).length();
                case "erase" -> {
                    int had = text.length();
                    text.setLength(0);
                    yield had;
                }
                case "fault" -> findFault();
                case "west" -> west();
                case "bid", "sale", "price", "says", "undo", "keep", "back" -> change(name, a, b, c);
                case "evening", "bidder", "as", "eveningAs", "count" -> tellOf(name, a, b);
                case "seen", "forget", "buyers" -> sight(name, a, b);
                default -> foretell(name, a, b, c);
            };
        }

        private int change(String name, int a, int b, int c) {
            switch (name) {
                case "bid":
                    if (noBidder(a)) return UNKNOWN;
                    if (out(b, -1, 99)) return OUTSIDE;
                    if (b > now.purses.get(a) || none()) return NOT;
                    remember();
                    now.bids.set(a, b);
                    return (int) now.bids.stream().filter(n -> n != NONE).count();
                case "sale":
                    if (out(a, 0, 9999)) return OUTSIDE;
                    if (none()) return NOT;
                    remember();
                    return sale(a);
                case "price":
                    if (noEvening(a)) return UNKNOWN;
                    if (out(b, 0, 99)) return OUTSIDE;
                    remember();
                    return now.prices.set(a, b);
                case "says":
                    if (out(a, 0, 2) || noEvening(b)) return UNKNOWN;
                    if (out(c, 0, 10)) return OUTSIDE;
                    if (b < tonight()) return NOT;
                    remember();
                    return now.sayings.get(b).set(a, c);
                case "undo":
                    if (past.isEmpty()) return NOT;
                    now = past.removeLast();
                    return past.size();
                case "keep":
                    if (out(a, 0, 1)) return UNKNOWN;
                    kept[a] = now.copy();
                    return tonight();
                default:
                    if (out(a, 0, 1)) return UNKNOWN;
                    if (kept[a] == null) return NOT;
                    now = kept[a].copy();
                    past.clear();
                    return tonight();
            }
        }

        private int tellOf(String name, int a, int b) {
            switch (name) {
                case "evening":
                    if (noEvening(a)) return UNKNOWN;
                    if (out(b, 0, 5)) return OUTSIDE;
                    Gone gone = a < tonight() ? now.gone.get(a) : null;
                    int bright = gone == null ? NONE : gone.bright ? 1 : 0;
                    return new int[] {EVENING_KINDS.indexOf(evenings.get(a).kind), evenings.get(a).chance,
                        now.prices.get(a), gone == null ? NONE : gone.owner, gone == null ? 0 : gone.paid, bright}[b];
                case "bidder":
                    if (noBidder(a)) return UNKNOWN;
                    if (out(b, 0, 4)) return OUTSIDE;
                    return new int[] {BIDDER_KINDS.indexOf(people.get(a).kind), people.get(a).worth,
                        now.purses.get(a), now.joys.get(a), now.bids.get(a)}[b];
                case "as":
                    if (noBidder(a)) return UNKNOWN;
                    if (out(b, 0, 4)) return OUTSIDE;
                    String ranks = Map.of("plain", "01", "blind", "02", "sick", "013", "dealer", "014")
                        .get(people.get(a).kind);
                    return ranks.contains("" + b) ? 100 * worth(a, true) + worth(a, false) : NOT;
                case "eveningAs":
                    if (noEvening(a)) return UNKNOWN;
                    if (out(b, 0, 3)) return OUTSIDE;
                    String over = Map.of("clear", "01", "cloudy", "012", "smoky", "03").get(evenings.get(a).kind);
                    return over.contains("" + b) ? comesBack(a, 50) : NOT;
                default:
                    if (out(a, 0, 11)) return OUTSIDE;
                    return new int[] {evenings.size(), people.size(), tonight(), second ? 1 : 0, reserve, refund,
                        (int) now.bids.stream().filter(n -> n != NONE).count(), now.takings,
                        now.joys.stream().mapToInt(n -> n).sum(), sights.size(), past.size(), text.length()}[a];
            }
        }

        private int sight(String name, int a, int b) {
            switch (name) {
                case "seen":
                    if (noBidder(a)) return UNKNOWN;
                    if (out(b, 0, 1)) return OUTSIDE;
                    if (sights.size() == 6) return FULL;
                    sights.add(new int[] {a, b});
                    return sights.size();
                case "forget":
                    int were = sights.size();
                    sights.clear();
                    return were;
                default:
                    return buyers();
            }
        }

        private int foretell(String name, int a, int b, int c) {
            switch (name) {
                case "gain":
                    return noBidder(a) || noEvening(b) ? UNKNOWN : out(c, 0, 99) ? OUTSIDE : gainOf(a, b, c) + LIFT;
                case "limit":
                    if (noBidder(a)) return UNKNOWN;
                    if (none()) return NOT;
                    int limit = 0;
                    for (int p = 0; p <= 99 && p <= now.purses.get(a); p++) {
                        limit = gainOf(a, tonight(), p) >= 0 ? p : limit;
                    }
                    return limit;
                case "has":
                    return noBidder(a) ? UNKNOWN : none() ? NOT : hasBy(now.bids, a) + LIFT;
                case "reply":
                    if (noBidder(a)) return UNKNOWN;
                    if (out(b, 0, 1)) return OUTSIDE;
                    return none() ? NOT : b == 0 ? replyOf(a)[0] : replyOf(a)[1] + LIFT;
                case "tempted":
                    if (none()) return NOT;
                    int set = 0;
                    for (int p = 0; p < people.size(); p++) {
                        set += replyOf(p)[1] > hasBy(now.bids, p) ? 1 << p : 0;
                    }
                    return set;
                case "cartel":
                    return out(a, 0, 1) ? OUTSIDE : none() ? NOT : cartel(a);
                case "otherwise":
                    return none() ? NOT : sell(now.bids, !second)[1];
                case "season":
                    return noBidder(a) ? UNKNOWN : out(b, 0, 1) ? OUTSIDE : season(a, b);
                case "bright":
                    return out(a, 0, 7) || out(b, 0, 1) ? OUTSIDE : bright(a, b);
                case "score":
                    return out(a, 0, 2) ? UNKNOWN : score(a);
                default:
                    if (tonight() == 0) return NONE;
                    int[] scores = {score(0), score(1), score(2)};
                    int least = Arrays.stream(scores).min().getAsInt();
                    return scores[0] == least ? 0 : scores[1] == least ? 1 : 2;
            }
        }
    }

    private static int ask(SunsetSale x, String name, int a, int b, int c) {
        return switch (name) {
            case "write" -> x.write(a);
            case "erase" -> x.erase();
            case "fault" -> x.fault();
            case "west" -> x.west();
            case "evening" -> x.evening(a, b);
            case "bidder" -> x.bidder(a, b);
            case "as" -> x.as(a, b);
            case "eveningAs" -> x.eveningAs(a, b);
            case "bid" -> x.bid(a, b);
            case "sale" -> x.sale(a);
            case "price" -> x.price(a, b);
            case "says" -> x.says(a, b, c);
            case "undo" -> x.undo();
            case "keep" -> x.keep(a);
            case "back" -> x.back(a);
            case "gain" -> x.gain(a, b, c);
            case "limit" -> x.limit(a);
            case "has" -> x.has(a);
            case "reply" -> x.reply(a, b);
            case "tempted" -> x.tempted();
            case "cartel" -> x.cartel(a);
            case "otherwise" -> x.otherwise();
            case "season" -> x.season(a, b);
            case "bright" -> x.bright(a, b);
            case "score" -> x.score(a);
            case "best" -> x.best();
            case "seen" -> x.seen(a, b);
            case "forget" -> x.forget();
            case "buyers" -> x.buyers();
            default -> x.count(a);
        };
    }

    /** One run; its seed alone decides it. */
    private static final class Run {
        private final Random random;
        private final int seed;
        private final SunsetSale x = new SunsetSale();
        private final Model model = new Model();
        private final List<String> log = new ArrayList<>();
        private boolean right = true;

        Run(int seed) {
            this.seed = seed;
            random = new Random(seed);
        }

        boolean isRight() {
            if (random.nextInt(10) > 0) {
                text();
            }
            while (log.size() < CALLS && right) {
                int dice = random.nextInt(100);
                if (dice == 0) {
                    text();
                } else if (dice < 30) {
                    call(pick("bid", "bid", "bid", "sale", "price", "says"));
                } else {
                    call(pick(NAMES));
                }
            }
            if (!right) {
                System.out.println("seed " + seed + ":\n  " + String.join("\n  ", log));
            }
            return right;
        }

        private String pick(String... names) {
            return names[random.nextInt(names.length)];
        }

        private void call(String name) {
            int count = ARGUMENTS[Arrays.asList(NAMES).indexOf(name)];
            int[] args = new int[3];
            for (int i = 0; i < count; i++) {
                args[i] = argument(name, i);
            }
            compare(name, count, args);
        }

        private int argument(String name, int place) {
            int dice = random.nextInt(60);
            if (dice == 0) {
                return random.nextInt();
            }
            if (dice == 1) {
                return new int[] {Integer.MIN_VALUE, -2, -1, 100, Integer.MAX_VALUE}[random.nextInt(5)];
            }
            return switch (name) {
                case "write" -> " ;az059west".charAt(random.nextInt(11));
                case "sale" -> random.nextInt(10001);
                case "count" -> random.nextInt(13);
                case "keep", "back", "cartel" -> random.nextInt(2);
                case "bid" -> place == 0 ? random.nextInt(5) : random.nextInt(4) == 0 ? random.nextInt(100) : random.nextInt(32) - 1;
                case "price" -> place == 0 ? random.nextInt(7) : random.nextInt(60);
                case "says" -> place == 0 ? random.nextInt(3) : place == 1 ? random.nextInt(7) : random.nextInt(11);
                case "gain" -> place == 2 ? random.nextInt(101) : random.nextInt(5);
                case "reply", "season", "seen" -> place == 0 ? random.nextInt(5) : random.nextInt(2);
                case "bright" -> place == 0 ? random.nextInt(8) : random.nextInt(2);
                default -> random.nextInt(6);
            };
        }

        /** A text that is often right, sometimes nearly. */
        private void text() {
            StringBuilder text = new StringBuilder();
            int clauses = 1 + random.nextInt(random.nextInt(4) == 0 ? 15 : 12);
            for (int i = 0; i < clauses; i++) {
                text.append(i == 0 ? "" : pick(";", ";", " ; ")).append(clause());
            }
            if (random.nextInt(5) == 0) {
                text.insert(random.nextInt(text.length() + 1), pick(";", "x", "7", " ", ".", "A", "\u00ff", "clear"));
            }
            if (random.nextInt(8) == 0) {
                text.setLength(random.nextInt(text.length() + 1));
            }
            compare("erase", 0, new int[3]);
            for (int i = 0; i < text.length(); i++) {
                compare("write", 1, new int[] {text.charAt(i), 0, 0});
            }
            compare("fault", 0, new int[3]);
            compare("west", 0, new int[3]);
        }

        private String clause() {
            int dice = random.nextInt(30);
            if (dice < 12) {
                return pick("clear ", "clear", "cloudy ", "smoky ") + random.nextInt(random.nextInt(20) == 0 ? 13 : 11);
            }
            if (dice < 23) {
                String purse = random.nextInt(3) == 0 ? "" + random.nextInt(3) : pick("9", "99", "4", "20");
                return pick("plain ", "plain", "blind ", "sick ", "dealer ") + random.nextInt(100) + " " + purse;
            }
            return pick("first", "second", "second", "reserve " + random.nextInt(20), "refund " + random.nextInt(11),
                "refund 10", "night", random.nextInt(3) == 0 ? "west" : "second");
        }

        private void compare(String name, int count, int[] args) {
            if (!right || log.size() >= CALLS) {
                return;
            }
            int want = model.answer(name, args[0], args[1], args[2]);
            int got = ask(x, name, args[0], args[1], args[2]);
            String shown = name + Arrays.toString(Arrays.copyOf(args, count)) + " answered " + got;
            log.add(got == want ? shown : shown + ", due is " + want);
            right = got == want;
        }
    }

    public static void main(String[] args) {
        int wrong = 0;
        for (int seed = 0; seed < RUNS && wrong < 3; seed++) {
            if (!new Run(seed).isRight()) {
                wrong++;
            }
        }
        System.out.println(RUNS + " runs beside the model, " + wrong + " not as due");
        if (wrong != 0) {
            System.exit(1);
        }
    }
}
