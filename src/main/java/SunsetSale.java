import java.util.Arrays;

/** Sunsets that are auctioned nightly, as ../shared/DOC.md promises. */
public final class SunsetSale {
    public static final int NONE = -1, UNKNOWN = -2, OUTSIDE = -3, NOT = -4, FULL = -5;

    private static final int MOST_EVENINGS = 7;
    private static final int MOST_BIDDERS = 5;
    private static final int MOST_LETTERS = 160;
    private static final int MOST_CLAUSES = 14;
    private static final int MOST_SIGHTS = 6;
    private static final int MOST_UNDONE = 8;
    private static final int TELLERS = 3;
    private static final int KEEPS = 2;
    private static final int TOP_LETTER = 255;
    private static final int TOP_MONEY = 99;
    private static final int TOP_LOT = 9999;
    private static final int TENTHS = 10;

    /** Lifts what may be below 0 above all refusals. */
    private static final int LIFT = 99999;

    private static final int CLOUDY = 1;
    private static final int SMOKY = 2;
    private static final int BLIND = 1;
    private static final int SICK = 2;
    private static final int DEALER = 3;
    private static final int FIRST = 0;
    private static final int SECOND = 1;

    /** The kind over each kind; a told kind stands one place higher here, behind the root. */
    private static final int[] OVER_BIDDERS = {-1, 0, 0, 1, 1};
    private static final int[] OVER_EVENINGS = {-1, 0, 1, 0};

    private static final int WORDS = 13;
    private static final int WORD_WEST = 0;
    private static final int WORD_CLEAR = 1;
    private static final int WORD_SMOKY = 3;
    private static final int WORD_PLAIN = 4;
    private static final int WORD_DEALER = 7;
    private static final int WORD_FIRST = 8;
    private static final int WORD_SECOND = 9;
    private static final int WORD_RESERVE = 10;
    private static final int WORD_REFUND = 11;
    private static final int WORD_NIGHT = 12;

    private final Text text;
    private final Told told;
    private final Course now;
    private final Past past;
    private final Course[] kept;
    private final boolean[] isKept;
    private final Auction auction;
    private final Outlook outlook;
    private final Sights sights;

    public SunsetSale() {
        text = new Text();
        told = new Told();
        now = new Course();
        past = new Past();
        kept = new Course[KEEPS];
        for (int k = 0; k < KEEPS; k++) {
            kept[k] = new Course();
        }
        isKept = new boolean[KEEPS];
        auction = new Auction(told, now);
        outlook = new Outlook(told, now);
        sights = new Sights(told);
        now.startAnew(told);
    }

    // ---- what is told

    public int write(int letter) {
        if (!isWithin(letter, TOP_LETTER)) {
            return OUTSIDE;
        }
        if (text.length >= MOST_LETTERS) {
            return FULL;
        }
        text.add(letter);
        return text.length;
    }

    public int erase() {
        int had = text.length;
        text.length = 0;
        return had;
    }

    public int fault() {
        return text.findFault(told.evenings, told.bidders);
    }

    public int west() {
        if (text.findFault(told.evenings, told.bidders) != NONE) {
            return NOT;
        }
        for (int i = 0; i < text.clauses && i < MOST_CLAUSES; i++) {
            told.carryOut(text.words[i], text.firsts[i], text.seconds[i]);
        }
        text.length = 0;
        now.startAnew(told);
        sights.number = 0;
        past.number = 0;
        for (int k = 0; k < KEEPS; k++) {
            isKept[k] = false;
        }
        return text.clauses;
    }

    public int evening(int evening, int what) {
        if (!told.isEvening(evening)) {
            return UNKNOWN;
        }
        switch (what) {
            case 0: return told.eveningKinds[evening];
            case 1: return told.chances[evening];
            case 2: return now.prices[evening];
            case 3: return now.owners[evening];
            case 4: return now.payments[evening];
            case 5: return now.outcomes[evening];
            default: return OUTSIDE;
        }
    }

    public int bidder(int bidder, int what) {
        if (!told.isBidder(bidder)) {
            return UNKNOWN;
        }
        switch (what) {
            case 0: return told.bidderKinds[bidder];
            case 1: return told.worths[bidder];
            case 2: return now.purses[bidder];
            case 3: return now.joys[bidder];
            case 4: return now.bids[bidder];
            default: return OUTSIDE;
        }
    }

    public int as(int bidder, int kind) {
        if (!told.isBidder(bidder)) {
            return UNKNOWN;
        }
        if (!isWithin(kind, OVER_BIDDERS.length - 1)) {
            return OUTSIDE;
        }
        if (!isUnder(told.bidderKinds[bidder] + 1, kind, OVER_BIDDERS)) {
            return NOT;
        }
        return 100 * told.worthBright(bidder) + told.worthDull(bidder);
    }

    public int eveningAs(int evening, int kind) {
        if (!told.isEvening(evening)) {
            return UNKNOWN;
        }
        if (!isWithin(kind, OVER_EVENINGS.length - 1)) {
            return OUTSIDE;
        }
        if (!isUnder(told.eveningKinds[evening] + 1, kind, OVER_EVENINGS)) {
            return NOT;
        }
        return told.refundOf(evening, 50);
    }

    // ---- sales

    public int bid(int bidder, int n) {
        if (!told.isBidder(bidder)) {
            return UNKNOWN;
        }
        if (n != NONE && !isWithin(n, TOP_MONEY)) {
            return OUTSIDE;
        }
        if (n > now.purses[bidder] || !isTonight()) {
            return NOT;
        }
        past.remember(now);
        now.bids[bidder] = n;
        return now.countBids();
    }

    public int sale(int z) {
        if (!isWithin(z, TOP_LOT)) {
            return OUTSIDE;
        }
        if (!isTonight()) {
            return NOT;
        }
        past.remember(now);
        return auction.sell(z);
    }

    public int price(int evening, int n) {
        if (!told.isEvening(evening)) {
            return UNKNOWN;
        }
        if (!isWithin(n, TOP_MONEY)) {
            return OUTSIDE;
        }
        past.remember(now);
        int was = now.prices[evening];
        now.prices[evening] = n;
        return was;
    }

    public int says(int teller, int evening, int n) {
        if (!isTeller(teller) || !told.isEvening(evening)) {
            return UNKNOWN;
        }
        if (!isWithin(n, TENTHS)) {
            return OUTSIDE;
        }
        if (evening < now.tonight) {
            return NOT;
        }
        past.remember(now);
        int place = sayingPlace(teller, evening);
        int was = now.sayings[place];
        now.sayings[place] = n;
        return was;
    }

    public int undo() {
        if (past.number <= 0) {
            return NOT;
        }
        past.recall(now);
        return past.number;
    }

    public int keep(int k) {
        if (!isWithin(k, KEEPS - 1)) {
            return UNKNOWN;
        }
        kept[k].copyFrom(now);
        isKept[k] = true;
        return now.tonight;
    }

    public int back(int k) {
        if (!isWithin(k, KEEPS - 1)) {
            return UNKNOWN;
        }
        if (!isKept[k]) {
            return NOT;
        }
        now.copyFrom(kept[k]);
        past.number = 0;
        return now.tonight;
    }

    // ---- foretold

    public int gain(int bidder, int evening, int price) {
        if (!told.isBidder(bidder) || !told.isEvening(evening)) {
            return UNKNOWN;
        }
        if (!isWithin(price, TOP_MONEY)) {
            return OUTSIDE;
        }
        return told.gainOf(bidder, evening, price) + LIFT;
    }

    public int limit(int bidder) {
        if (!told.isBidder(bidder)) {
            return UNKNOWN;
        }
        if (!isTonight()) {
            return NOT;
        }
        return auction.dearestPrice(bidder);
    }

    public int has(int bidder) {
        if (!told.isBidder(bidder)) {
            return UNKNOWN;
        }
        if (!isTonight()) {
            return NOT;
        }
        return auction.gainBy(now.bids, bidder) + LIFT;
    }

    public int reply(int bidder, int what) {
        if (!told.isBidder(bidder)) {
            return UNKNOWN;
        }
        if (!isWithin(what, 1)) {
            return OUTSIDE;
        }
        if (!isTonight()) {
            return NOT;
        }
        auction.findReply(bidder);
        return what == 0 ? auction.replyBid : auction.replyGain + LIFT;
    }

    public int tempted() {
        return isTonight() ? auction.findTempted() : NOT;
    }

    public int cartel(int what) {
        if (!isWithin(what, 1)) {
            return OUTSIDE;
        }
        if (!isTonight()) {
            return NOT;
        }
        auction.findCartel();
        return what == 0 ? auction.cartelSaves : auction.cartelSet;
    }

    public int otherwise() {
        if (!isTonight()) {
            return NOT;
        }
        int owner = auction.ownerBy(now.bids);
        if (owner == NONE) {
            return NONE;
        }
        return auction.paymentBy(now.bids, owner, told.rule == FIRST ? SECOND : FIRST);
    }

    public int season(int bidder, int what) {
        if (!told.isBidder(bidder)) {
            return UNKNOWN;
        }
        if (!isWithin(what, 1)) {
            return OUTSIDE;
        }
        outlook.findSeason(bidder);
        return what == 0 ? outlook.seasonGain : outlook.seasonSet;
    }

    public int bright(int k, int part) {
        if (!isWithin(k, MOST_EVENINGS) || !isWithin(part, 1)) {
            return OUTSIDE;
        }
        outlook.findOdds(k);
        return part == 0 ? outlook.oddsAbove : outlook.oddsBelow;
    }

    public int score(int teller) {
        return isTeller(teller) ? now.scoreOf(teller) : UNKNOWN;
    }

    public int best() {
        if (now.tonight == 0) {
            return NONE;
        }
        int best = 0;
        for (int teller = 1; teller < TELLERS; teller++) {
            if (now.scoreOf(teller) < now.scoreOf(best)) {
                best = teller;
            }
        }
        return best;
    }

    // ---- what was seen

    public int seen(int bidder, int down) {
        if (!told.isBidder(bidder)) {
            return UNKNOWN;
        }
        if (!isWithin(down, 1)) {
            return OUTSIDE;
        }
        if (sights.number >= MOST_SIGHTS) {
            return FULL;
        }
        sights.add(bidder, down);
        return sights.number;
    }

    public int forget() {
        int were = sights.number;
        sights.number = 0;
        return were;
    }

    public int buyers() {
        return sights.findBuyers();
    }

    public int count(int what) {
        switch (what) {
            case 0: return told.evenings;
            case 1: return told.bidders;
            case 2: return now.tonight;
            case 3: return told.rule;
            case 4: return told.reserve;
            case 5: return told.refund;
            case 6: return now.countBids();
            case 7: return now.takings;
            case 8: return now.joyOfAll();
            case 9: return sights.number;
            case 10: return past.number;
            case 11: return text.length;
            default: return OUTSIDE;
        }
    }

    private boolean isTonight() {
        return told.isEvening(now.tonight);
    }

    private static boolean isTeller(int teller) {
        return isWithin(teller, TELLERS - 1);
    }

    private static boolean isWithin(int n, int top) {
        return n >= 0 && n <= top;
    }

    private static int sayingPlace(int teller, int evening) {
        return teller * MOST_EVENINGS + evening;
    }

    private static boolean isUnder(int own, int asked, int[] over) {
        int kind = own;
        for (int step = 0; step < over.length && isWithin(kind, over.length - 1); step++) {
            if (kind == asked) {
                return true;
            }
            kind = over[kind];
        }
        return false;
    }

    private static boolean isEveningWord(int word) {
        return word >= WORD_CLEAR && word <= WORD_SMOKY;
    }

    private static boolean isBidderWord(int word) {
        return word >= WORD_PLAIN && word <= WORD_DEALER;
    }

    /** THE TEXT, and its CLAUSES as they were last read. */
    private static final class Text {
        final int[] letters = new int[MOST_LETTERS];
        int length;
        int clauses;
        final int[] words = new int[MOST_CLAUSES];
        final int[] firsts = new int[MOST_CLAUSES];
        final int[] seconds = new int[MOST_CLAUSES];
        private int begin;
        private int end;
        private int evenings;
        private int bidders;

        void add(int letter) {
            if (length < MOST_LETTERS) {
                letters[length] = letter;
                length++;
            }
        }

        /** Counts along with what was told before, since that decides which word is one too many. */
        int findFault(int eveningsBefore, int biddersBefore) {
            evenings = eveningsBefore;
            bidders = biddersBefore;
            clauses = 0;
            end = 0;
            for (int i = 0; i < MOST_CLAUSES; i++) {
                if (!readClause(i)) {
                    return begin;
                }
                clauses++;
                readToken();
                if (begin >= length) {
                    return NONE;
                }
                if (letters[begin] != ';') {
                    return begin;
                }
            }
            return begin;
        }

        private boolean readClause(int i) {
            readToken();
            int word = findWord();
            if (word == NONE || !hasRoomFor(word)) {
                return false;
            }
            words[i] = word;
            firsts[i] = 0;
            seconds[i] = 0;
            int numbers = numbersBehind(word);
            if (numbers > 0) {
                readToken();
                firsts[i] = numberUpTo(topBehind(word));
            }
            if (numbers > 1 && firsts[i] != NONE) {
                readToken();
                seconds[i] = numberUpTo(TOP_MONEY);
            }
            countAlong(word);
            return firsts[i] != NONE && seconds[i] != NONE;
        }

        /** At the end of THE TEXT the token is empty and begins at the length. */
        private void readToken() {
            begin = end;
            while (begin < length && letters[begin] == ' ') {
                begin++;
            }
            end = begin;
            if (begin >= length) {
                return;
            }
            int sort = sortOf(letters[begin]);
            end++;
            while (sort != 0 && end < length && sortOf(letters[end]) == sort) {
                end++;
            }
        }

        private static int sortOf(int letter) {
            if (letter >= 'a' && letter <= 'z') {
                return 1;
            }
            return letter >= '0' && letter <= '9' ? 2 : 0;
        }

        private int findWord() {
            for (int word = 0; word < WORDS; word++) {
                if (isToken(spelling(word))) {
                    return word;
                }
            }
            return NONE;
        }

        private static String spelling(int word) {
            switch (word) {
                case 0: return "west";
                case 1: return "clear";
                case 2: return "cloudy";
                case 3: return "smoky";
                case 4: return "plain";
                case 5: return "blind";
                case 6: return "sick";
                case 7: return "dealer";
                case 8: return "first";
                case 9: return "second";
                case 10: return "reserve";
                case 11: return "refund";
                default: return "night";
            }
        }

        private boolean isToken(String word) {
            if (end - begin != word.length()) {
                return false;
            }
            for (int i = 0; i < word.length(); i++) {
                if (letters[begin + i] != word.charAt(i)) {
                    return false;
                }
            }
            return true;
        }

        private boolean hasRoomFor(int word) {
            if (isEveningWord(word)) {
                return evenings < MOST_EVENINGS;
            }
            return !isBidderWord(word) || bidders < MOST_BIDDERS;
        }

        private static int numbersBehind(int word) {
            if (isBidderWord(word)) {
                return 2;
            }
            return isEveningWord(word) || word == WORD_RESERVE || word == WORD_REFUND ? 1 : 0;
        }

        private static int topBehind(int word) {
            return isEveningWord(word) || word == WORD_REFUND ? TENTHS : TOP_MONEY;
        }

        private int numberUpTo(int top) {
            int digits = end - begin;
            if (digits < 1 || digits > 2 || sortOf(letters[begin]) != 2) {
                return NONE;
            }
            int number = letters[begin] - '0';
            if (digits == 2) {
                number = 10 * number + letters[begin + 1] - '0';
            }
            return number <= top ? number : NONE;
        }

        private void countAlong(int word) {
            if (isEveningWord(word)) {
                evenings++;
            } else if (isBidderWord(word)) {
                bidders++;
            } else if (word == WORD_NIGHT) {
                evenings = 0;
            } else if (word == WORD_WEST) {
                evenings = 0;
                bidders = 0;
            }
        }
    }

    /** What texts tell; only a text changes it, so it need not be kept or undone. */
    private static final class Told {
        int rule;
        int reserve;
        int refund;
        int evenings;
        int bidders;
        final int[] eveningKinds = new int[MOST_EVENINGS];
        final int[] chances = new int[MOST_EVENINGS];
        final int[] bidderKinds = new int[MOST_BIDDERS];
        final int[] worths = new int[MOST_BIDDERS];
        final int[] tens = new int[MOST_BIDDERS];

        boolean isEvening(int evening) {
            return evening >= 0 && evening < evenings;
        }

        boolean isBidder(int bidder) {
            return bidder >= 0 && bidder < bidders;
        }

        void carryOut(int word, int first, int second) {
            if (isEveningWord(word)) {
                addEvening(word - WORD_CLEAR, first);
            } else if (isBidderWord(word)) {
                addBidder(word - WORD_PLAIN, first, second);
            } else {
                settle(word, first);
            }
        }

        private void settle(int word, int number) {
            switch (word) {
                case WORD_WEST: forgetAll(); break;
                case WORD_FIRST: rule = FIRST; break;
                case WORD_SECOND: rule = SECOND; break;
                case WORD_RESERVE: reserve = number; break;
                case WORD_REFUND: refund = number; break;
                case WORD_NIGHT: evenings = 0; break;
                default: break;
            }
        }

        private void forgetAll() {
            rule = FIRST;
            reserve = 0;
            refund = 0;
            evenings = 0;
            bidders = 0;
        }

        private void addEvening(int kind, int chance) {
            if (evenings < MOST_EVENINGS) {
                eveningKinds[evenings] = kind;
                chances[evenings] = kind == CLOUDY ? Math.max(0, chance - 2) : chance;
                evenings++;
            }
        }

        private void addBidder(int kind, int worth, int purseTens) {
            if (bidders < MOST_BIDDERS) {
                bidderKinds[bidders] = kind;
                worths[bidders] = worth;
                tens[bidders] = purseTens;
                bidders++;
            }
        }

        int worthBright(int bidder) {
            switch (bidderKinds[bidder]) {
                case BLIND: return worths[bidder] / 2;
                case DEALER: return Math.max(0, worths[bidder] - 10);
                default: return worths[bidder];
            }
        }

        int worthDull(int bidder) {
            switch (bidderKinds[bidder]) {
                case BLIND: return worths[bidder] / 2;
                case SICK: return 5;
                default: return 0;
            }
        }

        /** What comes back of a price when the evening is dull. */
        int refundOf(int evening, int price) {
            return eveningKinds[evening] == SMOKY ? 0 : refund * price / TENTHS;
        }

        int gainOf(int bidder, int evening, int price) {
            int chance = chances[evening];
            int ifDull = worthDull(bidder) + refundOf(evening, price);
            return chance * worthBright(bidder) + (TENTHS - chance) * ifDull - TENTHS * price;
        }
    }

    /** All that bids, sales, prices and sayings change; kept and undone as a whole. */
    private static final class Course {
        int tonight;
        int takings;
        final int[] purses = new int[MOST_BIDDERS];
        final int[] joys = new int[MOST_BIDDERS];
        final int[] bids = new int[MOST_BIDDERS];
        final int[] prices = new int[MOST_EVENINGS];
        final int[] owners = new int[MOST_EVENINGS];
        final int[] payments = new int[MOST_EVENINGS];
        final int[] outcomes = new int[MOST_EVENINGS];
        final int[] sayings = new int[TELLERS * MOST_EVENINGS];

        void startAnew(Told told) {
            tonight = 0;
            takings = 0;
            for (int bidder = 0; bidder < MOST_BIDDERS; bidder++) {
                purses[bidder] = TENTHS * told.tens[bidder];
            }
            Arrays.fill(joys, 0);
            Arrays.fill(bids, NONE);
            Arrays.fill(prices, 0);
            Arrays.fill(owners, NONE);
            Arrays.fill(payments, 0);
            Arrays.fill(outcomes, NONE);
            Arrays.fill(sayings, 5);
        }

        void copyFrom(Course other) {
            tonight = other.tonight;
            takings = other.takings;
            System.arraycopy(other.purses, 0, purses, 0, MOST_BIDDERS);
            System.arraycopy(other.joys, 0, joys, 0, MOST_BIDDERS);
            System.arraycopy(other.bids, 0, bids, 0, MOST_BIDDERS);
            System.arraycopy(other.prices, 0, prices, 0, MOST_EVENINGS);
            System.arraycopy(other.owners, 0, owners, 0, MOST_EVENINGS);
            System.arraycopy(other.payments, 0, payments, 0, MOST_EVENINGS);
            System.arraycopy(other.outcomes, 0, outcomes, 0, MOST_EVENINGS);
            System.arraycopy(other.sayings, 0, sayings, 0, TELLERS * MOST_EVENINGS);
        }

        int countBids() {
            int number = 0;
            for (int bidder = 0; bidder < MOST_BIDDERS; bidder++) {
                if (bids[bidder] != NONE) {
                    number++;
                }
            }
            return number;
        }

        int joyOfAll() {
            int joy = 0;
            for (int bidder = 0; bidder < MOST_BIDDERS; bidder++) {
                joy += joys[bidder];
            }
            return joy;
        }

        int scoreOf(int teller) {
            int sum = 0;
            for (int evening = 0; evening < tonight && evening < MOST_EVENINGS; evening++) {
                int truth = outcomes[evening] == 1 ? TENTHS : 0;
                int miss = sayings[sayingPlace(teller, evening)] - truth;
                sum += miss * miss;
            }
            return sum;
        }
    }

    /** The courses that undoing goes back to: a ring, so that the oldest makes room. */
    private static final class Past {
        final Course[] ring = new Course[MOST_UNDONE];
        int number;
        private int next;

        Past() {
            for (int i = 0; i < MOST_UNDONE; i++) {
                ring[i] = new Course();
            }
        }

        void remember(Course course) {
            ring[next].copyFrom(course);
            next = (next + 1) % MOST_UNDONE;
            number = Math.min(number + 1, MOST_UNDONE);
        }

        void recall(Course course) {
            next = (next + MOST_UNDONE - 1) % MOST_UNDONE;
            course.copyFrom(ring[next]);
            number--;
        }
    }

    /** The sale of tonight, as it is done and as it is foretold; all calls need an evening tonight. */
    private static final class Auction {
        private final Told told;
        private final Course now;
        /** Bids as they might be, so that foretelling leaves the real ones alone. */
        private final int[] trial = new int[MOST_BIDDERS];
        int replyBid;
        int replyGain;
        int cartelSaves;
        int cartelSet;

        Auction(Told told, Course now) {
            this.told = told;
            this.now = now;
        }

        int ownerBy(int[] bids) {
            int owner = NONE;
            for (int bidder = 0; bidder < told.bidders; bidder++) {
                if (bids[bidder] >= told.reserve && (owner == NONE || bids[bidder] > bids[owner])) {
                    owner = bidder;
                }
            }
            return owner;
        }

        int paymentBy(int[] bids, int owner, int rule) {
            if (rule == FIRST) {
                return bids[owner];
            }
            int most = told.reserve;
            for (int bidder = 0; bidder < told.bidders; bidder++) {
                if (bidder != owner) {
                    most = Math.max(most, bids[bidder]);
                }
            }
            return most;
        }

        int gainBy(int[] bids, int bidder) {
            if (ownerBy(bids) != bidder) {
                return 0;
            }
            return told.gainOf(bidder, now.tonight, paymentBy(bids, bidder, told.rule));
        }

        int sell(int z) {
            int evening = now.tonight;
            int owner = ownerBy(now.bids);
            boolean isBright = isBrightBy(z, evening);
            int paid = NONE;
            if (owner != NONE) {
                paid = paymentBy(now.bids, owner, told.rule);
                handOver(owner, paid, isBright);
            }
            now.outcomes[evening] = isBright ? 1 : 0;
            Arrays.fill(now.bids, NONE);
            now.tonight++;
            return paid;
        }

        private boolean isBrightBy(int z, int evening) {
            long x = 7919L * z + 6151L * evening + 1;
            return x * x % 65521 % 10 < told.chances[evening];
        }

        private void handOver(int owner, int paid, boolean isBright) {
            int evening = now.tonight;
            int cost = isBright ? paid : paid - told.refundOf(evening, paid);
            now.owners[evening] = owner;
            now.payments[evening] = paid;
            now.purses[owner] -= cost;
            now.takings += cost;
            now.joys[owner] += isBright ? told.worthBright(owner) : told.worthDull(owner);
        }

        /** At 0 nobody loses, so the search downwards ends there at the latest. */
        int dearestPrice(int bidder) {
            for (int price = topBid(bidder); price > 0; price--) {
                if (told.gainOf(bidder, now.tonight, price) >= 0) {
                    return price;
                }
            }
            return 0;
        }

        private int topBid(int bidder) {
            return Math.min(TOP_MONEY, now.purses[bidder]);
        }

        void findReply(int bidder) {
            System.arraycopy(now.bids, 0, trial, 0, MOST_BIDDERS);
            replyBid = NONE;
            replyGain = 0;
            int top = topBid(bidder);
            for (int n = 0; n <= top; n++) {
                trial[bidder] = n;
                int gained = gainBy(trial, bidder);
                if (gained > replyGain) {
                    replyBid = n;
                    replyGain = gained;
                }
            }
        }

        int findTempted() {
            int set = 0;
            for (int bidder = 0; bidder < told.bidders; bidder++) {
                findReply(bidder);
                if (replyGain > gainBy(now.bids, bidder)) {
                    set |= 1 << bidder;
                }
            }
            return set;
        }

        void findCartel() {
            cartelSaves = NONE;
            cartelSet = NONE;
            int owner = ownerBy(now.bids);
            if (owner == NONE) {
                return;
            }
            int paid = paymentBy(now.bids, owner, told.rule);
            for (int set = 0; set < 1 << told.bidders; set++) {
                if ((set >> owner & 1) == 1 && Integer.bitCount(set) >= 2) {
                    int saves = paid - paymentWithin(set, owner);
                    if (saves > cartelSaves) {
                        cartelSaves = saves;
                        cartelSet = set;
                    }
                }
            }
        }

        private int paymentWithin(int set, int owner) {
            for (int bidder = 0; bidder < told.bidders; bidder++) {
                boolean isSilent = bidder != owner && (set >> bidder & 1) == 1;
                trial[bidder] = isSilent ? NONE : now.bids[bidder];
            }
            return paymentBy(trial, owner, told.rule);
        }
    }

    /** What the evenings from tonight on may bring. */
    private static final class Outlook {
        private final Told told;
        private final Course now;
        /** By how many bright ones: in how many of 10 to the power of the evenings. */
        private final int[] ways = new int[MOST_EVENINGS + 1];
        private final int[] gains = new int[MOST_EVENINGS];
        int seasonGain;
        int seasonSet;
        int oddsAbove;
        int oddsBelow;

        Outlook(Told told, Course now) {
            this.told = told;
            this.now = now;
        }

        /** The empty set is always affordable and gains 0, so the answer is never below that. */
        void findSeason(int bidder) {
            for (int evening = now.tonight; evening < told.evenings; evening++) {
                gains[evening] = told.gainOf(bidder, evening, now.prices[evening]);
            }
            seasonGain = 0;
            seasonSet = 0;
            int step = 1 << now.tonight;
            for (int set = step; set < 1 << told.evenings; set += step) {
                int gained = sumOver(set, gains);
                if (gained > seasonGain && sumOver(set, now.prices) <= now.purses[bidder]) {
                    seasonGain = gained;
                    seasonSet = set;
                }
            }
        }

        private int sumOver(int set, int[] row) {
            int sum = 0;
            for (int evening = now.tonight; evening < told.evenings; evening++) {
                if ((set >> evening & 1) == 1) {
                    sum += row[evening];
                }
            }
            return sum;
        }

        void findOdds(int atLeast) {
            Arrays.fill(ways, 0);
            ways[0] = 1;
            int all = 1;
            for (int evening = now.tonight; evening < told.evenings; evening++) {
                addEvening(told.chances[evening]);
                all *= TENTHS;
            }
            int good = 0;
            for (int number = atLeast; number <= MOST_EVENINGS; number++) {
                good += ways[number];
            }
            int divisor = commonDivisor(all, good);
            oddsAbove = good / divisor;
            oddsBelow = all / divisor;
        }

        private void addEvening(int chance) {
            for (int number = MOST_EVENINGS; number > 0; number--) {
                ways[number] = ways[number] * (TENTHS - chance) + ways[number - 1] * chance;
            }
            ways[0] *= TENTHS - chance;
        }

        /** Never 0, so that one can divide by it; 100 steps are far more than ints need. */
        private static int commonDivisor(int one, int other) {
            int divisor = one;
            int rest = other;
            for (int step = 0; step < 100 && rest != 0; step++) {
                int left = divisor % rest;
                divisor = rest;
                rest = left;
            }
            return Math.max(1, divisor);
        }
    }

    /** Whose blinds were seen, of an evening whose buyer is lost. */
    private static final class Sights {
        private final Told told;
        private final int[] bidders = new int[MOST_SIGHTS];
        private final int[] downs = new int[MOST_SIGHTS];
        int number;

        Sights(Told told) {
            this.told = told;
        }

        void add(int bidder, int down) {
            if (number < MOST_SIGHTS) {
                bidders[number] = bidder;
                downs[number] = down;
                number++;
            }
        }

        int findBuyers() {
            int set = 0;
            for (int buyer = 0; buyer < told.bidders; buyer++) {
                if (fits(buyer)) {
                    set |= 1 << buyer;
                }
            }
            return fits(NONE) ? set | 1 << MOST_BIDDERS : set;
        }

        private boolean fits(int buyer) {
            for (int i = 0; i < number; i++) {
                if (downs[i] != downBy(buyer, bidders[i])) {
                    return false;
                }
            }
            return true;
        }

        /** A blind one has no blinds, so they are never down. */
        private int downBy(int buyer, int bidder) {
            boolean isDown = buyer != NONE && buyer != bidder && told.bidderKinds[bidder] != BLIND;
            return isDown ? 1 : 0;
        }
    }
}
