/** A threshing set that goes from farm to farm in winter. */
public final class ThreshRound {

    public static final int NONE = -1;

    private static final int YARD = 0;
    private static final int MOST_FARMS = 7;
    private static final int PLACES = MOST_FARMS + 1;
    private static final int LAST_DAY = 999;

    private final Tape tape;
    private final Customs rules;
    private final Farms farms;
    private final Roads roads;
    private final Debts debts;
    private final Search search;
    private final Plan atHand;
    private final Engine engine;

    public ThreshRound() {
        tape = new Tape();
        rules = new Customs();
        farms = new Farms();
        roads = new Roads();
        debts = new Debts();
        search = new Search();
        atHand = new Plan();
        engine = new Engine();
    }

    // ---- the face ----

    public int feed(int a, int b, int c, int d, int e) {
        if (!tape.hasRoomFor(20)) {
            return NONE;
        }
        tape.append(a);
        tape.append(b);
        tape.append(c);
        tape.append(d);
        tape.append(e);
        return tape.length;
    }

    public int customs(int n) {
        if (n < 0 || n > tape.length) {
            return -2;
        }
        int lines = rules.read(tape, n);
        tape.length = 0;
        return lines;
    }

    public int fault(int what) {
        switch (what) {
            case 0:
                return rules.fault;
            case 1:
                return rules.faultPlace;
            default:
                return NONE;
        }
    }

    public int farm(int stack, int damp, int hands, int lends, int from, int to) {
        boolean fits = within(stack, 1, 300) && within(damp, 0, 9)
                && within(hands, 0, 12) && within(lends, 0, 12)
                && within(from, 0, 99) && within(to, from, 99);
        if (!fits || farms.count >= MOST_FARMS) {
            return NONE;
        }
        int f = farms.add();
        put(farms.stack, f, stack);
        put(farms.left, f, stack);
        put(farms.damp, f, damp);
        put(farms.own, f, hands);
        put(farms.lends, f, lends);
        put(farms.from, f, from);
        put(farms.to, f, to);
        return f;
    }

    public boolean way(int a, int b, int days) {
        if (!isPlace(a) || !isPlace(b) || a == b || !within(days, NONE, 9)) {
            return false;
        }
        put(roads.days, a, b, days);
        put(roads.days, b, a, days);
        return true;
    }

    public boolean bargain(int farm, int how, int coins) {
        if (!farms.has(farm) || !within(how, 0, 1) || !within(coins, 0, 999)) {
            return false;
        }
        put(farms.how, farm, how);
        put(farms.coins, farm, coins);
        return true;
    }

    public int plan() {
        if (engine.onTheWay > 0) {
            return NONE;
        }
        prepareSearch();
        if (!search.find(roads, engine.place, engine.today)) {
            return NONE;
        }
        atHand.make(search, roads, engine.place, engine.today);
        engine.going = false;
        return search.bestLoss;
    }

    public int planned(int k, int what) {
        if (!within(k, 0, atHand.length - 1)) {
            return NONE;
        }
        switch (what) {
            case 0:
                return at(atHand.order, k);
            case 1:
                return at(atHand.there, k);
            case 2:
                return at(atHand.begin, k);
            case 3:
                return at(atHand.leave, k);
            case 4:
                return at(atHand.loss, k);
            default:
                return NONE;
        }
    }

    public boolean out() {
        if (atHand.length == 0 || atHand.wasSetOut || atHand.madeOn != engine.today) {
            return false;
        }
        int first = at(atHand.order, 0);
        if (roads.between(engine.place, first) == NONE) {
            return false;
        }
        atHand.wasSetOut = true;
        engine.going = true;
        engine.step = 0;
        setOutFor(first);
        return true;
    }

    public boolean breaks(int days) {
        if (!within(days, 1, 9)) {
            return false;
        }
        engine.broken = days;
        return true;
    }

    public int day(int n) {
        if (!within(n, 1, 99) || engine.today + n > LAST_DAY) {
            return NONE;
        }
        for (int i = 0; i < n; i++) {
            passDay();
        }
        return engine.today;
    }

    public int look(int farm, int what) {
        if (!farms.has(farm)) {
            return NONE;
        }
        switch (what) {
            case 0:
                return at(farms.left, farm);
            case 1:
                return sacksOf(farm);
            case 2:
                return at(farms.days, farm);
            case 3:
                return at(farms.doneOn, farm);
            case 4:
                return priceOf(farm);
            case 5:
                return gangOf(farm);
            case 6:
                return speedOf(farm);
            case 7:
                return lossOf(farm);
            default:
                return NONE;
        }
    }

    public int owed(int a, int b) {
        return areTwoFarms(a, b) ? at(debts.owed, a, b) : Integer.MIN_VALUE;
    }

    public int lent(int a, int b) {
        if (!areTwoFarms(a, b)) {
            return NONE;
        }
        gangOf(a);
        return at(debts.given, b);
    }

    public int count(int what) {
        switch (what) {
            case 0:
                return engine.today;
            case 1:
                return engine.place;
            case 2:
                return engine.onTheWay;
            case 3:
                return engine.broken;
            case 4:
                return farms.count;
            case 5:
                return farms.count - farms.openOnes();
            case 6:
                return howItIs();
            default:
                return NONE;
        }
    }

    // ---- what the face asks of its parts ----

    private boolean isPlace(int p) {
        return p == YARD || farms.has(p);
    }

    private boolean areTwoFarms(int a, int b) {
        return farms.has(a) && farms.has(b) && a != b;
    }

    private void prepareSearch() {
        search.startAnew(rules.tells(Customs.LATE));
        for (int f = 1; f <= farms.count; f++) {
            if (farms.isOpen(f)) {
                int days = upwards(at(farms.left, f), speedOf(f));
                search.add(f, at(farms.from, f), at(farms.to, f), days);
            }
        }
        search.force(engine.place);
        search.force(rules.tells(Customs.FIRST));
    }

    private int gangOf(int f) {
        return debts.muster(farms, f, rules.tells(Customs.HANDS));
    }

    private int speedOf(int f) {
        int hands = rules.tells(Customs.HANDS);
        int gang = debts.muster(farms, f, hands);
        return Math.max(cut(rules.tells(Customs.RATE) * gang, hands), 1);
    }

    private int sacksOf(int f) {
        int threshed = at(farms.stack, f) - at(farms.left, f);
        int dry = 100 - rules.tells(Customs.DAMP) * at(farms.damp, f);
        return cut(threshed * dry, 100 * rules.tells(Customs.SHEAVES));
    }

    private int priceOf(int f) {
        int pieces = at(farms.how, f) == 1 ? sacksOf(f) : at(farms.days, f);
        return pieces * at(farms.coins, f);
    }

    private int lossOf(int f) {
        if (farms.isOpen(f)) {
            return 0;
        }
        int behind = at(farms.doneOn, f) - at(farms.to, f);
        return rules.tells(Customs.LATE) * Math.max(behind, 0);
    }

    private int howItIs() {
        if (!engine.going) {
            return 0;
        }
        if (engine.onTheWay > 0) {
            return 1;
        }
        return isAheadOfFrom() ? 2 : 3;
    }

    private boolean isAheadOfFrom() {
        return engine.today < at(farms.from, engine.place);
    }

    // ---- a day ----

    private void passDay() {
        if (engine.broken > 0) {
            engine.broken--;
        } else if (engine.going && engine.onTheWay > 0) {
            engine.onTheWay--;
        } else if (engine.going && !isAheadOfFrom()) {
            thresh(engine.place);
        }
        engine.today++;
    }

    private void thresh(int f) {
        // the speed musters the gang, so what each farm gives stands in debts after it
        int sheaves = Math.min(speedOf(f), at(farms.left, f));
        put(farms.left, f, at(farms.left, f) - sheaves);
        put(farms.days, f, at(farms.days, f) + 1);
        debts.oweTheGivers(farms.count, f);
        if (!farms.isOpen(f)) {
            put(farms.doneOn, f, engine.today);
            goOn();
        }
    }

    private void goOn() {
        engine.step++;
        boolean more = engine.step < atHand.length;
        int next = more ? at(atHand.order, engine.step) : engine.place;
        if (more && roads.between(engine.place, next) != NONE) {
            setOutFor(next);
        } else {
            engine.going = false;
        }
    }

    private void setOutFor(int next) {
        engine.onTheWay = roads.between(engine.place, next);
        engine.place = next;
    }

    // ---- rows and numbers ----

    private static boolean within(int n, int least, int most) {
        return n >= least && n <= most;
    }

    private static int at(int[] row, int i) {
        return i >= 0 && i < row.length ? row[i] : NONE;
    }

    private static void put(int[] row, int i, int value) {
        if (i >= 0 && i < row.length) {
            row[i] = value;
        }
    }

    private static int at(int[][] rows, int i, int j) {
        return i >= 0 && i < rows.length && j >= 0 && j < rows[i].length ? rows[i][j] : NONE;
    }

    private static void put(int[][] rows, int i, int j, int value) {
        if (i >= 0 && i < rows.length && j >= 0 && j < rows[i].length) {
            rows[i][j] = value;
        }
    }

    private static int cut(int n, int by) {
        return by > 0 ? n / by : 0;
    }

    private static int upwards(int n, int by) {
        return by > 0 ? (n + by - 1) / by : 0;
    }

    // ---- the parts ----

    /** The bytes that were fed and not yet taken, with a place at which they are read. */
    private static final class Tape {
        static final int MOST = 300;
        // above every number that may be told; keeps long rows of digits from wrapping
        private static final int TOO_MUCH = 1000;

        private final int[] bytes;
        int length;
        int place;
        private int end;

        Tape() {
            bytes = new int[MOST];
            length = 0;
            place = 0;
            end = 0;
        }

        boolean hasRoomFor(int more) {
            return length + more <= MOST;
        }

        void append(int number) {
            for (int shift = 24; shift >= 0; shift -= 8) {
                put(bytes, length, (number >>> shift) & 255);
                length++;
            }
        }

        void readFirst(int n) {
            place = 0;
            end = n;
        }

        boolean isAtEnd() {
            return place >= end;
        }

        int byteAt(int p) {
            return p < end ? at(bytes, p) : NONE;
        }

        void skipBlanks() {
            while (place < end && (byteAt(place) == ' ' || byteAt(place) == '\n')) {
                place++;
            }
        }

        int endOfRow(char least, char most) {
            int p = place;
            while (p < end && within(byteAt(p), least, most)) {
                p++;
            }
            return p;
        }

        int numberUpTo(int stop) {
            int number = 0;
            for (int p = place; p < stop; p++) {
                number = Math.min(number * 10 + byteAt(p) - '0', TOO_MUCH);
            }
            return number;
        }

        boolean isWordUpTo(int stop, String word) {
            if (stop - place != word.length()) {
                return false;
            }
            for (int i = 0; i < word.length(); i++) {
                if (byteAt(place + i) != word.charAt(i)) {
                    return false;
                }
            }
            return true;
        }
    }

    /** The customs in force, and how new ones are read from a tape. */
    private static final class Customs {
        static final int HANDS = 0;
        static final int RATE = 1;
        static final int SHEAVES = 2;
        static final int LATE = 3;
        static final int FIRST = 4;
        static final int DAMP = 5;
        static final int KINDS = 6;

        private static final int[] LEAST = {1, 1, 1, 0, 1, 0};
        private static final int[] MOST = {20, 99, 50, 99, 7, 10};
        // the yard is never in an order, so its 0 as the first farm stands for none
        private static final int[] USUAL = {8, 10, 4, 1, 0, 5};

        private final int[] inForce;
        private final int[] told;
        int fault;
        int faultPlace;

        Customs() {
            inForce = new int[KINDS];
            told = new int[KINDS];
            forgetTold();
            putInForce();
        }

        int tells(int kind) {
            return at(inForce, kind);
        }

        /** Reads the first n bytes: the number of lines, or NONE with a fault. */
        int read(Tape tape, int n) {
            forgetTold();
            tape.readFirst(n);
            tape.skipBlanks();
            int lines = 0;
            // each line takes a byte at least
            while (lines < n && !tape.isAtEnd()) {
                if (!readLine(tape)) {
                    return NONE;
                }
                lines++;
                tape.skipBlanks();
            }
            putInForce();
            return lines;
        }

        private void forgetTold() {
            fault = 0;
            faultPlace = NONE;
            for (int kind = 0; kind < KINDS; kind++) {
                put(told, kind, NONE);
            }
        }

        private void putInForce() {
            for (int kind = 0; kind < KINDS; kind++) {
                int number = at(told, kind);
                put(inForce, kind, number == NONE ? at(USUAL, kind) : number);
            }
        }

        private boolean readLine(Tape tape) {
            int wordEnd = tape.endOfRow('a', 'z');
            int kind = kindOfWord(tape, wordEnd);
            if (kind == NONE) {
                return fails(1, tape.place);
            }
            if (at(told, kind) != NONE) {
                return fails(3, tape.place);
            }
            tape.place = wordEnd;
            tape.skipBlanks();
            int digitsEnd = tape.endOfRow('0', '9');
            if (digitsEnd == tape.place) {
                return fails(1, tape.place);
            }
            int number = tape.numberUpTo(digitsEnd);
            if (!within(number, at(LEAST, kind), at(MOST, kind))) {
                return fails(2, tape.place);
            }
            tape.place = digitsEnd;
            tape.skipBlanks();
            if (tape.byteAt(tape.place) != ';') {
                return fails(1, tape.place);
            }
            tape.place++;
            put(told, kind, number);
            return true;
        }

        private boolean fails(int which, int where) {
            fault = which;
            faultPlace = where;
            return false;
        }

        private static int kindOfWord(Tape tape, int wordEnd) {
            for (int kind = 0; kind < KINDS; kind++) {
                if (tape.isWordUpTo(wordEnd, word(kind))) {
                    return kind;
                }
            }
            return NONE;
        }

        private static String word(int kind) {
            switch (kind) {
                case HANDS:
                    return "hands";
                case RATE:
                    return "rate";
                case SHEAVES:
                    return "sheaves";
                case LATE:
                    return "late";
                case FIRST:
                    return "first";
                default:
                    return "damp";
            }
        }
    }

    /** What is known of each farm, in rows by the farm's number. */
    private static final class Farms {
        int count;
        final int[] stack;
        final int[] left;
        final int[] damp;
        final int[] own;
        final int[] lends;
        final int[] from;
        final int[] to;
        final int[] days;
        final int[] doneOn;
        final int[] how;
        final int[] coins;

        Farms() {
            count = 0;
            stack = new int[PLACES];
            left = new int[PLACES];
            damp = new int[PLACES];
            own = new int[PLACES];
            lends = new int[PLACES];
            from = new int[PLACES];
            to = new int[PLACES];
            days = new int[PLACES];
            doneOn = new int[PLACES];
            how = new int[PLACES];
            coins = new int[PLACES];
        }

        int add() {
            count++;
            put(doneOn, count, NONE);
            return count;
        }

        boolean has(int f) {
            return f >= 1 && f <= count;
        }

        boolean isOpen(int f) {
            return has(f) && at(left, f) > 0;
        }

        int openOnes() {
            int open = 0;
            for (int f = 1; f <= count; f++) {
                if (isOpen(f)) {
                    open++;
                }
            }
            return open;
        }
    }

    /** The days of the ways between places. */
    private static final class Roads {
        final int[][] days;

        Roads() {
            days = new int[PLACES][PLACES];
            for (int a = 0; a < PLACES; a++) {
                for (int b = 0; b < PLACES; b++) {
                    put(days, a, b, NONE);
                }
            }
        }

        /** The days from a to b, NONE without a way; no way is needed to where one is. */
        int between(int a, int b) {
            return a == b ? 0 : at(days, a, b);
        }
    }

    /** What farms owe each other, and what each gives to the gang that was mustered last. */
    private static final class Debts {
        final int[][] owed;
        final int[] given;

        Debts() {
            owed = new int[PLACES][PLACES];
            given = new int[PLACES];
        }

        /** Fills given for the gang of f, and answers how many the gang has. */
        int muster(Farms farms, int f, int most) {
            for (int g = 0; g < PLACES; g++) {
                put(given, g, NONE);
            }
            put(given, f, 0);
            int gang = Math.min(at(farms.own, f), most);
            for (int turn = 1; turn < farms.count; turn++) {
                int g = nextLender(farms.count, f);
                int hands = Math.min(at(farms.lends, g), most - gang);
                put(given, g, hands);
                gang += hands;
            }
            return gang;
        }

        private int nextLender(int farmCount, int f) {
            int next = NONE;
            for (int g = 1; g <= farmCount; g++) {
                boolean unasked = at(given, g) == NONE;
                if (unasked && (next == NONE || at(owed, g, f) > at(owed, next, f))) {
                    next = g;
                }
            }
            return next;
        }

        void oweTheGivers(int farmCount, int f) {
            for (int g = 1; g <= farmCount; g++) {
                if (g != f) {
                    int hands = at(given, g);
                    put(owed, f, g, at(owed, f, g) + hands);
                    put(owed, g, f, at(owed, g, f) - hands);
                }
            }
        }
    }

    /** Seeks the order with the least loss among the farms that were added. */
    private static final class Search {
        private int late;
        private final int[] need;
        private final int[] from;
        private final int[] to;
        private final boolean[] waits;
        private final int[] forced;
        private int forcedCount;
        private final int[] order;
        final int[] best;
        int toGo;
        int bestLoss;
        int bestEnd;

        Search() {
            need = new int[PLACES];
            from = new int[PLACES];
            to = new int[PLACES];
            waits = new boolean[PLACES];
            forced = new int[MOST_FARMS];
            order = new int[MOST_FARMS];
            best = new int[MOST_FARMS];
            startAnew(0);
        }

        void startAnew(int lateCoins) {
            late = lateCoins;
            toGo = 0;
            forcedCount = 0;
            bestLoss = Integer.MAX_VALUE;
            bestEnd = Integer.MAX_VALUE;
            for (int f = 0; f < PLACES; f++) {
                setWaits(f, false);
            }
        }

        void add(int f, int firstDay, int lastDay, int days) {
            put(from, f, firstDay);
            put(to, f, lastDay);
            put(need, f, days);
            setWaits(f, true);
            toGo++;
        }

        /** Has f come next behind those forced already, if it is one of those to go. */
        void force(int f) {
            boolean already = forcedCount > 0 && at(forced, 0) == f;
            if (isWaiting(f) && !already) {
                put(forced, forcedCount, f);
                forcedCount++;
            }
        }

        boolean find(Roads roads, int place, int today) {
            if (toGo > 0) {
                extend(this, roads, 0, place, today, 0);
            }
            return bestEnd != Integer.MAX_VALUE;
        }

        /**
         * Tries each farm behind an order of so many. Orders come by their numbers,
         * so of like ones the first stays the best.
         */
        private static void extend(Search s, Roads roads, int length, int place, int today, int loss) {
            if (length >= s.toGo || length >= MOST_FARMS) {
                s.keepAsBest(today, loss);
                return;
            }
            for (int f = 1; f <= MOST_FARMS; f++) {
                int days = roads.between(place, f);
                if (days != NONE && s.mayCome(f, length)) {
                    int end = s.leaves(f, today + days);
                    int sum = loss + s.lossOf(f, end);
                    // neither loss nor days grow less behind a farm
                    if (s.beatsBest(end, sum)) {
                        put(s.order, length, f);
                        s.setWaits(f, false);
                        extend(s, roads, length + 1, f, end, sum);
                        s.setWaits(f, true);
                    }
                }
            }
        }

        private boolean mayCome(int f, int length) {
            return isWaiting(f) && (length >= forcedCount || at(forced, length) == f);
        }

        int begins(int f, int there) {
            return Math.max(there, at(from, f));
        }

        int leaves(int f, int there) {
            return begins(f, there) + at(need, f);
        }

        int lossOf(int f, int end) {
            return late * Math.max(end - at(to, f) - 1, 0);
        }

        private boolean beatsBest(int end, int loss) {
            return loss < bestLoss || loss == bestLoss && end < bestEnd;
        }

        private void keepAsBest(int end, int loss) {
            bestEnd = end;
            bestLoss = loss;
            for (int k = 0; k < MOST_FARMS; k++) {
                put(best, k, at(order, k));
            }
        }

        private boolean isWaiting(int f) {
            return f >= 0 && f < waits.length && waits[f];
        }

        private void setWaits(int f, boolean does) {
            if (f >= 0 && f < waits.length) {
                waits[f] = does;
            }
        }
    }

    /** The plan at hand; of length 0 there is none. */
    private static final class Plan {
        int length;
        int madeOn;
        boolean wasSetOut;
        final int[] order;
        final int[] there;
        final int[] begin;
        final int[] leave;
        final int[] loss;

        Plan() {
            length = 0;
            madeOn = 0;
            wasSetOut = false;
            order = new int[MOST_FARMS];
            there = new int[MOST_FARMS];
            begin = new int[MOST_FARMS];
            leave = new int[MOST_FARMS];
            loss = new int[MOST_FARMS];
        }

        void make(Search search, Roads roads, int fromPlace, int today) {
            length = Math.min(search.toGo, MOST_FARMS);
            madeOn = today;
            wasSetOut = false;
            int place = fromPlace;
            int when = today;
            for (int k = 0; k < length; k++) {
                int f = at(search.best, k);
                int arrival = when + roads.between(place, f);
                put(order, k, f);
                put(there, k, arrival);
                put(begin, k, search.begins(f, arrival));
                when = search.leaves(f, arrival);
                put(leave, k, when);
                put(loss, k, search.lossOf(f, when));
                place = f;
            }
        }
    }

    /** Where the set is, and how it goes. */
    private static final class Engine {
        int today;
        int place;
        int onTheWay;
        int broken;
        boolean going;
        int step;

        Engine() {
            today = 0;
            place = YARD;
            onTheWay = 0;
            broken = 0;
            going = false;
            step = 0;
        }
    }
}
