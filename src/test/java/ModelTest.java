import java.math.BigInteger;
import java.util.ArrayList;
import java.util.HashMap;
import java.util.LinkedHashMap;
import java.util.List;
import java.util.Map;
import java.util.Random;
import java.util.regex.Matcher;
import java.util.regex.Pattern;

/** Long runs of calls on ThreshRound and on a plainer program of the same document: all answers must be the same. */
public final class ModelTest {
    private static final int NONE = -1;
    private static final int RUNS = 4000;
    private static final int CALLS = 511;
    private static final int[] WILD = {Integer.MIN_VALUE, Integer.MIN_VALUE + 1, -1000, -2, -1, 0, 1, 7, 8, 9, 10,
        13, 99, 100, 300, 301, 999, 1000, Integer.MAX_VALUE - 1, Integer.MAX_VALUE};

    private static Random dice;
    private static ThreshRound real;
    private static Model model;
    private static long answers = 0;
    private static int wrong = 0;
    private static final Map<String, Integer> seen = new HashMap<>();

    public static void main(String[] args) {
        for (int run = 0; run < RUNS && wrong < 10; run++) {
            dice = new Random(run);
            real = new ThreshRound();
            model = new Model();
            oneRun(run);
        }
        // a rare state that no run comes to would be tested by nothing
        String[] states = {"plan made", "out", "on the way", "waiting", "threshing", "stuck", "all done", "fault 1",
            "fault 2", "fault 3", "lines", "three done", "debt turned round"};
        for (String state : states) {
            if (seen.getOrDefault(state, 0) < 20) {
                wrong++;
                System.out.println("no run came to: " + state);
            }
        }
        System.out.println("ModelTest: " + answers + " answers, " + wrong + " wrong");
        if (wrong != 0) {
            System.exit(1);
        }
    }

    private static void oneRun(int run) {
        boolean tame = run % 4 != 0;
        int calls = 0;
        int before = wrong;
        if (tame) {
            calls += layOut(run);
        }
        while (calls < CALLS && wrong == before) {
            calls += anyCall(run, tame);
            note();
        }
    }

    private static void see(String state) {
        seen.merge(state, 1, Integer::sum);
    }

    private static void note() {
        int how = model.count(6);
        if (how > 0) {
            see(how == 1 ? "on the way" : how == 2 ? "waiting" : "threshing");
        }
        if (how == 0 && model.wasOut && model.steps < model.order.size()) {
            see("stuck");
        }
        int done = model.count(5);
        if (done > 2) {
            see("three done");
        }
        if (done > 0 && done == model.count(4)) {
            see("all done");
        }
        for (int debt : model.owed.values()) {
            if (debt < 0) {
                see("debt turned round");
            }
        }
    }

    private static int layOut(int run) {
        int farms = 1 + dice.nextInt(7);
        int calls = 0;
        for (int f = 0; f < farms; f++) {
            int from = dice.nextInt(20);
            farm(run, 1 + dice.nextInt(dice.nextBoolean() ? 20 : 100), dice.nextInt(10), dice.nextInt(13), dice.nextInt(5),
                    from, from + dice.nextInt(30));
            calls++;
        }
        for (int a = 0; a <= farms; a++) {
            for (int b = a + 1; b <= farms; b++) {
                if (dice.nextInt(6) > 0) {
                    way(run, a, b, dice.nextInt(4));
                    calls++;
                }
            }
        }
        return calls;
    }

    private static int pick(boolean tame, int least, int most) {
        if (dice.nextInt(tame ? 60 : 6) == 0) {
            return WILD[dice.nextInt(WILD.length)];
        }
        return least + dice.nextInt(most - least + 1);
    }

    private static int anyCall(int run, boolean tame) {
        switch (dice.nextInt(22)) {
            case 0:
                return tell(run);
            case 1:
                int what = pick(tame, 0, 1);
                due(run, "fault(" + what + ")", real.fault(what), model.fault(what));
                return 1;
            case 2:
                if (dice.nextInt(8) == 0) {
                    farm(run, pick(tame, 1, 60), pick(tame, 0, 9), pick(tame, 0, 12), pick(tame, 0, 12), pick(tame, 0, 30),
                            pick(tame, 30, 99));
                }
                return 1;
            case 3:
            case 4:
                way(run, pick(tame, 0, model.farms.size()), pick(tame, 0, model.farms.size()), pick(tame, tame ? 0 : -1, 5));
                return 1;
            case 5:
                int farm = pick(tame, 1, 7);
                int how = pick(tame, 0, 1);
                int coins = pick(tame, 0, 999);
                due(run, "bargain(" + farm + ", " + how + ", " + coins + ")", real.bargain(farm, how, coins),
                        model.bargain(farm, how, coins));
                return 1;
            case 6:
                return tame && model.going && dice.nextInt(4) > 0 ? 0 : plan(run);
            case 7:
                due(run, "out()", real.out(), model.out());
                return 1;
            case 8:
                int days = pick(tame, 1, 9);
                if (dice.nextInt(4) == 0) {
                    due(run, "breaks(" + days + ")", real.breaks(days), model.breaks(days));
                }
                return 1;
            case 9:
            case 10:
                int n = pick(tame, 1, tame ? 3 : 99);
                due(run, "day(" + n + ")", real.day(n), model.day(n));
                return 1;
            case 11:
                return allAnswers(run);
            default:
                return oneAnswer(run, tame);
        }
    }

    private static int plan(int run) {
        int loss = model.plan();
        due(run, "plan()", real.plan(), loss);
        if (loss != NONE) {
            see("plan made");
        }
        for (int k = 0; k < 8; k++) {
            due(run, "planned(" + k + ", 0)", real.planned(k, 0), model.planned(k, 0));
        }
        if (dice.nextInt(3) > 0) {
            boolean goes = model.out();
            due(run, "out()", real.out(), goes);
            if (goes) {
                see("out");
            }
        }
        return 10;
    }

    private static int oneAnswer(int run, boolean tame) {
        int a = pick(tame, 0, 7);
        int b = pick(tame, 0, 7);
        switch (dice.nextInt(5)) {
            case 0:
                due(run, "planned(" + a + ", " + b + ")", real.planned(a, b), model.planned(a, b));
                break;
            case 1:
                due(run, "look(" + a + ", " + b + ")", real.look(a, b), model.look(a, b));
                break;
            case 2:
                due(run, "owed(" + a + ", " + b + ")", real.owed(a, b), model.owed(a, b));
                break;
            case 3:
                due(run, "lent(" + a + ", " + b + ")", real.lent(a, b), model.lent(a, b));
                break;
            default:
                due(run, "count(" + a + ")", real.count(a), model.count(a));
                break;
        }
        return 1;
    }

    /** Asks all that tells of one farm, and all that is counted. */
    private static int allAnswers(int run) {
        int f = 1 + dice.nextInt(7);
        for (int i = 0; i < 8; i++) {
            due(run, "count(" + i + ")", real.count(i), model.count(i));
            due(run, "look(" + f + ", " + i + ")", real.look(f, i), model.look(f, i));
            due(run, "owed(" + f + ", " + i + ")", real.owed(f, i), model.owed(f, i));
            due(run, "lent(" + f + ", " + i + ")", real.lent(f, i), model.lent(f, i));
            due(run, "planned(" + i + ", 3)", real.planned(i, 3), model.planned(i, 3));
        }
        return 40;
    }

    private static void farm(int run, int stack, int damp, int hands, int lends, int from, int to) {
        due(run, "farm(" + stack + ", " + damp + ", " + hands + ", " + lends + ", " + from + ", " + to + ")",
                real.farm(stack, damp, hands, lends, from, to), model.farm(stack, damp, hands, lends, from, to));
    }

    private static void way(int run, int a, int b, int days) {
        due(run, "way(" + a + ", " + b + ", " + days + ")", real.way(a, b, days), model.way(a, b, days));
    }

    private static int tell(int run) {
        String text = text();
        int n = text.length();
        while (text.length() % 20 != 0) {
            text += (char) dice.nextInt(256);
        }
        int calls = 1;
        for (int i = 0; i < text.length(); i += 20) {
            int[] w = new int[5];
            for (int j = 0; j < 20; j++) {
                w[j / 4] = w[j / 4] * 256 + text.charAt(i + j);
            }
            due(run, "feed(..)", real.feed(w[0], w[1], w[2], w[3], w[4]), model.feed(text.substring(i, i + 20)));
            calls++;
        }
        if (dice.nextInt(10) == 0) {
            n = pick(false, 0, 300);
        }
        int lines = model.customs(n);
        due(run, "customs(" + n + ") of <" + text + ">", real.customs(n), lines);
        due(run, "fault(0) of <" + text + ">", real.fault(0), model.fault(0));
        due(run, "fault(1) of <" + text + ">", real.fault(1), model.fault(1));
        see(lines >= 0 ? "lines" : "fault " + model.fault(0));
        return calls + 2;
    }

    private static String text() {
        String[] words = {"hands", "rate", "sheaves", "late", "first", "damp"};
        int[] most = {20, 99, 50, 99, 7, 10};
        StringBuilder s = new StringBuilder();
        for (int i = dice.nextInt(5); i > 0; i--) {
            int w = dice.nextInt(6);
            s.append(blanks(0)).append(words[w]).append(blanks(1)).append(1 + dice.nextInt(most[w])).append(blanks(0)).append(';');
        }
        s.append(blanks(0));
        String[] junk = {"hands", "rat", "first0", "99", "8", "0", "11", " ", "\n", "\t", ";", "A", "\u00e9", "\0", "late late",
            "100", "damp 10", "z", "000000000000000000009"};
        for (int i = dice.nextInt(3); i > 0 && s.length() > 0; i--) {
            int at = dice.nextInt(s.length());
            s.replace(at, Math.min(s.length(), at + dice.nextInt(4)), junk[dice.nextInt(junk.length)]);
        }
        return s.toString();
    }

    private static String blanks(int least) {
        return " \n  \n".substring(0, least + (dice.nextInt(3) == 0 ? dice.nextInt(4) : 0));
    }

    private static void due(int run, String call, boolean got, boolean want) {
        due(run, call, got ? 1 : 0, want ? 1 : 0);
    }

    private static void due(int run, String call, int got, int want) {
        answers++;
        if (got != want) {
            wrong++;
            System.out.println("run " + run + ": " + call + " answered " + got + ", the model " + want);
        }
    }

    // ---- the plainer program ----

    private static final class Stack {
        int sheaves;
        int left;
        int damp;
        int hands;
        int lends;
        int from;
        int to;
        int days;
        int done = NONE;
        boolean bySacks;
        int coins;
    }

    private static final class Stop {
        int farm;
        int there;
        int begin;
        int end;
        int loss;
    }

    private static final class Model {
        String tape = "";
        Map<String, Integer> told = new LinkedHashMap<>();
        int fault = 0;
        int faultPlace = NONE;
        final List<Stack> farms = new ArrayList<>();
        final Map<String, Integer> ways = new HashMap<>();
        final Map<String, Integer> owed = new HashMap<>();
        List<Stop> order = new ArrayList<>();
        int orderDay;
        boolean wasOut;
        boolean going;
        int steps;
        int place = 0;
        int wayLeft = 0;
        int broken = 0;
        int day = 0;

        int feed(String bytes) {
            if (tape.length() > 280) {
                return NONE;
            }
            tape += bytes;
            return tape.length();
        }

        int customs(int n) {
            if (n < 0 || n > tape.length()) {
                return -2;
            }
            String text = tape.substring(0, n);
            tape = "";
            Map<String, Integer> lines = new LinkedHashMap<>();
            fault = 0;
            faultPlace = NONE;
            String word = null;
            int turn = 0;
            Matcher m = Pattern.compile("[a-z]+|[0-9]+|[ \\n]|.", Pattern.DOTALL).matcher(text);
            while (fault == 0 && m.find()) {
                String token = m.group();
                if (token.equals(" ") || token.equals("\n")) {
                    continue;
                }
                faultPlace = m.start();
                if (turn == 0) {
                    word = token;
                    fault = !token.matches("hands|rate|sheaves|late|first|damp") ? 1 : lines.containsKey(token) ? 3 : 0;
                } else if (turn == 1) {
                    fault = !token.matches("[0-9]+") ? 1 : !fits(word, new BigInteger(token)) ? 2 : 0;
                    if (fault == 0) {
                        lines.put(word, new BigInteger(token).intValue());
                    }
                } else {
                    fault = token.equals(";") ? 0 : 1;
                }
                turn = (turn + 1) % 3;
            }
            if (fault == 0 && turn != 0) {
                fault = 1;
                faultPlace = n;
            }
            if (fault != 0) {
                return NONE;
            }
            faultPlace = NONE;
            told = lines;
            return lines.size();
        }

        boolean fits(String word, BigInteger n) {
            int least = word.equals("late") || word.equals("damp") ? 0 : 1;
            int most = Map.of("hands", 20, "rate", 99, "sheaves", 50, "late", 99, "first", 7, "damp", 10).get(word);
            return n.compareTo(BigInteger.valueOf(least)) >= 0 && n.compareTo(BigInteger.valueOf(most)) <= 0;
        }

        int fault(int what) {
            return what == 0 ? fault : what == 1 ? faultPlace : NONE;
        }

        int custom(String word) {
            return told.getOrDefault(word,
                    Map.of("hands", 8, "rate", 10, "sheaves", 4, "late", 1, "first", NONE, "damp", 5).get(word));
        }

        boolean is(int f) {
            return f >= 1 && f <= farms.size();
        }

        Stack stack(int f) {
            return farms.get(f - 1);
        }

        boolean in(int n, int least, int most) {
            return least <= n && n <= most;
        }

        int farm(int sheaves, int damp, int hands, int lends, int from, int to) {
            if (!in(sheaves, 1, 300) || !in(damp, 0, 9) || !in(hands, 0, 12) || !in(lends, 0, 12) || !in(from, 0, 99)
                    || !in(to, 0, 99) || from > to || farms.size() == 7) {
                return NONE;
            }
            Stack s = new Stack();
            s.sheaves = sheaves;
            s.left = sheaves;
            s.damp = damp;
            s.hands = hands;
            s.lends = lends;
            s.from = from;
            s.to = to;
            farms.add(s);
            return farms.size();
        }

        boolean way(int a, int b, int days) {
            if (a < 0 || b < 0 || a > farms.size() || b > farms.size() || a == b || days < NONE || days > 9) {
                return false;
            }
            ways.put(Math.min(a, b) + "-" + Math.max(a, b), days);
            return true;
        }

        int days(int a, int b) {
            return ways.getOrDefault(Math.min(a, b) + "-" + Math.max(a, b), NONE);
        }

        boolean bargain(int f, int how, int coins) {
            if (!is(f) || !in(how, 0, 1) || !in(coins, 0, 999)) {
                return false;
            }
            stack(f).bySacks = how == 1;
            stack(f).coins = coins;
            return true;
        }

        int debt(int a, int b) {
            return owed.getOrDefault(a + ">" + b, 0);
        }

        /** The hands that come to f, by farms; f's own under its own number. */
        Map<Integer, Integer> gang(int f) {
            List<Integer> others = new ArrayList<>();
            for (int g = 1; g <= farms.size(); g++) {
                if (g != f) {
                    others.add(g);
                }
            }
            // the sort keeps like ones by their numbers
            others.sort((g, h) -> Integer.compare(debt(h, f), debt(g, f)));
            Map<Integer, Integer> gang = new LinkedHashMap<>();
            int room = custom("hands");
            gang.put(f, Math.min(room, stack(f).hands));
            room -= gang.get(f);
            for (int g : others) {
                int hands = Math.min(room, stack(g).lends);
                gang.put(g, hands);
                room -= hands;
            }
            return gang;
        }

        int gangSize(int f) {
            int sum = 0;
            for (int hands : gang(f).values()) {
                sum += hands;
            }
            return sum;
        }

        int speed(int f) {
            int speed = custom("rate") * gangSize(f) / custom("hands");
            return speed == 0 ? 1 : speed;
        }

        int sacks(int f) {
            Stack s = stack(f);
            return (s.sheaves - s.left) * (100 - custom("damp") * s.damp) / (100 * custom("sheaves"));
        }

        int plan() {
            if (wayLeft > 0) {
                return NONE;
            }
            List<Integer> open = new ArrayList<>();
            for (int f = 1; f <= farms.size(); f++) {
                if (stack(f).left > 0) {
                    open.add(f);
                }
            }
            int[] speeds = new int[8];
            for (int f : open) {
                speeds[f] = speed(f);
            }
            List<List<Integer>> orders = new ArrayList<>();
            permute(new ArrayList<>(), open, orders);
            List<Stop> best = null;
            for (List<Integer> o : orders) {
                List<Stop> stops = keepsFirst(o, open) ? walk(o, speeds) : null;
                if (stops != null && (best == null || ahead(stops, best))) {
                    best = stops;
                }
            }
            if (best == null || open.isEmpty()) {
                return NONE;
            }
            order = best;
            orderDay = day;
            wasOut = false;
            going = false;
            return sum(best);
        }

        void permute(List<Integer> head, List<Integer> rest, List<List<Integer>> orders) {
            if (rest.isEmpty()) {
                orders.add(new ArrayList<>(head));
            }
            for (Integer f : rest) {
                List<Integer> others = new ArrayList<>(rest);
                others.remove(f);
                head.add(f);
                permute(head, others, orders);
                head.remove(head.size() - 1);
            }
        }

        boolean keepsFirst(List<Integer> o, List<Integer> open) {
            int first = custom("first");
            if (open.contains(place)) {
                if (o.get(0) != place) {
                    return false;
                }
                return first == place || !open.contains(first) || o.get(1) == first;
            }
            return !open.contains(first) || o.get(0) == first;
        }

        List<Stop> walk(List<Integer> o, int[] speeds) {
            List<Stop> stops = new ArrayList<>();
            int at = place;
            int when = day;
            for (int f : o) {
                int days = f == at ? 0 : days(at, f);
                if (days == NONE) {
                    return null;
                }
                Stop s = new Stop();
                s.farm = f;
                s.there = when + days;
                s.begin = s.there < stack(f).from ? stack(f).from : s.there;
                s.end = s.begin + (int) Math.ceil(stack(f).left / (double) speeds[f]);
                s.loss = s.end > stack(f).to + 1 ? custom("late") * (s.end - stack(f).to - 1) : 0;
                stops.add(s);
                at = f;
                when = s.end;
            }
            return stops;
        }

        int sum(List<Stop> stops) {
            return stops.stream().mapToInt(s -> s.loss).sum();
        }

        /** Orders come by their numbers, so a like one is not ahead. */
        boolean ahead(List<Stop> a, List<Stop> b) {
            int last = a.size() - 1;
            return sum(a) != sum(b) ? sum(a) < sum(b) : last >= 0 && a.get(last).end < b.get(last).end;
        }

        int planned(int k, int what) {
            if (k < 0 || k >= order.size() || what < 0 || what > 4) {
                return NONE;
            }
            Stop s = order.get(k);
            return new int[] {s.farm, s.there, s.begin, s.end, s.loss}[what];
        }

        boolean out() {
            if (order.isEmpty() || wasOut || orderDay != day) {
                return false;
            }
            int next = order.get(0).farm;
            if (next != place && days(place, next) == NONE) {
                return false;
            }
            wayLeft = next == place ? 0 : days(place, next);
            place = next;
            wasOut = true;
            going = true;
            steps = 0;
            return true;
        }

        boolean breaks(int days) {
            if (days < 1 || days > 9) {
                return false;
            }
            broken = days;
            return true;
        }

        int day(int n) {
            if (n < 1 || n > 99 || day + n > 999) {
                return NONE;
            }
            for (int i = 0; i < n; i++) {
                pass();
                day++;
            }
            return day;
        }

        void pass() {
            if (broken > 0) {
                broken--;
                return;
            }
            if (!going) {
                return;
            }
            if (wayLeft > 0) {
                wayLeft--;
                return;
            }
            Stack s = stack(place);
            if (day < s.from) {
                return;
            }
            Map<Integer, Integer> gang = gang(place);
            s.left = Math.max(0, s.left - speed(place));
            s.days++;
            for (int g : gang.keySet()) {
                if (g != place) {
                    owed.merge(place + ">" + g, gang.get(g), Integer::sum);
                    owed.merge(g + ">" + place, -gang.get(g), Integer::sum);
                }
            }
            if (s.left == 0) {
                s.done = day;
                next();
            }
        }

        void next() {
            steps++;
            if (steps == order.size() || days(place, order.get(steps).farm) == NONE) {
                going = false;
                return;
            }
            wayLeft = days(place, order.get(steps).farm);
            place = order.get(steps).farm;
        }

        int look(int f, int what) {
            if (!is(f) || what < 0 || what > 7) {
                return NONE;
            }
            Stack s = stack(f);
            int price = s.coins * (s.bySacks ? sacks(f) : s.days);
            int loss = s.left == 0 && s.done > s.to ? custom("late") * (s.done - s.to) : 0;
            return new int[] {s.left, sacks(f), s.days, s.done, price, gangSize(f), speed(f), loss}[what];
        }

        int owed(int a, int b) {
            return is(a) && is(b) && a != b ? debt(a, b) : Integer.MIN_VALUE;
        }

        int lent(int a, int b) {
            return is(a) && is(b) && a != b ? gang(a).get(b) : NONE;
        }

        int count(int what) {
            int done = 0;
            for (Stack s : farms) {
                done += s.left == 0 ? 1 : 0;
            }
            int how = !going ? 0 : wayLeft > 0 ? 1 : day < stack(place).from ? 2 : 3;
            return what < 0 || what > 6 ? NONE
                    : new int[] {day, place, wayLeft, broken, farms.size(), done, how}[what];
        }
    }
}
