import java.util.Arrays;

/** Each promise of the document by itself: ordinary inputs, the edges it names, and wrong inputs. */
public final class PromisesTest {
    private static final int NONE = ThreshRound.NONE;
    private static int checks = 0;
    private static int wrong = 0;

    public static void main(String[] args) {
        promise1();
        promise2();
        promise3Lines();
        promise3Faults();
        promise3Tape();
        promise4();
        promise5();
        promise6();
        promise7();
        promise8Losses();
        promise8Orders();
        promise8First();
        promise8None();
        promise9();
        promise10();
        promise11();
        promise12();
        promise12Steps();
        promise13();
        promise13Prices();
        promise14();
        promise15();
        promise16();
        System.out.println("PromisesTest: " + checks + " checks, " + wrong + " wrong");
        if (wrong != 0) {
            System.exit(1);
        }
    }

    private static void due(String what, long got, long want) {
        checks++;
        if (got != want) {
            wrong++;
            System.out.println(what + " answered " + got + ", due is " + want);
        }
    }

    private static void due(String what, boolean got, boolean want) {
        due(what, got ? 1 : 0, want ? 1 : 0);
    }

    /** Feeds a text, filled up with blanks to the next twenty bytes. */
    private static void feedText(ThreshRound x, String text) {
        byte[] bytes = new byte[(text.length() + 19) / 20 * 20];
        Arrays.fill(bytes, (byte) ' ');
        for (int i = 0; i < text.length(); i++) {
            bytes[i] = (byte) text.charAt(i);
        }
        for (int i = 0; i < bytes.length; i += 20) {
            x.feed(word(bytes, i), word(bytes, i + 4), word(bytes, i + 8), word(bytes, i + 12), word(bytes, i + 16));
        }
    }

    private static int word(byte[] b, int i) {
        return (b[i] & 255) << 24 | (b[i + 1] & 255) << 16 | (b[i + 2] & 255) << 8 | (b[i + 3] & 255);
    }

    private static int tell(ThreshRound x, String text) {
        feedText(x, text);
        return x.customs(text.length());
    }

    private static void dueFault(String text, int fault, int place) {
        ThreshRound x = new ThreshRound();
        due("customs of <" + text + ">", tell(x, text), NONE);
        due("fault(0) of <" + text + ">", x.fault(0), fault);
        due("fault(1) of <" + text + ">", x.fault(1), place);
    }

    private static void dueLines(String text, int lines) {
        ThreshRound x = new ThreshRound();
        due("customs of <" + text + ">", tell(x, text), lines);
        due("fault(0) of <" + text + ">", x.fault(0), 0);
        due("fault(1) of <" + text + ">", x.fault(1), NONE);
    }

    /** Farms of ten sheaves and a full gang of their own (a day each), ways of a day between all places. */
    private static ThreshRound village(int farms) {
        ThreshRound x = new ThreshRound();
        for (int f = 1; f <= farms; f++) {
            x.farm(10, 0, 8, 0, 0, 99);
        }
        for (int a = 0; a <= farms; a++) {
            for (int b = a + 1; b <= farms; b++) {
                x.way(a, b, 1);
            }
        }
        return x;
    }

    private static void dueOrder(String what, ThreshRound x, int... farms) {
        for (int k = 0; k < farms.length; k++) {
            due(what + ": farm " + k, x.planned(k, 0), farms[k]);
        }
        due(what + ": no more", x.planned(farms.length, 0), NONE);
    }

    private static void promise1() {
        ThreshRound x = new ThreshRound();
        int[] counts = {0, 0, 0, 0, 0, 0, 0, NONE};
        for (int what = 0; what < counts.length; what++) {
            due("new: count(" + what + ")", x.count(what), counts[what]);
        }
        due("new: plan", x.plan(), NONE);
        due("new: planned", x.planned(0, 0), NONE);
        due("new: out", x.out(), false);
        due("new: look", x.look(1, 0), NONE);
        due("new: tape", x.customs(1), -2);
        due("new: fault", x.fault(0), 0);
        x.farm(100, 9, 8, 0, 0, 99);
        due("usual hands, rate: speed", x.look(1, 6), 10);
        x.farm(100, 9, 20, 0, 0, 99);
        due("hands beyond 12", x.count(4), 1);
        due("first number is 20", x.feed(0, 0, 0, 0, 0), 20);
    }

    private static void promise2() {
        ThreshRound x = new ThreshRound();
        for (int i = 1; i <= 15; i++) {
            due("feed " + i, x.feed(i, -1, 0, 1, Integer.MIN_VALUE), 20 * i);
        }
        due("feed 16", x.feed(1, 2, 3, 4, 5), NONE);
        due("none came", x.customs(301), -2);
        due("300 are there", x.customs(300), NONE);
        due("empty then", x.feed(1, 2, 3, 4, 5), 20);
        // "hand" "s 4;" "rate" " 8; " and "    ": the highest byte of each number first
        ThreshRound y = new ThreshRound();
        y.feed(0x68616E64, 0x7320343B, 0x72617465, 0x20383B20, 0x20202020);
        due("bytes by order", y.customs(20), 2);
        y.farm(50, 0, 3, 0, 0, 99);
        due("bytes by order: speed", y.look(1, 6), 6);
        ThreshRound z = new ThreshRound();
        z.feed(0xE8616E64, 0x7320343B, 0x20202020, 0x20202020, 0x20202020);
        due("high bytes are none of a word", z.customs(20), NONE);
        due("high bytes are none of a word: at", z.fault(1), 0);
    }

    private static void promise3Lines() {
        ThreshRound x = new ThreshRound();
        due("no byte at all", x.customs(0), 0);
        dueLines("", 0);
        dueLines("  \n \n ", 0);
        dueLines("hands 1;", 1);
        dueLines("hands 20;rate 99;sheaves 50;late 99;first 7;damp 10;", 6);
        dueLines("hands 1;rate 1;sheaves 1;late 0;first 1;damp 0;", 6);
        dueLines(" damp\n5 ;\nlate\n\n9\n; ", 2);
        dueLines("hands8;late 7;", 2);
        dueLines("late 007;", 1);
        ThreshRound y = new ThreshRound();
        y.farm(100, 0, 4, 0, 0, 99);
        due("usual speed", y.look(1, 6), 5);
        tell(y, "hands 3; rate 50;");
        due("told hands: gang", y.look(1, 5), 3);
        due("told rate: speed", y.look(1, 6), 50);
        tell(y, "rate 50;");
        due("hands as usual again: gang", y.look(1, 5), 4);
        due("hands as usual again: speed", y.look(1, 6), 25);
        tell(y, "rate 7; hands 0;");
        due("a fault leaves the customs", y.look(1, 6), 25);
        tell(y, "");
        due("none told: as usual", y.look(1, 6), 5);
    }

    private static void promise3Faults() {
        dueFault("hand 3;", 1, 0);
        dueFault("handss 3;", 1, 0);
        dueFault("Hands 3;", 1, 0);
        dueFault("hands", 1, 5);
        dueFault("hands  \n", 1, 8);
        dueFault("hands 3", 1, 7);
        dueFault("hands 3 ", 1, 8);
        dueFault("hands ;", 1, 6);
        dueFault("hands 3 4;", 1, 8);
        dueFault("hands 3a;", 1, 7);
        dueFault("hands -3;", 1, 6);
        dueFault("hands 3;;", 1, 8);
        dueFault("hands\t3;", 1, 5);
        dueFault("hands 3;\r", 1, 8);
        dueFault(";", 1, 0);
        dueFault("3;", 1, 0);
        dueFault(" hands rate 3;", 1, 7);
        dueFault("late 1 late 2;", 1, 7);
        dueFault("hands 0;", 2, 6);
        dueFault("hands 21;", 2, 6);
        dueFault("rate 0;", 2, 5);
        dueFault("rate 100;", 2, 5);
        dueFault("sheaves 0;", 2, 8);
        dueFault("sheaves 51;", 2, 8);
        dueFault("late 100;", 2, 5);
        dueFault("first 0;", 2, 6);
        dueFault("first 8;", 2, 6);
        dueFault("damp 11;", 2, 5);
        dueFault("damp 11", 2, 5);
        dueFault("late 4294967297;", 2, 5);
        dueFault("late 99999999999999999999999999999999;", 2, 5);
        dueFault("late 1; late", 3, 8);
        dueFault("late 1;late x", 3, 7);
        dueFault("late 1;rate 0;late 1;", 2, 12);
        dueFault("late 1;rate 3;damp 0;late 100;", 3, 21);
    }

    private static void promise3Tape() {
        ThreshRound x = new ThreshRound();
        feedText(x, "late 5;");
        due("n below 0", x.customs(-1), -2);
        due("n far below 0", x.customs(Integer.MIN_VALUE), -2);
        due("more than there are", x.customs(21), -2);
        due("far more than there are", x.customs(Integer.MAX_VALUE), -2);
        due("the tape stayed", x.feed(0, 0, 0, 0, 0), 40);
        due("the first alone count", x.customs(7), 1);
        due("the tape is empty", x.customs(1), -2);
        due("the tape is empty: feed", x.feed(0, 0, 0, 0, 0), 20);
        due("a fault", x.customs(20), NONE);
        due("the tape is empty after a fault", x.feed(0, 0, 0, 0, 0), 20);
        due("no bytes of it", x.customs(0), 0);
        due("the tape is empty after none", x.feed(0, 0, 0, 0, 0), 20);
        ThreshRound y = new ThreshRound();
        feedText(y, "late 1;late 2;");
        due("a line ends beyond n", y.customs(6), NONE);
        due("a line ends beyond n: fault", y.fault(0), 1);
        due("a line ends beyond n: at n", y.fault(1), 6);
        feedText(y, "damp 10;");
        due("a number goes on beyond n", y.customs(6), NONE);
        due("a number goes on beyond n: at n", y.fault(1), 6);
    }

    private static void promise4() {
        ThreshRound x = new ThreshRound();
        due("before all: fault(0)", x.fault(0), 0);
        due("before all: fault(1)", x.fault(1), NONE);
        tell(x, "late 1; rate 100;");
        due("fault(0)", x.fault(0), 2);
        due("fault(1)", x.fault(1), 13);
        due("fault(2)", x.fault(2), NONE);
        due("fault(-1)", x.fault(-1), NONE);
        x.customs(5);
        due("-2 tells no fault: fault(0)", x.fault(0), 2);
        due("-2 tells no fault: fault(1)", x.fault(1), 13);
        tell(x, "late 1;");
        due("without a fault: fault(0)", x.fault(0), 0);
        due("without a fault: fault(1)", x.fault(1), NONE);
    }

    private static void promise5() {
        ThreshRound x = new ThreshRound();
        int[][] bad = {{0, 0, 0, 0, 0, 0}, {301, 0, 0, 0, 0, 0}, {1, -1, 0, 0, 0, 0}, {1, 10, 0, 0, 0, 0},
            {1, 0, -1, 0, 0, 0}, {1, 0, 13, 0, 0, 0}, {1, 0, 0, -1, 0, 0}, {1, 0, 0, 13, 0, 0},
            {1, 0, 0, 0, -1, 0}, {1, 0, 0, 0, 0, 100}, {1, 0, 0, 0, 5, 4}, {1, 0, 0, 0, 100, 100},
            {Integer.MIN_VALUE, 0, 0, 0, 0, 0}, {1, 0, 0, 0, 0, Integer.MAX_VALUE}, {1, 0, 0, 0, 0, -1}};
        for (int[] b : bad) {
            due("farm" + Arrays.toString(b), x.farm(b[0], b[1], b[2], b[3], b[4], b[5]), NONE);
        }
        due("none came", x.count(4), 0);
        due("the least farm", x.farm(1, 0, 0, 0, 0, 0), 1);
        due("the most farm", x.farm(300, 9, 12, 12, 99, 99), 2);
        due("its stack", x.look(2, 0), 300);
        due("its gang", x.look(2, 5), 8);
        for (int f = 3; f <= 7; f++) {
            due("farm " + f, x.farm(1, 0, 0, 0, f, f), f);
        }
        due("an eighth", x.farm(1, 0, 0, 0, 0, 0), NONE);
        due("seven are there", x.count(4), 7);
    }

    private static void promise6() {
        ThreshRound x = new ThreshRound();
        x.farm(10, 0, 8, 0, 0, 99);
        x.farm(10, 0, 8, 0, 0, 99);
        due("same places", x.way(1, 1, 1), false);
        due("same yard", x.way(0, 0, 1), false);
        due("no such place", x.way(0, 3, 1), false);
        due("place below 0", x.way(-1, 1, 1), false);
        due("place far off", x.way(1, Integer.MAX_VALUE, 1), false);
        due("days below none", x.way(0, 1, -2), false);
        due("ten days", x.way(0, 1, 10), false);
        due("no ways at first", x.plan(), NONE);
        due("nine days", x.way(0, 1, 9), true);
        due("no days", x.way(1, 2, 0), true);
        due("plan", x.plan(), 0);
        dueOrder("by ways", x, 1, 2);
        due("nine days later", x.planned(0, 1), 9);
        due("at once", x.planned(1, 1), 10);
        due("told with places the other way round", x.way(1, 0, 4), true);
        x.plan();
        due("four days later", x.planned(0, 1), 4);
        due("none between", x.way(2, 1, NONE), true);
        due("no plan then", x.plan(), NONE);
        due("the yard to both is no help", x.way(0, 2, 1), true);
        due("a way has to be straight", x.plan(), NONE);
        x.way(1, 2, 0);
        due("a plan", x.plan(), 0);
        // by 2, 1: there on day 1, out on 2, at once at 1, out on 3
        dueOrder("shorter way first", x, 2, 1);
        due("out", x.out(), true);
        due("a set on the way", x.count(2), 1);
        x.way(0, 2, 9);
        due("goes on as it set out", x.count(2), 1);
        x.way(0, 2, NONE);
        x.day(1);
        due("is there", x.count(6), 3);
    }

    private static void promise7() {
        ThreshRound x = village(2);
        due("no farm 0", x.bargain(0, 0, 1), false);
        due("no farm 3", x.bargain(3, 0, 1), false);
        due("no farm -1", x.bargain(-1, 0, 1), false);
        due("no such how", x.bargain(1, 2, 1), false);
        due("no how below 0", x.bargain(1, -1, 1), false);
        due("no coins below 0", x.bargain(1, 0, -1), false);
        due("no thousand coins", x.bargain(1, 0, 1000), false);
        due("by days", x.bargain(1, 0, 999), true);
        due("by sacks", x.bargain(2, 1, 10), true);
        x.plan();
        x.out();
        x.day(4);
        due("a day", x.look(1, 4), 999);
        due("two sacks", x.look(2, 4), 20);
        due("no coins", x.bargain(1, 0, 0), true);
        due("as it is told now", x.look(1, 4), 0);
        due("the last holds", x.bargain(2, 0, 7), true);
        due("by days now", x.look(2, 4), 7);
        x.bargain(2, 5, 9);
        due("a wrong one changes nothing", x.look(2, 4), 7);
    }

    private static void promise8Losses() {
        ThreshRound x = new ThreshRound();
        // speed 10: 31 sheaves take 4 days; there on day 2, begun on day 3, out on day 7
        x.farm(31, 0, 8, 0, 3, 4);
        x.way(0, 1, 2);
        due("ends on 6, 2 behind", x.plan(), 2);
        due("begins on FROM", x.planned(0, 2), 3);
        due("sets out", x.planned(0, 3), 7);
        due("its loss", x.planned(0, 4), 2);
        tell(x, "late 30;");
        due("thirty a day", x.plan(), 60);
        tell(x, "late 0;");
        due("nothing a day", x.plan(), 0);
        ThreshRound y = new ThreshRound();
        y.farm(20, 0, 8, 0, 0, 2);
        y.way(0, 1, 1);
        due("ends on the last day of its span", y.plan(), 0);
        y.day(1);
        due("ends a day behind", y.plan(), 1);
        due("there from the day that is", y.planned(0, 1), 2);
    }

    private static void promise8Orders() {
        ThreshRound x = village(3);
        due("all alike", x.plan(), 0);
        dueOrder("of like ones the first by numbers", x, 1, 2, 3);
        ThreshRound all = village(7);
        due("seven alike", all.plan(), 0);
        dueOrder("seven alike", all, 1, 2, 3, 4, 5, 6, 7);
        all.way(6, 7, 0);
        all.way(0, 7, 0);
        all.plan();
        dueOrder("two ways of no days", all, 7, 6, 1, 2, 3, 4, 5);
        ThreshRound y = new ThreshRound();
        y.farm(10, 0, 8, 0, 0, 99);
        y.farm(10, 0, 8, 0, 0, 99);
        y.farm(10, 0, 8, 0, 0, 4);
        y.way(0, 1, 5);
        y.way(0, 2, 1);
        y.way(0, 3, 5);
        y.way(1, 2, 1);
        y.way(2, 3, 2);
        y.way(1, 3, 0);
        // 2,3,1: out on 2, 5, 6 with no loss (3 ends on day 4), 2,1,3: 2, 4, 5 with no loss, which ends first
        due("no loss", y.plan(), 0);
        dueOrder("that which ends first", y, 2, 1, 3);
        // now 2,1,3 ends on day 6 with loss 1, and 2,3,1 on day 6 as before, with none
        y.way(1, 3, 1);
        y.way(2, 3, 1);
        due("no loss again", y.plan(), 0);
        dueOrder("the least loss", y, 2, 3, 1);
        // the yard's ways to 1 and 3 take 5 days, so without the one to 2 farm 3 is late
        y.way(0, 2, NONE);
        due("late: out of 3 on day 6", y.plan(), 1);
        dueOrder("the least loss though later", y, 3, 1, 2);
    }

    private static void promise8First() {
        ThreshRound x = village(3);
        tell(x, "first 3;");
        x.plan();
        dueOrder("first 3", x, 3, 1, 2);
        tell(x, "first 2;");
        x.plan();
        dueOrder("first 2", x, 2, 1, 3);
        tell(x, "first 7;");
        x.plan();
        dueOrder("first is no farm", x, 1, 2, 3);
        x.out();
        x.day(1);
        due("at farm 1, not done", x.count(1), 1);
        tell(x, "first 3;");
        due("a plan where the set is", x.plan(), 0);
        dueOrder("the farm where it is comes ahead", x, 1, 3, 2);
        due("it is there now", x.planned(0, 1), 1);
        tell(x, "first 1;");
        x.plan();
        dueOrder("first is where it is", x, 1, 2, 3);
        tell(x, "first 2;");
        x.plan();
        dueOrder("first of the others", x, 1, 2, 3);
        x.out();
        x.day(1);
        due("1 is done", x.look(1, 3), 1);
        x.day(1);
        tell(x, "first 1;");
        x.plan();
        dueOrder("first is done", x, 2, 3);
        ThreshRound y = village(2);
        tell(y, "first 2; late 9;");
        y.way(0, 2, NONE);
        due("no way to the first", y.plan(), NONE);
    }

    private static void promise8None() {
        ThreshRound x = village(2);
        x.plan();
        x.out();
        due("on the way", x.plan(), NONE);
        due("goes on all the same", x.count(6), 1);
        x.day(1);
        due("at the farm", x.plan(), 0);
        due("goes by none till it is set out", x.count(6), 0);
        x.day(5);
        due("nothing threshed", x.look(1, 0), 10);
        due("the place stays", x.count(1), 1);
        x.plan();
        x.out();
        x.way(1, 2, NONE);
        due("no order", x.plan(), NONE);
        due("the one at hand stays", x.planned(1, 0), 2);
        due("and the set goes by it", x.count(6), 3);
        x.day(1);
        due("at its end", x.count(6), 0);
        x.way(1, 2, 0);
        due("the other one", x.plan(), 0);
        dueOrder("the other one", x, 2);
        x.out();
        x.day(1);
        due("all are done", x.plan(), NONE);
        due("the last plan is at hand", x.planned(0, 0), 2);
        ThreshRound y = village(2);
        y.plan();
        y.farm(10, 0, 8, 0, 0, 99);
        dueOrder("a plan knows the farms of its day", y, 1, 2);
        due("no way to the third", y.plan(), NONE);
    }

    private static void promise9() {
        ThreshRound x = new ThreshRound();
        x.farm(25, 0, 4, 0, 6, 8);
        x.farm(12, 0, 8, 0, 0, 9);
        x.way(0, 1, 3);
        x.way(1, 2, 2);
        x.day(1);
        // 1: there on 4, begun on 6, speed 5, out on 11, late by 2; 2: there on 13, speed 10, out on 15, late by 5
        due("plan", x.plan(), 7);
        int[][] want = {{1, 4, 6, 11, 2}, {2, 13, 13, 15, 5}};
        for (int k = 0; k < 2; k++) {
            for (int what = 0; what < 5; what++) {
                due("planned(" + k + ", " + what + ")", x.planned(k, what), want[k][what]);
            }
        }
        due("no such k", x.planned(2, 0), NONE);
        due("k below 0", x.planned(-1, 0), NONE);
        due("k far off", x.planned(Integer.MAX_VALUE, 0), NONE);
        due("no such what", x.planned(0, 5), NONE);
        due("what below 0", x.planned(0, -1), NONE);
        x.out();
        x.day(5);
        due("it stays as it was planned", x.planned(1, 3), 15);
    }

    private static void promise10() {
        ThreshRound x = village(2);
        due("no plan", x.out(), false);
        x.plan();
        x.day(1);
        due("a day has gone by", x.out(), false);
        x.plan();
        x.breaks(1);
        x.day(1);
        due("a broken day has gone by", x.out(), false);
        x.plan();
        x.way(0, 1, NONE);
        due("no way any more", x.out(), false);
        x.way(0, 1, 4);
        due("a way again", x.out(), true);
        due("by the way of now", x.count(2), 4);
        due("on the way to", x.count(1), 1);
        due("set out already", x.out(), false);
        x.day(4);
        due("there", x.count(6), 3);
        x.plan();
        x.way(0, 1, NONE);
        due("no way is needed to where it is", x.out(), true);
        due("it stands there", x.count(2), 0);
        x.day(1);
        due("done", x.count(5), 1);
        due("set out already, on the way", x.out(), false);
        x.day(9);
        due("at its end", x.count(6), 0);
        due("set out already, at its end", x.out(), false);
    }

    private static void promise11() {
        ThreshRound x = village(1);
        due("no days", x.breaks(0), false);
        due("days below 0", x.breaks(-1), false);
        due("ten days", x.breaks(10), false);
        due("nine days", x.breaks(9), true);
        due("nine yet", x.count(3), 9);
        due("a day", x.breaks(1), true);
        due("in place of what was told", x.count(3), 1);
        due("three days", x.breaks(3), true);
        x.breaks(0);
        due("a wrong one changes nothing", x.count(3), 3);
        due("broken without a plan, too", x.day(1), 1);
        due("two yet", x.count(3), 2);
        x.plan();
        due("it sets out broken", x.out(), true);
        x.day(2);
        due("on the way as before", x.count(2), 1);
        x.day(1);
        due("there", x.count(2), 0);
        x.breaks(1);
        x.day(1);
        due("nothing threshed", x.look(1, 0), 10);
        due("no day of threshing", x.look(1, 2), 0);
        x.day(1);
        due("threshed", x.look(1, 0), 0);
        due("on day 5", x.look(1, 3), 5);
    }

    private static void promise12() {
        ThreshRound x = new ThreshRound();
        due("no days", x.day(0), NONE);
        due("days below 0", x.day(-1), NONE);
        due("a hundred days", x.day(100), NONE);
        due("far too many", x.day(Integer.MAX_VALUE), NONE);
        due("a day", x.day(1), 1);
        for (int i = 1; i <= 10; i++) {
            due("99 more", x.day(99), 1 + 99 * i);
        }
        due("beyond 999", x.day(9), NONE);
        due("nothing happened", x.count(0), 991);
        due("to 999", x.day(8), 999);
        due("not beyond", x.day(1), NONE);
    }

    private static void promise12Steps() {
        ThreshRound x = new ThreshRound();
        x.farm(13, 0, 6, 0, 3, 99);
        x.farm(5, 0, 1, 9, 0, 99);
        x.way(0, 1, 2);
        x.way(1, 2, 0);
        x.plan();
        x.out();
        x.day(1);
        due("a day on the way", x.count(2), 1);
        x.day(1);
        due("there, which is all", x.look(1, 2), 0);
        due("ahead of FROM", x.count(6), 2);
        x.day(1);
        due("FROM", x.count(6), 3);
        due("nothing on the days before", x.look(1, 0), 13);
        due("nothing owed", x.owed(1, 2), 0);
        x.day(1);
        due("ten sheaves", x.look(1, 0), 3);
        due("two hands for a day", x.owed(1, 2), 2);
        x.day(1);
        due("what is left", x.look(1, 0), 0);
        due("two hands for a day more", x.owed(1, 2), 4);
        due("two days", x.look(1, 2), 2);
        due("done on day 4", x.look(1, 3), 4);
        due("the next one at once", x.count(1), 2);
        due("a way of no days takes none", x.count(6), 3);
        // farm 1 lends none: speed is 10 * 1 / 8
        x.day(5);
        due("five days for five sheaves", x.look(2, 3), 9);
        due("without a next one it stays", x.count(1), 2);
        due("by no plan", x.count(6), 0);
        ThreshRound y = village(2);
        y.plan();
        y.out();
        y.way(1, 2, NONE);
        y.day(2);
        due("without a way it stays", y.count(1), 1);
        due("without a way by no plan", y.count(6), 0);
        y.way(1, 2, 1);
        y.day(3);
        due("though a way comes later", y.count(1), 1);
        due("the other is not done", y.count(5), 1);
        ThreshRound z = village(3);
        z.plan();
        z.out();
        z.day(3);
        due("at farm 2", z.count(1), 2);
        z.plan();
        due("a second plan at farm 2", z.out(), true);
        z.day(1);
        due("goes by its own steps", z.count(1), 3);
        z.day(2);
        due("to its end", z.count(5), 3);
    }

    private static void promise13() {
        ThreshRound x = new ThreshRound();
        tell(x, "hands 4; rate 7;");
        x.farm(20, 3, 2, 1, 0, 1);
        x.farm(20, 0, 0, 0, 0, 9);
        x.way(0, 1, 0);
        due("what 8", x.look(1, 8), NONE);
        due("what -1", x.look(1, -1), NONE);
        due("farm 0", x.look(0, 0), NONE);
        due("farm 3", x.look(3, 0), NONE);
        due("left", x.look(1, 0), 20);
        due("sacks", x.look(1, 1), 0);
        due("days", x.look(1, 2), 0);
        due("done on", x.look(1, 3), NONE);
        due("gang", x.look(1, 5), 2);
        due("speed: 7 * 2 / 4 cut", x.look(1, 6), 3);
        due("gang of one lent", x.look(2, 5), 1);
        due("speed: 7 * 1 / 4 cut", x.look(2, 6), 1);
        tell(x, "hands 20; rate 1;");
        due("1 at least", x.look(1, 6), 1);
        tell(x, "hands 1; rate 10; sheaves 2; damp 10; late 3;");
        due("own hands above stay at home", x.look(1, 5), 1);
        x.way(1, 2, 0);
        tell(x, "hands 1; rate 10; sheaves 2; damp 10; late 3;");
        x.plan();
        x.out();
        x.day(1);
        // 10 sheaves * (100 - 30) / 200
        due("sacks", x.look(1, 1), 3);
        x.day(1);
        due("all sacks", x.look(1, 1), 7);
        due("done on the last day of its span", x.look(1, 7), 0);
        tell(x, "sheaves 50; damp 0;");
        due("sacks by customs of now", x.look(1, 1), 0);
        tell(x, "");
        // 20 sheaves * (100 - 5 * 3) / 400
        due("sacks by usual customs", x.look(1, 1), 4);
        tell(x, "sheaves 1;");
        due("sacks by usual damp", x.look(1, 1), 17);
        ThreshRound y = new ThreshRound();
        y.farm(30, 0, 8, 0, 0, 0);
        y.way(0, 1, 1);
        y.plan();
        y.out();
        y.day(3);
        due("not done yet", y.look(1, 7), 0);
        y.day(1);
        due("done on day 3", y.look(1, 3), 3);
        due("3 behind", y.look(1, 7), 3);
        tell(y, "late 50;");
        due("3 behind at 50", y.look(1, 7), 150);
    }

    private static void promise13Prices() {
        ThreshRound x = new ThreshRound();
        x.farm(45, 0, 8, 0, 0, 99);
        x.way(0, 1, 0);
        due("by days at 0 at first", x.look(1, 4), 0);
        x.bargain(1, 0, 5);
        x.plan();
        x.out();
        due("no day yet", x.look(1, 4), 0);
        x.day(2);
        due("two days", x.look(1, 4), 10);
        x.bargain(1, 1, 100);
        due("20 by 4 sheaves", x.look(1, 4), 500);
        x.day(10);
        due("45 by 4 sheaves, cut", x.look(1, 4), 1100);
        x.bargain(1, 0, 3);
        due("five days", x.look(1, 4), 15);
        ThreshRound y = new ThreshRound();
        tell(y, "sheaves 1; rate 99;");
        y.farm(300, 1, 8, 0, 0, 99);
        y.way(0, 1, 0);
        y.bargain(1, 1, 999);
        y.plan();
        y.out();
        y.day(9);
        due("300 sheaves by 95 of 100", y.look(1, 1), 285);
        due("285 sacks at 999", y.look(1, 4), 284715);
        due("99 a day: four days", y.look(1, 2), 4);
    }

    private static void promise14() {
        ThreshRound x = village(2);
        int none = Integer.MIN_VALUE;
        due("the same", x.owed(1, 1), none);
        due("the yard", x.owed(0, 1), none);
        due("no farm 3", x.owed(1, 3), none);
        due("no farm -1", x.owed(-1, 2), none);
        due("at first", x.owed(1, 2), 0);
        ThreshRound y = new ThreshRound();
        y.farm(40, 0, 3, 2, 0, 99);
        y.farm(40, 0, 0, 4, 0, 99);
        y.farm(40, 0, 1, 4, 0, 99);
        y.way(0, 1, 0);
        y.way(1, 2, 0);
        y.way(2, 3, 0);
        y.plan();
        y.out();
        y.day(1);
        due("all of 2", y.owed(1, 2), 4);
        due("one of 3 makes 8", y.owed(1, 3), 1);
        due("2 has as much to get", y.owed(2, 1), -4);
        due("3 has as much to get", y.owed(3, 1), -1);
        due("nothing between others", y.owed(2, 3), 0);
        y.day(3);
        // days by turns: 4 and 1, 1 and 4, 4 and 1, 1 and 4
        due("four days of 2", y.owed(1, 2), 10);
        due("four days of 3", y.owed(1, 3), 10);
        due("now at 2", y.count(1), 2);
        y.day(1);
        due("1 gives back", y.owed(1, 2), 8);
        due("3 gives all", y.owed(2, 3), 4);
    }

    private static void promise15() {
        ThreshRound x = new ThreshRound();
        x.farm(40, 0, 2, 3, 0, 99);
        x.farm(40, 0, 0, 3, 0, 99);
        x.farm(40, 0, 9, 3, 0, 99);
        x.farm(40, 0, 0, 3, 0, 99);
        due("the same", x.lent(1, 1), NONE);
        due("the yard", x.lent(0, 1), NONE);
        due("the yard lends none", x.lent(1, 0), NONE);
        due("no farm 5", x.lent(1, 5), NONE);
        due("2 to 1", x.lent(1, 2), 3);
        due("3 to 1", x.lent(1, 3), 3);
        due("4 to 1: enough", x.lent(1, 4), 0);
        due("1 to 2", x.lent(2, 1), 3);
        due("3 to 2", x.lent(2, 3), 3);
        due("4 to 2: up to 8", x.lent(2, 4), 2);
        due("3 has enough", x.lent(3, 1), 0);
        x.way(0, 1, 0);
        for (int f = 2; f <= 4; f++) {
            x.way(f - 1, f, 0);
        }
        x.plan();
        x.out();
        x.day(4);
        // by turns 2 and 3, 4 and 2, 3 and 4, 2 and 3: now 1 owes 2 and 3 nine each, and 4 six
        due("1 comes ahead at 2", x.lent(2, 1), 3);
        due("3 is like 4 for 2, and the lesser", x.lent(2, 3), 3);
        due("4 comes ahead of 2 and 3 at 1", x.lent(1, 4), 3);
        due("the lesser of like ones", x.lent(1, 2), 3);
        due("none is left for 3", x.lent(1, 3), 0);
        due("done ones lend, too", x.lent(4, 1), 3);
        tell(x, "hands 4;");
        due("up to 4", x.lent(4, 2), 1);
        due("no more than that", x.lent(4, 3), 0);
    }

    private static void promise16() {
        ThreshRound x = new ThreshRound();
        x.farm(20, 0, 8, 0, 4, 99);
        x.farm(20, 0, 8, 0, 0, 99);
        x.way(0, 1, 2);
        x.way(1, 2, 3);
        due("what 7", x.count(7), NONE);
        due("what -1", x.count(-1), NONE);
        x.plan();
        dueCounts("planned", x, 0, 0, 0, 0, 2, 0, 0);
        x.out();
        dueCounts("out", x, 0, 1, 2, 0, 2, 0, 1);
        x.day(2);
        dueCounts("waiting", x, 2, 1, 0, 0, 2, 0, 2);
        x.day(2);
        dueCounts("threshing", x, 4, 1, 0, 0, 2, 0, 3);
        x.breaks(2);
        x.day(1);
        dueCounts("broken", x, 5, 1, 0, 1, 2, 0, 3);
        x.day(3);
        dueCounts("on the way to the next", x, 8, 2, 3, 0, 2, 1, 1);
        x.day(4);
        dueCounts("threshing the next", x, 12, 2, 0, 0, 2, 1, 3);
        x.day(1);
        dueCounts("at its end", x, 13, 2, 0, 0, 2, 2, 0);
    }

    private static void dueCounts(String when, ThreshRound x, int... want) {
        for (int what = 0; what < want.length; what++) {
            due(when + ": count(" + what + ")", x.count(what), want[what]);
        }
    }
}
