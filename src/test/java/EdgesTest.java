import java.io.IOException;
import java.nio.file.Files;
import java.nio.file.Path;
import java.util.Arrays;
import java.util.TreeMap;

/**
 * The boundary cases: one test for each sentence of ../shared/DOC.md that names one. Each test is called with the
 * place and the words of its sentence, and these words have to stand in the document.
 */
public final class EdgesTest {
    private static final int NONE = ThreshRound.NONE;
    private static final int LEAST_INT = Integer.MIN_VALUE;
    private static final int MOST_INT = Integer.MAX_VALUE;
    private static final String[] WORDS = {"hands", "rate", "sheaves", "late", "first", "damp"};

    private static final TreeMap<String, Integer> tests = new TreeMap<>();
    private static String document = "";
    private static String sentence = "";
    private static int checks = 0;
    private static int wrong = 0;

    public static void main(String[] args) throws IOException {
        readDocument(Path.of("../shared/DOC.md"));
        customsTerms();
        customsNumbers();
        customsFaults();
        placesTerms();
        gangTerms();
        planTerms();
        dayTerms();
        promises1To4();
        promises5To7();
        promises8To10();
        promises11To13();
        promises14To16();
        everyPromiseIsTested();
        System.out.println("EdgesTest: " + tests + ", " + checks + " checks, " + wrong + " wrong");
        if (wrong != 0) {
            System.exit(1);
        }
    }

    // ---- which sentence is tested where ----

    private static void customsTerms() {
        String t = "Terms 1";
        edge(t, "a TEXT: { LINE ';' }", EdgesTest::textsWithoutALine);
        edge(t, "LINE ';'", EdgesTest::lineWithoutItsEnd);
        edge(t, "Blanks 10, 32.", EdgesTest::bothBlanksEverywhere);
        edge(t, "Blanks 10, 32.", EdgesTest::noOtherBlank);
        edge(t, "Words are small letters in a row", EdgesTest::lettersBesideTheSmallOnes);
        edge(t, "Words are small letters in a row", EdgesTest::wordsCutAndTooLong);
        edge(t, "N digits", EdgesTest::bytesBesideTheDigits);
        edge(t, "N digits", EdgesTest::noDigitAtAll);
        edge(t, "N digits", EdgesTest::digitsThatFillTheTape);
        edge(t, "Without a LINE: hands 8", EdgesTest::handsUntold);
        edge(t, "rate 10", EdgesTest::rateUntold);
        edge(t, "sheaves 4", EdgesTest::sheavesUntold);
        edge(t, "late 1,", EdgesTest::lateUntold);
        edge(t, "damp 5, none is first.", EdgesTest::dampUntold);
        edge(t, "none is first.", EdgesTest::firstUntold);
    }

    private static void customsNumbers() {
        String t = "Terms 1";
        edge(t, "hands 1 .. 20", EdgesTest::handsLimits);
        edge(t, "rate 1 .. 99", EdgesTest::rateLimits);
        edge(t, "sheaves 1 .. 50", EdgesTest::sheavesLimits);
        edge(t, "late 0 .. 99", EdgesTest::lateLimits);
        edge(t, "first 1 .. 7", EdgesTest::firstLimits);
        edge(t, "damp 0 .. 10", EdgesTest::dampLimits);
    }

    private static void customsFaults() {
        String t = "Terms 1";
        edge(t, "FAULTS, the first along the text", EdgesTest::firstFaultAlongTheText);
        edge(t, "(of one place the least)", EdgesTest::leastFaultOfOnePlace);
        edge(t, "1 a TOKEN that is none", EdgesTest::tokensThatAreNone);
        edge(t, "(another word, too)", EdgesTest::otherWords);
        edge(t, "or can't stand there", EdgesTest::tokensThatCannotStandThere);
        edge(t, "(the length, if more must come)", EdgesTest::moreMustCome);
        edge(t, "2 an N beyond what is said (at it)", EdgesTest::numbersBeyondThatWouldWrapAround);
        edge(t, "3 a LINE told already (at its word)", EdgesTest::linesToldAlready);
    }

    private static void placesTerms() {
        String t = "Terms 2";
        edge(t, "0 is the YARD", EdgesTest::yardIsAPlaceButNoFarm);
        edge(t, "1 .. 7 are FARMS, in order as they come", EdgesTest::farmsInOrder);
        edge(t, "a STACK (1 .. 300 sheaves)", EdgesTest::stackLimits);
        edge(t, "DAMP 0 .. 9", EdgesTest::farmDampLimits);
        edge(t, "own HANDS and how many it LENDS (0 .. 12 each)", EdgesTest::ownHandsLimits);
        edge(t, "how many it LENDS (0 .. 12 each)", EdgesTest::lendsLimits);
        edge(t, "a span FROM .. TO (DAYS 0 .. 99)", EdgesTest::spanLimits);
        edge(t, "WAYS between two PLACES, the same both ways", EdgesTest::waysAreTheSameBothWays);
        edge(t, "0 .. 9 DAYS, or none", EdgesTest::wayLimits);
        edge(t, "or none (as at first)", EdgesTest::noWaysAtFirst);
    }

    private static void gangTerms() {
        String t = "Terms 2";
        edge(t, "OWED of b to a is less than 0 by as many.", EdgesTest::owedTheOtherWayRound);
        edge(t, "(0 at first.)", EdgesTest::nothingOwedAtFirst);
        edge(t, "its own HANDS, then what other FARMS LEND", EdgesTest::gangOfNone);
        edge(t, "those which owe f more come ahead", EdgesTest::thoseWhoOweMoreComeAhead);
        edge(t, "of like ones the lesser number", EdgesTest::lesserNumberOfLikeOnes);
        edge(t, "each all that it LENDS, till the GANG is as many as hands says", EdgesTest::gangIsFull);
        edge(t, "no more than that; own HANDS above it stay at home", EdgesTest::ownHandsAboveStayAtHome);
        edge(t, "SPEED: rate times GANG by hands, cut", EdgesTest::speedIsCut);
        edge(t, "1 at least.", EdgesTest::speedOfOneAtLeast);
    }

    private static void planTerms() {
        String t = "Terms 3";
        edge(t, "an order of all FARMS that aren't DONE", EdgesTest::doneFarmsAreInNoOrder);
        edge(t, "from the PLACE where the set is and the DAY that is", EdgesTest::planFromTheDayThatIs);
        edge(t, "if it is at a FARM that isn't DONE, that is the first of the order, without a way",
                EdgesTest::farmWhereTheSetIsComesFirst);
        edge(t, "a WAY has to be (straight)", EdgesTest::wayOverAnotherPlaceIsNone);
        edge(t, "it is there as many DAYS later", EdgesTest::wayOfNoDaysInAPlan);
        edge(t, "it begins on FROM, if that is later", EdgesTest::dayBeforeAndAfterFrom);
        edge(t, "STACK that is left by SPEED (of now), upwards", EdgesTest::daysUpwards);
        edge(t, "by SPEED (of now)", EdgesTest::planBySpeedOfNow);
        edge(t, "the DAYS by which it ends behind TO and 1 (0, if it doesn't)", EdgesTest::lossFromTheSecondDayBehind);
        edge(t, "of all FARMS.", EdgesTest::lossOfAllFarms);
        edge(t, "The FARM that first tells, if it is one that isn't DONE", EdgesTest::firstThatIsNoneOrDone);
        edge(t, "comes first of all (but a FARM at which the set is)", EdgesTest::firstBehindWhereTheSetIs);
        edge(t, "the order with the least LOSS", EdgesTest::leastLossThoughLaterAtItsEnd);
        edge(t, "of several that which ends first", EdgesTest::ofLikeLossTheFirstAtItsEnd);
        edge(t, "of several the first by numbers", EdgesTest::ofLikeEndsTheFirstByNumbers);
        edge(t, "SET OUT: the set goes by the PLAN at hand from now on", EdgesTest::newPlanFromItsFirstFarm);
        edge(t, "from now on, FARM by FARM.", EdgesTest::sevenFarmsOneByOne);
    }

    private static void dayTerms() {
        String t = "Terms 3";
        edge(t, "A DAY: it is BROKEN: one less of its DAYS broken, nothing else.", EdgesTest::brokenDayDoesNothingElse);
        edge(t, "on the way: one less of its DAYS; at 0 it is there, which is all", EdgesTest::dayOfArrival);
        edge(t, "a way of 0 DAYS takes none: it is there as it sets out", EdgesTest::wayOfNoDaysAtSettingOut);
        edge(t, "it is there as it sets out", EdgesTest::wayOfNoDaysBetweenFarms);
        edge(t, "At a FARM ahead of FROM: nothing.", EdgesTest::daysAheadOfFrom);
        edge(t, "Else it threshes SPEED sheaves, or what is left", EdgesTest::lastSheaves);
        edge(t, "each FARM that lends to its GANG gives so many hands for a DAY", EdgesTest::handsGivenForAWholeDay);
        edge(t, "If nothing is left it is DONE (on this DAY)", EdgesTest::doneOnTheDayOfTheLastSheaf);
        edge(t, "the set sets out for the next one", EdgesTest::outForTheNextOnTheSameDay);
        edge(t, "without a WAY to it", EdgesTest::withoutAWayToTheNext);
        edge(t, "or without a next one, it stays, and goes by no PLAN any more", EdgesTest::withoutANextOne);
        edge(t, "Then the DAY is the next one.", EdgesTest::everyDayGoesOn);
        edge(t, "the sheaves threshed, times 100 less damp times DAMP, by 100 times sheaves, cut",
                EdgesTest::sacksAreCut);
        edge(t, "times 100 less damp times DAMP", EdgesTest::dampestSacks);
        edge(t, "(by DAYS, 0 at first)", EdgesTest::priceAtFirst);
    }

    private static void promises1To4() {
        edge("Promise 1", "No FARMS", EdgesTest::newWithoutFarms);
        edge("Promise 1", "no CUSTOMS", EdgesTest::newWithoutCustoms);
        edge("Promise 1", "the set is at the YARD, DAY 0, no PLAN", EdgesTest::newAtTheYard);
        edge("Promise 1", "an empty TAPE", EdgesTest::newTapeIsEmpty);
        edge("Promise 2", "four of each number, the highest first", EdgesTest::numbersBelowZeroOnTheTape);
        edge("Promise 2", "how many it has", EdgesTest::tapeFilledToTheEnd);
        edge("Promise 2", "NONE, and none come, if it would have more than 300", EdgesTest::tapeIsFull);
        edge("Promise 3", "The TAPE's first n bytes", EdgesTest::bytesBehindTheFirstAreNotRead);
        edge("Promise 3", "(it is empty then)", EdgesTest::tapeIsEmptyThen);
        edge("Promise 3", "are the CUSTOMS from now on", EdgesTest::customsInPlaceOfTheOld);
        edge("Promise 3", "how many LINES", EdgesTest::noLinesAndAllLines);
        edge("Promise 3", "NONE with a FAULT", EdgesTest::faultLeavesTheCustoms);
        edge("Promise 3", "there are not so many", EdgesTest::notSoManyBytes);
        edge("Promise 3", "n is below 0", EdgesTest::bytesBelowZero);
        edge("Promise 4", "Of the latest customs() that was not -2", EdgesTest::refusedCustomsTellNoFault);
        edge("Promise 4", "what 0: its FAULT (0), 1: its place (NONE)", EdgesTest::faultOfNone);
        edge("Promise 4", "its place (NONE)", EdgesTest::placesOfFaultsAtBothEnds);
        edge("Promise 4", "NONE for another what", EdgesTest::faultOfAnotherWhat);
    }

    private static void promises5To7() {
        edge("Promise 5", "NONE: it can't be", EdgesTest::farmThatCannotBe);
        edge("Promise 5", "(FROM not above TO)", EdgesTest::fromAboveTo);
        edge("Promise 5", "or there are 7", EdgesTest::eighthFarm);
        edge("Promise 6", "A WAY has so many DAYS, or there is none (NONE): true", EdgesTest::wayTakenAway);
        edge("Promise 6", "no such PLACES", EdgesTest::wayOfNoSuchPlaces);
        edge("Promise 6", "both the same, no such DAYS", EdgesTest::wayToTheSamePlace);
        edge("Promise 6", "no such DAYS", EdgesTest::wayOfNoSuchDays);
        edge("Promise 6", "(A set on the way goes on as it set out.)", EdgesTest::setOnTheWayGoesOn);
        edge("Promise 7", "by DAYS (how 0) or SACKS (1)", EdgesTest::bargainReplaced);
        edge("Promise 7", "coins each (0 .. 999)", EdgesTest::coinsLimits);
        edge("Promise 7", "false: no such FARM, how, coins", EdgesTest::bargainOfNoSuchFarm);
        edge("Promise 7", "no such FARM, how, coins", EdgesTest::bargainOfNoSuchHow);
    }

    private static void promises8To10() {
        edge("Promise 8", "(the set goes by none till it is SET OUT)", EdgesTest::newPlanStopsTheSet);
        edge("Promise 8", "NONE: no FARMS that aren't DONE", EdgesTest::planWithoutFarms);
        edge("Promise 8", "no FARMS that aren't DONE", EdgesTest::planWithAllDone);
        edge("Promise 8", "the set is on the way", EdgesTest::planOnTheWay);
        edge("Promise 8", "or there is none (the one at hand stays)", EdgesTest::planWithoutAnOrder);
        edge("Promise 8", "(the one at hand stays)", EdgesTest::planAtHandMayStillBeSetOut);
        edge("Promise 9", "Of the k-th FARM of the PLAN at hand", EdgesTest::plannedOfNoSuchFarm);
        edge("Promise 9", "what 0: its number", EdgesTest::plannedOfAnotherWhat);
        edge("Promise 9", "NONE if there is none such", EdgesTest::plannedWithoutAPlan);
        edge("Promise 9", "the PLAN at hand", EdgesTest::plannedOfAShorterPlan);
        edge("Promise 10", "false: no PLAN at hand", EdgesTest::outWithoutAPlan);
        edge("Promise 10", "it was SET OUT already", EdgesTest::outASecondTime);
        edge("Promise 10", "a DAY has gone by since it was made", EdgesTest::outADayTooLate);
        edge("Promise 10", "or there is no WAY to its first FARM any more", EdgesTest::outWithoutAWay);
    }

    private static void promises11To13() {
        edge("Promise 11", "(1 .. 9)", EdgesTest::breaksLimits);
        edge("Promise 11", "in place of what was told: true", EdgesTest::breaksReplaced);
        edge("Promise 11", "false for others", EdgesTest::breaksOfOthers);
        edge("Promise 12", "n of them (1 .. 99)", EdgesTest::dayLimits);
        edge("Promise 12", "NONE, and nothing happens: no such n", EdgesTest::noSuchDays);
        edge("Promise 12", "or it would be beyond 999", EdgesTest::beyondTheLastDay);
        edge("Promise 13", "what 0: sheaves left", EdgesTest::sheavesLeftAtBothEnds);
        edge("Promise 13", "1: SACKS", EdgesTest::sacksBeforeAndAfter);
        edge("Promise 13", "2: DAYS on which it was threshed there", EdgesTest::daysOfThreshingAlone);
        edge("Promise 13", "3: the DAY on which it was DONE (NONE)", EdgesTest::doneOnNoneYet);
        edge("Promise 13", "4: its PRICE so far", EdgesTest::dearestPrice);
        edge("Promise 13", "5: GANG now, 6: SPEED now", EdgesTest::gangAndSpeedOfNow);
        edge("Promise 13", "7: LOSS (late times the DAYS by which a DONE one was DONE behind TO; else 0)",
                EdgesTest::lossOfTheDayBehind);
        edge("Promise 13", "else 0", EdgesTest::lossOfOneThatIsNotDone);
        edge("Promise 13", "NONE: no such FARM", EdgesTest::lookAtNoSuchFarm);
        edge("Promise 13", "no such FARM, what", EdgesTest::lookAtNoSuchThing);
    }

    private static void promises14To16() {
        edge("Promise 14", "OWED of a to b", EdgesTest::debtsThatTurnRound);
        edge("Promise 14", "Integer.MIN_VALUE: no such FARMS", EdgesTest::owedOfNoSuchFarms);
        edge("Promise 14", "or both the same", EdgesTest::owedToItself);
        edge("Promise 15", "How many hands FARM b lends to the GANG of FARM a now", EdgesTest::lentByDoneFarms);
        edge("Promise 15", "NONE: no such FARMS", EdgesTest::lentByNoSuchFarms);
        edge("Promise 15", "or both the same", EdgesTest::lentToItself);
        edge("Promise 16", "1 the PLACE where the set is, or to which it is on the way", EdgesTest::placeOnTheWay);
        edge("Promise 16", "2: DAYS on the way yet, 3: DAYS BROKEN yet", EdgesTest::daysYetDownToNone);
        edge("Promise 16", "4: FARMS, 5: DONE ones", EdgesTest::farmsFromNoneToSeven);
        edge("Promise 16", "0 without a PLAN (or at its end)", EdgesTest::howItIsWithoutAPlan);
        edge("Promise 16", "1 on the way, 2 waiting for FROM, 3 threshing", EdgesTest::howItIsFromDayToDay);
        edge("Promise 16", "NONE for another what", EdgesTest::countOfAnotherWhat);
    }

    // ---- how a test is held ----

    /** The program may be tested apart from the document; the tests hold all the same. */
    private static void readDocument(Path path) throws IOException {
        if (Files.exists(path)) {
            document = joined(Files.readString(path));
        } else {
            System.out.println("EdgesTest: no " + path + ", so the sentences are not looked up");
        }
    }

    private static void edge(String where, String words, Runnable test) {
        sentence = where + " (" + words + ")";
        tests.merge(where, 1, Integer::sum);
        due("the sentence stands in the document", document.isEmpty() || document.contains(joined(words)), true);
        int before = checks;
        test.run();
        due("the test looks at something", checks > before, true);
    }

    private static void everyPromiseIsTested() {
        sentence = "all";
        for (int p = 1; p <= 16; p++) {
            due("promise " + p + " has a test", tests.containsKey("Promise " + p), true);
        }
    }

    private static String joined(String text) {
        return text.replaceAll("\\s+", " ");
    }

    private static void due(String what, long got, long want) {
        checks++;
        if (got != want) {
            wrong++;
            System.out.println(sentence + ": " + what + " answered " + got + ", due is " + want);
        }
    }

    private static void due(String what, boolean got, boolean want) {
        due(what, got ? 1 : 0, want ? 1 : 0);
    }

    /** Feeds a text of signs 0 to 255, filled up with blanks to the next twenty bytes. */
    private static void feedText(ThreshRound x, String text) {
        byte[] bytes = new byte[(text.length() + 19) / 20 * 20];
        Arrays.fill(bytes, (byte) ' ');
        for (int i = 0; i < text.length(); i++) {
            bytes[i] = (byte) text.charAt(i);
        }
        for (int i = 0; i < bytes.length; i += 20) {
            x.feed(number(bytes, i), number(bytes, i + 4), number(bytes, i + 8), number(bytes, i + 12),
                    number(bytes, i + 16));
        }
    }

    private static int number(byte[] b, int i) {
        return (b[i] & 255) << 24 | (b[i + 1] & 255) << 16 | (b[i + 2] & 255) << 8 | (b[i + 3] & 255);
    }

    private static int feedBlanks(ThreshRound x) {
        return x.feed(0x20202020, 0x20202020, 0x20202020, 0x20202020, 0x20202020);
    }

    private static int tell(ThreshRound x, String text) {
        feedText(x, text);
        return x.customs(text.length());
    }

    private static void dueFault(String text, int fault, int place) {
        ThreshRound x = new ThreshRound();
        due("customs of <" + text + ">", tell(x, text), NONE);
        due("fault(0) of <" + text + ">", x.fault(0), fault);
        due("fault(1) of <" + text + ">", x.fault(1), place);
    }

    private static void dueLines(String text, int lines) {
        ThreshRound x = new ThreshRound();
        due("customs of <" + text + ">", tell(x, text), lines);
        due("fault(0) of <" + text + ">", x.fault(0), 0);
        due("fault(1) of <" + text + ">", x.fault(1), NONE);
    }

    /** The least and the most may be told, and one less and one more not. */
    private static void dueLimits(String word, int least, int most) {
        int place = word.length() + 1;
        dueLines(word + " " + least + ";", 1);
        dueLines(word + " " + most + ";", 1);
        dueFault(word + " " + (most + 1) + ";", 2, place);
        if (least > 0) {
            dueFault(word + " " + (least - 1) + ";", 2, place);
        } else {
            dueFault(word + " -1;", 1, place);
        }
    }

    /** Farms of ten sheaves and a full gang of their own (a day each), a way of a day between all places. */
    private static ThreshRound village(int farms) {
        ThreshRound x = new ThreshRound();
        for (int f = 1; f <= farms; f++) {
            x.farm(10, 0, 8, 0, 0, 99);
        }
        for (int a = 0; a <= farms; a++) {
            for (int b = a + 1; b <= farms; b++) {
                x.way(a, b, 1);
            }
        }
        return x;
    }

    /** One farm, to which a way of no days goes from the yard. */
    private static ThreshRound oneFarm(int stack, int damp, int hands, int from, int to) {
        ThreshRound x = new ThreshRound();
        x.farm(stack, damp, hands, 0, from, to);
        x.way(0, 1, 0);
        return x;
    }

    private static ThreshRound goes(ThreshRound x) {
        due("a plan", x.plan() != NONE, true);
        due("out", x.out(), true);
        return x;
    }

    private static void dueOrder(String what, ThreshRound x, int... farms) {
        for (int k = 0; k < farms.length; k++) {
            due(what + ": farm " + k, x.planned(k, 0), farms[k]);
        }
        due(what + ": no more", x.planned(farms.length, 0), NONE);
    }

    private static void dueCounts(String when, ThreshRound x, int... want) {
        for (int what = 0; what < want.length; what++) {
            due(when + ": count(" + what + ")", x.count(what), want[what]);
        }
    }

    // ---- Terms 1: customs ----

    private static void textsWithoutALine() {
        dueLines("", 0);
        dueLines(" ", 0);
        dueLines("\n", 0);
        dueLines(" ".repeat(300), 0);
    }

    private static void lineWithoutItsEnd() {
        dueFault("late 1", 1, 6);
        dueFault(";", 1, 0);
        dueFault("late 1;;", 1, 7);
        dueLines("late 1;", 1);
    }

    private static void bothBlanksEverywhere() {
        dueLines(" late 1 ; damp 1 ; ", 2);
        dueLines("\nlate\n1\n;\ndamp\n1\n;\n", 2);
        dueLines(" \n late \n\n 1 \n ; \n\n", 1);
    }

    private static void noOtherBlank() {
        for (int sign = 0; sign < 256; sign++) {
            if (sign != 10 && sign != 32) {
                dueFault((char) sign + "late 1;", 1, 0);
            }
        }
        for (int sign : new int[] {0, 9, 11, 12, 13, 31, 33, 128, 133, 160, 255}) {
            dueFault("late" + (char) sign + "1;", 1, 4);
            dueFault("late 1" + (char) sign + ";", 1, 6);
            dueFault("late 1;" + (char) sign, 1, 7);
        }
    }

    private static void lettersBesideTheSmallOnes() {
        for (char sign : new char[] {'`', '{', '@', 'A', 'L', 'Z', '[', '_', '-', (char) 228, (char) ('l' + 128)}) {
            dueFault(sign + "ate 1;", 1, 0);
            dueFault("late" + sign + " 1;", 1, 4);
        }
        dueFault("Late 1;", 1, 0);
        // the row ends before the E, and what is before it is no word
        dueFault("latE 1;", 1, 0);
    }

    private static void wordsCutAndTooLong() {
        for (String word : WORDS) {
            dueLines(word + " 1;", 1);
            dueFault(word.substring(1) + " 1;", 1, 0);
            dueFault(word.substring(0, word.length() - 1) + " 1;", 1, 0);
            dueFault(word + "a 1;", 1, 0);
            dueFault("z" + word + " 1;", 1, 0);
            dueFault(word.substring(0, 2) + " " + word.substring(2) + " 1;", 1, 0);
        }
        dueFault("lateearly 1;", 1, 0);
        dueFault("a".repeat(299) + ";", 1, 0);
    }

    private static void bytesBesideTheDigits() {
        for (char sign : new char[] {'/', ':', '-', '+', '.', ',', 'o', (char) ('5' + 128), (char) 178}) {
            dueFault("late " + sign + ";", 1, 5);
            dueFault("late 1" + sign + ";", 1, 6);
        }
        dueLines("late 0;", 1);
        dueLines("late 9;", 1);
        dueFault("late 1 1;", 1, 7);
    }

    private static void noDigitAtAll() {
        dueFault("late;", 1, 4);
        dueFault("late ;", 1, 5);
        dueFault("late late 1;", 1, 5);
    }

    private static void digitsThatFillTheTape() {
        ThreshRound x = new ThreshRound();
        due("noughts ahead", tell(x, "late " + "0".repeat(292) + "90;"), 1);
        x.farm(10, 0, 8, 0, 0, 0);
        x.way(0, 1, 1);
        due("the number behind them", x.plan(), 90);
        dueFault("late " + "9".repeat(294) + ";", 2, 5);
        dueFault("late " + "9".repeat(295), 2, 5);
        dueFault("late 1" + "0".repeat(293) + ";", 2, 5);
    }

    private static void handsUntold() {
        ThreshRound x = oneFarm(10, 0, 12, 0, 99);
        due("at first", x.look(1, 5), 8);
        tell(x, "hands 11;");
        due("told", x.look(1, 5), 11);
        tell(x, "rate 10;");
        due("not told any more", x.look(1, 5), 8);
    }

    private static void rateUntold() {
        ThreshRound x = oneFarm(10, 0, 8, 0, 99);
        due("at first", x.look(1, 6), 10);
        tell(x, "rate 11;");
        due("told", x.look(1, 6), 11);
        tell(x, "late 1;");
        due("not told any more", x.look(1, 6), 10);
    }

    private static void sheavesUntold() {
        ThreshRound x = goes(oneFarm(10, 0, 8, 0, 99));
        x.day(1);
        due("at first", x.look(1, 1), 2);
        tell(x, "sheaves 3;");
        due("told", x.look(1, 1), 3);
        tell(x, "");
        due("not told any more", x.look(1, 1), 2);
    }

    private static void lateUntold() {
        ThreshRound x = oneFarm(10, 0, 8, 0, 0);
        x.way(0, 1, 3);
        due("at first", x.plan(), 3);
        tell(x, "late 2;");
        due("told", x.plan(), 6);
        tell(x, "first 1;");
        due("not told any more", x.plan(), 3);
    }

    private static void dampUntold() {
        ThreshRound x = goes(oneFarm(100, 8, 8, 0, 99));
        x.day(10);
        // 100 sheaves at 100 - 5 * 8, at 100 - 6 * 8
        due("at first", x.look(1, 1), 15);
        tell(x, "damp 6;");
        due("told", x.look(1, 1), 13);
        tell(x, "hands 8;");
        due("not told any more", x.look(1, 1), 15);
    }

    private static void firstUntold() {
        ThreshRound x = village(2);
        x.plan();
        dueOrder("at first", x, 1, 2);
        tell(x, "first 2;");
        x.plan();
        dueOrder("told", x, 2, 1);
        tell(x, "late 1;");
        x.plan();
        dueOrder("not told any more", x, 1, 2);
    }

    private static void handsLimits() {
        dueLimits("hands", 1, 20);
        ThreshRound x = oneFarm(10, 0, 12, 0, 99);
        x.farm(10, 0, 12, 12, 0, 99);
        tell(x, "hands 1;");
        due("a gang of 1", x.look(1, 5), 1);
        due("its speed", x.look(1, 6), 10);
        tell(x, "hands 20;");
        due("a gang of 20", x.look(1, 5), 20);
        due("8 of them lent", x.lent(1, 2), 8);
        due("its speed", x.look(1, 6), 10);
    }

    private static void rateLimits() {
        dueLimits("rate", 1, 99);
        ThreshRound x = oneFarm(10, 0, 8, 0, 99);
        tell(x, "rate 1;");
        due("one sheaf a day", x.look(1, 6), 1);
        tell(x, "rate 99;");
        due("99 sheaves a day", x.look(1, 6), 99);
    }

    private static void sheavesLimits() {
        dueLimits("sheaves", 1, 50);
        ThreshRound x = goes(oneFarm(100, 0, 8, 0, 99));
        x.day(10);
        tell(x, "sheaves 1;");
        due("a sack of a sheaf", x.look(1, 1), 100);
        tell(x, "sheaves 50;");
        due("a sack of 50 sheaves", x.look(1, 1), 2);
    }

    private static void lateLimits() {
        dueLimits("late", 0, 99);
        ThreshRound x = oneFarm(10, 0, 8, 0, 0);
        x.way(0, 1, 2);
        tell(x, "late 0;");
        due("nothing a day", x.plan(), 0);
        tell(x, "late 99;");
        due("99 a day", x.plan(), 198);
    }

    private static void firstLimits() {
        dueLimits("first", 1, 7);
        ThreshRound x = village(7);
        // a way of nine days to 1, so it comes first only if it is told
        x.way(0, 1, 9);
        tell(x, "first 1;");
        x.plan();
        dueOrder("first 1", x, 1, 2, 3, 4, 5, 6, 7);
        tell(x, "first 7;");
        x.plan();
        dueOrder("first 7", x, 7, 1, 2, 3, 4, 5, 6);
    }

    private static void dampLimits() {
        dueLimits("damp", 0, 10);
        ThreshRound x = goes(oneFarm(100, 9, 8, 0, 99));
        x.day(10);
        tell(x, "damp 0; sheaves 1;");
        due("damp is nothing", x.look(1, 1), 100);
        tell(x, "damp 10; sheaves 1;");
        due("a tenth is left", x.look(1, 1), 10);
    }

    private static void firstFaultAlongTheText() {
        dueFault("rate 0;late 100;", 2, 5);
        dueFault("late 100;rate 0;x", 2, 5);
        dueFault("x;rate 0;late 1;late 1;", 1, 0);
        dueFault("late 1;late 1;rate 0;x", 3, 7);
        dueFault("rate 0;late 1;late 1;", 2, 5);
        dueFault("late 1;damp 1;late 100 x", 3, 14);
        dueFault("late 100 x", 2, 5);
    }

    private static void leastFaultOfOnePlace() {
        // where only an end of the line can stand, a word told already and a number beyond are tokens that can't
        dueFault("late 1 late 1;", 1, 7);
        dueFault("late 1 100;", 1, 7);
        dueFault("late late;", 1, 5);
        dueFault("100;", 1, 0);
        // a token that is none is so at the place at which it would be told already
        dueFault("late 1;latex 1;", 1, 7);
    }

    private static void tokensThatAreNone() {
        for (char sign : new char[] {'.', ':', ',', '!', '"', '#', '\t', '\r', (char) 0, (char) 127, (char) 255}) {
            dueFault(sign + "", 1, 0);
            dueFault("late" + sign, 1, 4);
            dueFault("late 7" + sign, 1, 6);
            dueFault("late 7;" + sign, 1, 7);
        }
    }

    private static void otherWords() {
        dueFault("early 1;", 1, 0);
        dueFault("a 1;", 1, 0);
        dueFault("late 1;none 1;", 1, 7);
        dueFault("late none;", 1, 5);
        dueFault("late 1 none;", 1, 7);
    }

    private static void tokensThatCannotStandThere() {
        dueFault("7;", 1, 0);
        dueFault("late;", 1, 4);
        dueFault("late rate;", 1, 5);
        dueFault("late 1 2;", 1, 7);
        dueFault("late 1 rate 2;", 1, 7);
        dueFault("late 1rate 2;", 1, 6);
        dueFault("late 1;;", 1, 7);
        dueFault("late 1;2;", 1, 7);
        dueFault("late 1;rate 2;;", 1, 14);
    }

    private static void moreMustCome() {
        dueFault("late", 1, 4);
        dueFault("late ", 1, 5);
        dueFault("late 1", 1, 6);
        dueFault("late 1 \n", 1, 8);
        dueFault("late 1;rate", 1, 11);
        dueFault("late 1;rate 1  ", 1, 15);
        dueFault("late 1" + " ".repeat(294), 1, 300);
        // the length is n, not that of the tape
        ThreshRound x = new ThreshRound();
        feedText(x, "late 12;");
        due("three bytes of it", x.customs(5), NONE);
        due("a number must come", x.fault(0), 1);
        due("at n", x.fault(1), 5);
        feedText(x, "late 12;");
        due("seven bytes of it", x.customs(7), NONE);
        due("an end must come", x.fault(0), 1);
        due("at n", x.fault(1), 7);
    }

    private static void numbersBeyondThatWouldWrapAround() {
        dueFault("late 100;", 2, 5);
        dueFault("  late   100  ;", 2, 9);
        dueFault("late 2147483648;", 2, 5);
        dueFault("late 4294967296;", 2, 5);
        dueFault("hands 4294967297;", 2, 6);
        dueFault("hands 18446744073709551617;", 2, 6);
        dueFault("hands 340282366920938463463374607431768211457;", 2, 6);
        dueFault("rate 00;", 2, 5);
        dueFault("late 1;rate 5;damp 11;", 2, 19);
    }

    private static void linesToldAlready() {
        for (String word : WORDS) {
            dueFault(word + " 1; " + word + " 1;", 3, word.length() + 4);
            String other = word.equals("late") ? "damp" : "late";
            dueFault(word + " 1;" + other + "1 ;" + other + "2;", 3, word.length() + 10);
        }
        dueFault("late 1;rate 1;hands 1;sheaves 1;first 1;damp 1;late", 3, 47);
        // of two texts each tells its own lines
        ThreshRound x = new ThreshRound();
        due("late", tell(x, "late 1;"), 1);
        due("late in a text of its own", tell(x, "late 2;"), 1);
        due("late, with a fault behind it", tell(x, "late 2;x"), NONE);
        due("late behind a fault", tell(x, "late 3;"), 1);
    }

    // ---- Terms 2: places ----

    private static void yardIsAPlaceButNoFarm() {
        ThreshRound x = new ThreshRound();
        due("no way without a second place", x.way(0, 1, 1), false);
        due("the first farm is not 0", x.farm(10, 0, 8, 0, 0, 99), 1);
        due("a way of the yard", x.way(0, 1, 1), true);
        due("no look at the yard", x.look(0, 0), NONE);
        due("no bargain of the yard", x.bargain(0, 0, 1), false);
        due("nothing owed by the yard", x.owed(0, 1), LEAST_INT);
        due("nothing owed to the yard", x.owed(1, 0), LEAST_INT);
        due("nothing lent by the yard", x.lent(1, 0), NONE);
        due("nothing lent to the yard", x.lent(0, 1), NONE);
    }

    private static void farmsInOrder() {
        ThreshRound x = new ThreshRound();
        for (int f = 1; f <= 7; f++) {
            due("no farm " + f + " yet", x.look(f, 0), NONE);
            due("farm " + f, x.farm(f * 10, 0, 0, 0, 0, 99), f);
        }
        for (int f = 1; f <= 7; f++) {
            due("stack of " + f, x.look(f, 0), f * 10);
        }
        due("no farm 8", x.look(8, 0), NONE);
    }

    private static void stackLimits() {
        ThreshRound x = new ThreshRound();
        due("0 sheaves", x.farm(0, 0, 0, 0, 0, 0), NONE);
        due("301 sheaves", x.farm(301, 0, 0, 0, 0, 0), NONE);
        due("-1 sheaves", x.farm(-1, 0, 0, 0, 0, 0), NONE);
        due("the least int of sheaves", x.farm(LEAST_INT, 0, 0, 0, 0, 0), NONE);
        due("the most int of sheaves", x.farm(MOST_INT, 0, 0, 0, 0, 0), NONE);
        due("1 sheaf", x.farm(1, 0, 0, 0, 0, 0), 1);
        due("300 sheaves", x.farm(300, 0, 0, 0, 0, 0), 2);
        due("1 left", x.look(1, 0), 1);
        due("300 left", x.look(2, 0), 300);
    }

    private static void farmDampLimits() {
        ThreshRound x = new ThreshRound();
        due("damp -1", x.farm(1, -1, 0, 0, 0, 0), NONE);
        due("damp 10", x.farm(1, 10, 0, 0, 0, 0), NONE);
        due("damp of the least int", x.farm(1, LEAST_INT, 0, 0, 0, 0), NONE);
        due("damp of the most int", x.farm(1, MOST_INT, 0, 0, 0, 0), NONE);
        due("damp 0", x.farm(1, 0, 0, 0, 0, 0), 1);
        due("damp 9", x.farm(1, 9, 0, 0, 0, 0), 2);
    }

    private static void ownHandsLimits() {
        ThreshRound x = new ThreshRound();
        due("-1 hands", x.farm(1, 0, -1, 0, 0, 0), NONE);
        due("13 hands", x.farm(1, 0, 13, 0, 0, 0), NONE);
        due("the least int of hands", x.farm(1, 0, LEAST_INT, 0, 0, 0), NONE);
        due("the most int of hands", x.farm(1, 0, MOST_INT, 0, 0, 0), NONE);
        due("no hands", x.farm(1, 0, 0, 0, 0, 0), 1);
        due("12 hands", x.farm(1, 0, 12, 0, 0, 0), 2);
        tell(x, "hands 20;");
        due("a gang of none", x.look(1, 5), 0);
        due("a gang of 12", x.look(2, 5), 12);
    }

    private static void lendsLimits() {
        ThreshRound x = new ThreshRound();
        due("lends -1", x.farm(1, 0, 0, -1, 0, 0), NONE);
        due("lends 13", x.farm(1, 0, 0, 13, 0, 0), NONE);
        due("lends the least int", x.farm(1, 0, 0, LEAST_INT, 0, 0), NONE);
        due("lends the most int", x.farm(1, 0, 0, MOST_INT, 0, 0), NONE);
        due("lends none", x.farm(1, 0, 0, 0, 0, 0), 1);
        due("lends 12", x.farm(1, 0, 0, 12, 0, 0), 2);
        tell(x, "hands 20;");
        due("12 hands lent", x.lent(1, 2), 12);
        due("none lent", x.lent(2, 1), 0);
    }

    private static void spanLimits() {
        ThreshRound x = new ThreshRound();
        due("from -1", x.farm(1, 0, 0, 0, -1, 0), NONE);
        due("to 100", x.farm(1, 0, 0, 0, 0, 100), NONE);
        due("from and to 100", x.farm(1, 0, 0, 0, 100, 100), NONE);
        due("from and to -1", x.farm(1, 0, 0, 0, -1, -1), NONE);
        due("from the least int", x.farm(1, 0, 0, 0, LEAST_INT, 0), NONE);
        due("to the most int", x.farm(1, 0, 0, 0, 0, MOST_INT), NONE);
        due("day 0 alone", x.farm(1, 0, 0, 0, 0, 0), 1);
        due("day 99 alone", x.farm(1, 0, 0, 0, 99, 99), 2);
        due("all days", x.farm(1, 0, 0, 0, 0, 99), 3);
    }

    private static void waysAreTheSameBothWays() {
        ThreshRound x = village(2);
        due("told from 2 to 1", x.way(2, 1, 7), true);
        x.plan();
        due("from 1 to 2", x.planned(1, 1) - x.planned(0, 3), 7);
        due("told from 1 to the yard", x.way(1, 0, NONE), true);
        x.plan();
        dueOrder("no way from the yard to 1", x, 2, 1);
        due("from 2 to 1", x.planned(1, 1) - x.planned(0, 3), 7);
    }

    private static void wayLimits() {
        ThreshRound x = oneFarm(10, 0, 8, 0, 99);
        due("-2 days", x.way(0, 1, -2), false);
        due("10 days", x.way(0, 1, 10), false);
        due("none", x.way(0, 1, NONE), true);
        due("no plan without it", x.plan(), NONE);
        due("9 days", x.way(0, 1, 9), true);
        x.plan();
        due("there on day 9", x.planned(0, 1), 9);
        due("no days", x.way(0, 1, 0), true);
        x.plan();
        due("there on day 0", x.planned(0, 1), 0);
    }

    private static void noWaysAtFirst() {
        ThreshRound x = new ThreshRound();
        x.farm(10, 0, 8, 0, 0, 99);
        due("none to the first farm", x.plan(), NONE);
        x.way(0, 1, 1);
        due("one to the first farm", x.plan(), 0);
        x.farm(10, 0, 8, 0, 0, 99);
        due("none to the second farm", x.plan(), NONE);
        x.way(0, 2, 1);
        due("none between the farms", x.plan(), NONE);
        x.way(1, 2, 1);
        due("one between the farms", x.plan(), 0);
    }

    private static void owedTheOtherWayRound() {
        ThreshRound x = oneFarm(20, 0, 3, 0, 99);
        x.farm(10, 0, 8, 4, 0, 99);
        x.way(1, 2, 0);
        goes(x).day(1);
        due("1 owes 2", x.owed(1, 2), 4);
        due("2 owes 1 less than 0", x.owed(2, 1), -4);
        x.day(1);
        due("1 owes 2 more", x.owed(1, 2), 8);
        due("2 owes 1 as much less", x.owed(2, 1), -8);
    }

    private static void nothingOwedAtFirst() {
        ThreshRound x = village(7);
        for (int a = 1; a <= 7; a++) {
            for (int b = 1; b <= 7; b++) {
                due(a + " to " + b, x.owed(a, b), a == b ? LEAST_INT : 0);
            }
        }
    }

    private static void gangOfNone() {
        ThreshRound x = new ThreshRound();
        x.farm(10, 0, 0, 12, 0, 99);
        due("no hands, and no other farm", x.look(1, 5), 0);
        x.farm(10, 0, 0, 0, 0, 99);
        due("a farm lends to others, not to itself", x.look(1, 5), 0);
        due("it lends to the other", x.look(2, 5), 8);
        x.farm(10, 0, 0, 5, 0, 99);
        due("only lent hands", x.look(1, 5), 5);
    }

    /** Farm 1 lends 4, farm 2 as many; 3 has 4 of its own and lends 8. A way of no days leads to 3, then to 1. */
    private static ThreshRound threeNeighbours() {
        ThreshRound x = new ThreshRound();
        x.farm(10, 0, 0, 4, 0, 99);
        x.farm(10, 0, 0, 4, 0, 99);
        x.farm(40, 0, 4, 8, 0, 99);
        x.way(0, 3, 0);
        x.way(3, 1, 0);
        x.way(1, 2, 0);
        return x;
    }

    private static void thoseWhoOweMoreComeAhead() {
        ThreshRound x = threeNeighbours();
        due("at first 2 and 3 are alike for 1: 2", x.lent(1, 2), 4);
        due("at first 2 and 3 are alike for 1: 3", x.lent(1, 3), 4);
        goes(x).day(1);
        due("3 owes 1", x.owed(3, 1), 4);
        due("3 is ahead for 1", x.lent(1, 3), 8);
        due("so nothing is left for 2", x.lent(1, 2), 0);
        due("1 owes 3 less than nothing, so 2 is ahead of it", x.lent(3, 2), 4);
        due("and none is left for 1", x.lent(3, 1), 0);
        x.day(1);
        due("by turns", x.lent(3, 1), 4);
        due("by turns: the other", x.lent(3, 2), 0);
    }

    private static void lesserNumberOfLikeOnes() {
        ThreshRound x = threeNeighbours();
        due("1 before 2", x.lent(3, 1), 4);
        due("2 behind 1", x.lent(3, 2), 0);
        goes(x).day(2);
        due("3 owes both the same: 1", x.owed(3, 1), 4);
        due("3 owes both the same: 2", x.owed(3, 2), 4);
        due("1 before 2 again", x.lent(3, 1), 4);
        due("2 behind 1 again", x.lent(3, 2), 0);
    }

    private static void gangIsFull() {
        ThreshRound x = new ThreshRound();
        x.farm(10, 0, 3, 0, 0, 99);
        x.farm(10, 0, 0, 2, 0, 99);
        due("all that are lent are too few", x.look(1, 5), 5);
        x.farm(10, 0, 0, 3, 0, 99);
        due("as many as hands says", x.look(1, 5), 8);
        due("all of the last", x.lent(1, 3), 3);
        x.farm(10, 0, 0, 9, 0, 99);
        due("none of one more", x.lent(1, 4), 0);
        due("no more than hands says", x.look(1, 5), 8);
        tell(x, "hands 6;");
        due("all of the first", x.lent(1, 2), 2);
        due("a part of the next", x.lent(1, 3), 1);
        due("none of the last", x.lent(1, 4), 0);
    }

    private static void ownHandsAboveStayAtHome() {
        ThreshRound x = oneFarm(10, 0, 12, 0, 99);
        x.farm(10, 0, 8, 12, 0, 99);
        x.farm(10, 0, 7, 0, 0, 99);
        due("8 of 12", x.look(1, 5), 8);
        due("none is lent to 12", x.lent(1, 2), 0);
        due("8 of 8", x.look(2, 5), 8);
        due("8 of 7 and one", x.look(3, 5), 8);
        due("one is lent to 7", x.lent(3, 2), 1);
        due("8 have the speed of the rate", x.look(1, 6), 10);
    }

    private static void speedIsCut() {
        ThreshRound x = oneFarm(10, 0, 7, 0, 99);
        due("70 by 8", x.look(1, 6), 8);
        tell(x, "hands 7;");
        due("70 by 7", x.look(1, 6), 10);
        tell(x, "rate 99; hands 20;");
        due("693 by 20", x.look(1, 6), 34);
    }

    private static void speedOfOneAtLeast() {
        ThreshRound x = oneFarm(2, 0, 0, 0, 99);
        due("no gang at all", x.look(1, 5), 0);
        due("1 all the same", x.look(1, 6), 1);
        x.farm(1, 0, 7, 0, 0, 99);
        tell(x, "rate 1;");
        due("7 by 8", x.look(2, 6), 1);
        x.way(1, 2, 0);
        goes(x).day(1);
        due("a sheaf is threshed without a gang", x.look(1, 0), 1);
    }

    // ---- Terms 3: a plan ----

    private static void doneFarmsAreInNoOrder() {
        ThreshRound x = village(3);
        x.plan();
        dueOrder("none is done", x, 1, 2, 3);
        x.out();
        x.day(3);
        due("at farm 2", x.count(1), 2);
        due("1 is done", x.count(5), 1);
        x.plan();
        dueOrder("but 1", x, 2, 3);
        x.out();
        x.day(2);
        x.plan();
        dueOrder("but 1 and 2", x, 3);
    }

    private static void planFromTheDayThatIs() {
        ThreshRound x = village(1);
        x.plan();
        due("from day 0", x.planned(0, 1), 1);
        x.day(99);
        due("past its TO", x.plan(), 1);
        due("from day 99", x.planned(0, 1), 100);
        for (int i = 0; i < 9; i++) {
            x.day(99);
        }
        x.day(9);
        due("on the last day", x.plan(), 901);
        due("from day 999", x.planned(0, 1), 1000);
        due("out on", x.planned(0, 3), 1001);
    }

    private static void farmWhereTheSetIsComesFirst() {
        ThreshRound x = new ThreshRound();
        x.farm(30, 0, 8, 0, 0, 99);
        x.farm(10, 0, 8, 0, 0, 5);
        x.way(0, 1, 1);
        x.way(1, 2, 1);
        goes(x).day(2);
        due("at 1, not done", x.look(1, 0), 20);
        x.way(0, 1, NONE);
        x.way(0, 2, 0);
        due("2 is done in time behind it", x.plan(), 0);
        dueOrder("where it is", x, 1, 2);
        due("there now", x.planned(0, 1), 2);
        due("begun now", x.planned(0, 2), 2);
        due("out in two days", x.planned(0, 3), 4);
        tell(x, "rate 1;");
        due("2 is late, though it could come first", x.plan() > 0, true);
        dueOrder("where it is, in spite of the loss", x, 1, 2);
        x.way(1, 2, NONE);
        due("no order without a way from there", x.plan(), NONE);
    }

    private static void wayOverAnotherPlaceIsNone() {
        ThreshRound x = new ThreshRound();
        x.farm(10, 0, 8, 0, 0, 99);
        x.farm(10, 0, 8, 0, 0, 99);
        x.farm(10, 0, 8, 0, 0, 99);
        x.way(0, 1, 0);
        x.way(0, 2, 0);
        x.way(0, 3, 0);
        x.way(1, 2, 0);
        due("3 only over the yard", x.plan(), NONE);
        x.way(1, 3, 0);
        due("1 between them", x.plan(), 0);
        dueOrder("the one order that has ways", x, 2, 1, 3);
    }

    private static void wayOfNoDaysInAPlan() {
        ThreshRound x = oneFarm(10, 0, 8, 0, 99);
        x.farm(10, 0, 8, 0, 0, 99);
        x.way(1, 2, 0);
        x.day(3);
        x.plan();
        due("there on the same day", x.planned(0, 1), 3);
        due("out of 1", x.planned(0, 3), 4);
        due("at 2 on the day on which it sets out of 1", x.planned(1, 1), 4);
        x.way(1, 2, 9);
        x.plan();
        due("at 2 nine days later", x.planned(1, 1), 13);
    }

    private static void dayBeforeAndAfterFrom() {
        ThreshRound x = oneFarm(10, 0, 8, 5, 99);
        x.way(0, 1, 4);
        x.plan();
        due("there before FROM", x.planned(0, 1), 4);
        due("begun on FROM", x.planned(0, 2), 5);
        x.way(0, 1, 5);
        x.plan();
        due("there on FROM", x.planned(0, 1), 5);
        due("begun on FROM, too", x.planned(0, 2), 5);
        x.way(0, 1, 6);
        x.plan();
        due("there behind FROM", x.planned(0, 1), 6);
        due("begun as it comes", x.planned(0, 2), 6);
        due("out a day later", x.planned(0, 3), 7);
    }

    private static void daysUpwards() {
        int[][] daysOfStacks = {{1, 1}, {9, 1}, {10, 1}, {11, 2}, {20, 2}, {21, 3}, {299, 30}, {300, 30}};
        for (int[] pair : daysOfStacks) {
            ThreshRound x = oneFarm(pair[0], 0, 8, 0, 99);
            x.plan();
            due("days of " + pair[0], x.planned(0, 3), pair[1]);
        }
        ThreshRound slow = oneFarm(300, 0, 0, 0, 99);
        due("300 days without hands", slow.plan(), 200);
        due("out on", slow.planned(0, 3), 300);
        ThreshRound left = goes(oneFarm(31, 0, 8, 0, 99));
        left.day(1);
        left.plan();
        due("21 left: three days", left.planned(0, 3), 4);
    }

    private static void planBySpeedOfNow() {
        // 1 has 4 of its own and 4 of 2: 20 sheaves at 10; 2 has none of its own and 4 of 1: 20 at 5
        ThreshRound x = oneFarm(20, 0, 4, 0, 99);
        x.farm(20, 0, 0, 4, 0, 99);
        x.way(1, 2, 0);
        x.plan();
        due("out of 1", x.planned(0, 3), 2);
        due("2 has no gang now", x.planned(1, 3), 22);
        tell(x, "rate 99;");
        due("a plan stays as it was made", x.planned(1, 3), 22);
        x.plan();
        due("out of 1 by the rate of now", x.planned(0, 3), 1);
    }

    private static void lossFromTheSecondDayBehind() {
        ThreshRound x = oneFarm(10, 0, 8, 0, 3);
        x.way(0, 1, 2);
        due("ends on TO", x.plan(), 0);
        x.way(0, 1, 3);
        due("ends on the day behind TO", x.plan(), 0);
        due("of which it is told", x.planned(0, 3), 4);
        x.way(0, 1, 4);
        due("ends two days behind TO", x.plan(), 1);
        due("its loss", x.planned(0, 4), 1);
        x.way(0, 1, 5);
        tell(x, "late 10;");
        due("ends three days behind TO", x.plan(), 20);
    }

    private static void lossOfAllFarms() {
        ThreshRound x = new ThreshRound();
        for (int f = 1; f <= 7; f++) {
            x.farm(10, 0, 8, 0, 0, 0);
            x.way(f - 1, f, 1);
        }
        // they end on days 2, 4, .. 14, so 1, 3, .. 13 behind
        due("of seven", x.plan(), 49);
        due("of the first", x.planned(0, 4), 1);
        due("of the last", x.planned(6, 4), 13);
        ThreshRound y = village(2);
        tell(y, "late 99;");
        due("of none", y.plan(), 0);
    }

    private static void firstThatIsNoneOrDone() {
        ThreshRound x = village(3);
        tell(x, "first 4;");
        due("no such farm", x.plan(), 0);
        dueOrder("no such farm", x, 1, 2, 3);
        tell(x, "first 3;");
        goes(x).day(3);
        due("3 is done", x.look(3, 3), 1);
        due("at farm 1", x.count(1), 1);
        x.day(1);
        due("1 is done, too", x.count(5), 2);
        x.day(1);
        due("a plan with first done", x.plan(), 0);
        dueOrder("first is done", x, 2);
        ThreshRound y = village(3);
        tell(y, "first 2;");
        y.way(0, 2, NONE);
        due("no way to first", y.plan(), NONE);
    }

    private static void firstBehindWhereTheSetIs() {
        ThreshRound x = village(3);
        tell(x, "first 3;");
        x.plan();
        dueOrder("from the yard", x, 3, 1, 2);
        tell(x, "first 1;");
        goes(x).day(1);
        tell(x, "first 3;");
        x.plan();
        dueOrder("from 1, which isn't done", x, 1, 3, 2);
        tell(x, "first 1;");
        x.plan();
        dueOrder("first is where it is", x, 1, 2, 3);
        ThreshRound y = village(3);
        goes(y).day(1);
        y.way(1, 2, NONE);
        y.day(1);
        due("1 is done, and the set stays", y.count(1), 1);
        due("by no plan", y.count(6), 0);
        y.way(1, 2, 1);
        tell(y, "first 3;");
        y.plan();
        dueOrder("from 1, which is done", y, 3, 2);
    }

    private static void leastLossThoughLaterAtItsEnd() {
        // 1, 2, 3 is out on 1, 2 and 3, and loses 1 at 2; 2, 1, 3 is out on 1, 2 and 12
        ThreshRound x = new ThreshRound();
        x.farm(10, 0, 8, 0, 0, 99);
        x.farm(10, 0, 8, 0, 0, 0);
        x.way(0, 1, 0);
        x.way(1, 2, 0);
        x.way(0, 2, 0);
        x.farm(10, 0, 8, 0, 0, 99);
        x.way(2, 3, 0);
        x.way(1, 3, 9);
        due("no loss", x.plan(), 0);
        dueOrder("no loss", x, 2, 1, 3);
        due("ends on", x.planned(2, 3), 12);
        tell(x, "late 0;");
        due("no loss in any order", x.plan(), 0);
        dueOrder("no loss in any order", x, 1, 2, 3);
        due("ends on", x.planned(2, 3), 3);
    }

    private static void ofLikeLossTheFirstAtItsEnd() {
        ThreshRound x = village(2);
        x.way(0, 1, 2);
        due("2, 1 is a day shorter", x.plan(), 0);
        dueOrder("2, 1 is a day shorter", x, 2, 1);
        due("ends on", x.planned(1, 3), 4);
        x.way(0, 2, 2);
        x.plan();
        dueOrder("as short", x, 1, 2);
        // of like loss above 0, too: 1, 2 is out on 3 and 4, and 2, 1 on 2 and 3; both lose 2 at 1, and none at 2
        ThreshRound y = new ThreshRound();
        y.farm(10, 0, 8, 0, 0, 0);
        y.farm(10, 0, 8, 0, 0, 3);
        y.way(0, 1, 2);
        y.way(0, 2, 1);
        y.way(1, 2, 0);
        due("a loss of 2", y.plan(), 2);
        dueOrder("a loss of 2", y, 2, 1);
        due("ends on", y.planned(1, 3), 3);
        y.way(0, 2, NONE);
        due("as much by the other order", y.plan(), 2);
        due("which ends on", y.planned(1, 3), 4);
    }

    private static void ofLikeEndsTheFirstByNumbers() {
        ThreshRound x = village(3);
        x.plan();
        dueOrder("all alike", x, 1, 2, 3);
        x.way(1, 2, 9);
        x.plan();
        dueOrder("of 1, 3, 2 and 2, 3, 1", x, 1, 3, 2);
        x.way(0, 1, 2);
        x.way(1, 2, 1);
        x.plan();
        dueOrder("of those which begin at 2 and at 3", x, 2, 1, 3);
        ThreshRound all = village(7);
        all.plan();
        dueOrder("seven alike", all, 1, 2, 3, 4, 5, 6, 7);
    }

    private static void newPlanFromItsFirstFarm() {
        ThreshRound x = goes(village(3));
        x.day(3);
        due("at the second farm of the old plan", x.count(1), 2);
        goes(x);
        due("at the first farm of the new plan", x.count(6), 3);
        x.day(1);
        due("to the second farm of the new plan", x.count(1), 3);
        x.day(2);
        due("to its end", x.count(5), 3);
    }

    private static void sevenFarmsOneByOne() {
        ThreshRound x = goes(village(7));
        for (int f = 1; f <= 7; f++) {
            due("to farm " + f, x.count(1), f);
            x.day(1);
            due("threshing at " + f, x.count(6), 3);
            x.day(1);
            due("done at " + f, x.look(f, 3), 2 * f - 1);
        }
        due("at its end", x.count(6), 0);
        due("all are done", x.count(5), 7);
    }

    // ---- Terms 3: a day ----

    private static void brokenDayDoesNothingElse() {
        ThreshRound x = village(1);
        x.farm(10, 0, 0, 4, 0, 99);
        x.way(1, 2, 1);
        tell(x, "hands 12;");
        x.breaks(2);
        goes(x);
        x.day(1);
        dueCounts("broken on the way", x, 1, 1, 1, 1, 2, 0, 1);
        x.day(1);
        dueCounts("broken on the way again", x, 2, 1, 1, 0, 2, 0, 1);
        x.day(1);
        dueCounts("there", x, 3, 1, 0, 0, 2, 0, 3);
        x.breaks(1);
        x.day(1);
        dueCounts("broken at the farm", x, 4, 1, 0, 0, 2, 0, 3);
        due("nothing threshed", x.look(1, 0), 10);
        due("nothing owed", x.owed(1, 2), 0);
        due("no day of threshing", x.look(1, 2), 0);
        x.day(1);
        due("threshed", x.look(1, 3), 4);
        due("owed", x.owed(1, 2), 4);
    }

    private static void dayOfArrival() {
        ThreshRound x = village(1);
        x.way(0, 1, 2);
        goes(x).day(1);
        dueCounts("a day yet", x, 1, 1, 1, 0, 1, 0, 1);
        x.day(1);
        dueCounts("there", x, 2, 1, 0, 0, 1, 0, 3);
        due("nothing threshed as it came", x.look(1, 0), 10);
        x.day(1);
        due("threshed on the next day", x.look(1, 3), 2);
    }

    private static void wayOfNoDaysAtSettingOut() {
        ThreshRound x = oneFarm(10, 0, 8, 0, 99);
        x.plan();
        due("at the yard", x.count(1), 0);
        x.out();
        dueCounts("there", x, 0, 1, 0, 0, 1, 0, 3);
        x.day(1);
        due("threshed on the first day", x.look(1, 3), 0);
    }

    private static void wayOfNoDaysBetweenFarms() {
        ThreshRound x = oneFarm(15, 0, 8, 0, 99);
        x.farm(10, 0, 8, 0, 0, 99);
        x.way(1, 2, 0);
        goes(x).day(2);
        dueCounts("there", x, 2, 2, 0, 0, 2, 1, 3);
        due("nothing of 2 on the day on which 1 is done", x.look(2, 0), 10);
        x.day(1);
        due("2 on the next day", x.look(2, 3), 2);
    }

    private static void daysAheadOfFrom() {
        ThreshRound x = oneFarm(10, 0, 4, 2, 99);
        x.farm(10, 0, 0, 4, 0, 99);
        x.way(1, 2, 1);
        goes(x);
        for (int day = 0; day < 2; day++) {
            due("waiting", x.count(6), 2);
            x.day(1);
            due("nothing threshed", x.look(1, 0), 10);
            due("nothing owed", x.owed(1, 2), 0);
            due("no day of threshing", x.look(1, 2), 0);
        }
        due("threshing on FROM", x.count(6), 3);
        x.day(1);
        due("threshed on FROM", x.look(1, 3), 2);
        due("owed for FROM", x.owed(1, 2), 4);
    }

    private static void lastSheaves() {
        ThreshRound x = goes(oneFarm(21, 0, 8, 0, 99));
        int[] left = {11, 1, 0, 0};
        for (int day = 0; day < left.length; day++) {
            x.day(1);
            due("left behind day " + day, x.look(1, 0), left[day]);
        }
        due("days", x.look(1, 2), 3);
        ThreshRound y = goes(oneFarm(20, 0, 8, 0, 99));
        y.day(2);
        due("no day more for a stack that comes out even", y.look(1, 3), 1);
        ThreshRound z = goes(oneFarm(1, 0, 8, 0, 99));
        z.day(1);
        due("a stack of one", z.look(1, 3), 0);
    }

    private static void handsGivenForAWholeDay() {
        ThreshRound x = oneFarm(11, 0, 2, 0, 99);
        x.farm(10, 0, 0, 5, 0, 99);
        x.farm(10, 0, 0, 5, 0, 99);
        x.farm(10, 0, 0, 5, 0, 99);
        x.way(1, 2, 1);
        x.way(2, 3, 1);
        x.way(3, 4, 1);
        goes(x).day(1);
        due("all of 2", x.owed(1, 2), 5);
        due("a part of 3", x.owed(1, 3), 1);
        due("none of 4", x.owed(1, 4), 0);
        x.day(1);
        due("for the last sheaf as for ten: 4", x.owed(1, 4), 5);
        due("3 by now", x.owed(1, 3), 2);
        due("2 as before", x.owed(1, 2), 5);
        x.day(1);
        due("nothing on the way", x.owed(1, 3), 2);
    }

    private static void doneOnTheDayOfTheLastSheaf() {
        ThreshRound x = oneFarm(20, 0, 8, 0, 99);
        x.day(7);
        goes(x).day(1);
        due("not done", x.look(1, 3), NONE);
        due("none is done", x.count(5), 0);
        x.day(1);
        due("done on day 8", x.look(1, 3), 8);
        due("one is done", x.count(5), 1);
        x.day(9);
        due("done on day 8 still", x.look(1, 3), 8);
    }

    private static void outForTheNextOnTheSameDay() {
        ThreshRound x = village(2);
        x.way(1, 2, 3);
        goes(x).day(2);
        dueCounts("out on the day on which 1 is done", x, 2, 2, 3, 0, 2, 1, 1);
        x.day(3);
        dueCounts("there", x, 5, 2, 0, 0, 2, 1, 3);
    }

    private static void withoutAWayToTheNext() {
        ThreshRound x = goes(village(2));
        x.day(1);
        x.way(1, 2, NONE);
        x.day(1);
        dueCounts("it stays", x, 2, 1, 0, 0, 2, 1, 0);
        x.way(1, 2, 1);
        x.day(9);
        dueCounts("though there is a way again", x, 11, 1, 0, 0, 2, 1, 0);
        due("the plan was set out already", x.out(), false);
        goes(x).day(2);
        due("a new one goes on", x.look(2, 3), 12);
    }

    private static void withoutANextOne() {
        ThreshRound x = goes(village(1));
        x.day(2);
        dueCounts("it stays", x, 2, 1, 0, 0, 1, 1, 0);
        x.farm(10, 0, 8, 0, 0, 99);
        x.way(1, 2, 0);
        x.day(9);
        dueCounts("though there is a farm again", x, 11, 1, 0, 0, 2, 1, 0);
        goes(x).day(1);
        due("a new plan goes on", x.look(2, 3), 11);
    }

    private static void everyDayGoesOn() {
        ThreshRound x = oneFarm(10, 0, 8, 4, 99);
        x.way(0, 1, 1);
        due("without a plan", x.day(1), 1);
        goes(x);
        due("on the way", x.day(1), 2);
        x.breaks(1);
        due("broken", x.day(1), 3);
        due("ahead of FROM", x.day(1), 4);
        due("threshing", x.day(1), 5);
        due("at its end", x.day(1), 6);
        due("done on day 4", x.look(1, 3), 4);
    }

    private static void sacksAreCut() {
        ThreshRound x = oneFarm(9, 0, 8, 0, 99);
        tell(x, "rate 1;");
        goes(x);
        int[] sacks = {0, 0, 0, 0, 1, 1, 1, 1, 2, 2};
        for (int day = 0; day < sacks.length; day++) {
            due("sacks of " + day + " sheaves", x.look(1, 1), sacks[day]);
            x.day(1);
        }
    }

    private static void dampestSacks() {
        ThreshRound x = oneFarm(300, 9, 8, 0, 99);
        tell(x, "rate 99;");
        goes(x).day(4);
        tell(x, "damp 10; sheaves 1;");
        due("300 at 10 of 100", x.look(1, 1), 30);
        tell(x, "damp 10; sheaves 50;");
        due("no sack", x.look(1, 1), 0);
        tell(x, "damp 0; sheaves 1;");
        due("300 at 100 of 100", x.look(1, 1), 300);
        tell(x, "sheaves 1;");
        due("300 at 55 of 100", x.look(1, 1), 165);
    }

    private static void priceAtFirst() {
        ThreshRound x = goes(oneFarm(40, 0, 8, 0, 99));
        x.day(3);
        due("0 a day", x.look(1, 4), 0);
        x.bargain(1, 0, 1);
        due("a coin a day", x.look(1, 4), 3);
        x.bargain(1, 1, 1);
        due("a coin a sack", x.look(1, 4), 7);
    }

    // ---- Promises 1 to 4 ----

    private static void newWithoutFarms() {
        ThreshRound x = new ThreshRound();
        due("no farms", x.count(4), 0);
        due("none done", x.count(5), 0);
        for (int f = 0; f <= 8; f++) {
            due("no farm " + f, x.look(f, 0), NONE);
            due("no way to " + f, x.way(0, f, 1), false);
        }
        due("the first to come", x.farm(1, 0, 0, 0, 0, 0), 1);
    }

    private static void newWithoutCustoms() {
        ThreshRound x = new ThreshRound();
        due("no fault", x.fault(0), 0);
        due("at no place", x.fault(1), NONE);
        x.farm(40, 4, 12, 0, 0, 0);
        x.way(0, 1, 2);
        due("hands 8", x.look(1, 5), 8);
        due("rate 10", x.look(1, 6), 10);
        due("late 1: six days, five behind", x.plan(), 5);
        x.out();
        x.day(6);
        // 40 sheaves at 100 - 5 * 4, four to the sack
        due("sheaves 4, damp 5", x.look(1, 1), 8);
    }

    private static void newAtTheYard() {
        ThreshRound x = new ThreshRound();
        dueCounts("new", x, 0, 0, 0, 0, 0, 0, 0);
        due("no plan", x.planned(0, 0), NONE);
        due("none to set out", x.out(), false);
        x.farm(10, 0, 8, 0, 0, 99);
        x.farm(10, 0, 8, 0, 0, 99);
        x.way(1, 2, 1);
        due("from the yard there is no way", x.plan(), NONE);
        x.way(0, 1, 1);
        due("from the yard there is one", x.plan(), 0);
    }

    private static void newTapeIsEmpty() {
        ThreshRound x = new ThreshRound();
        due("no byte is there", x.customs(1), -2);
        due("none are taken", x.customs(0), 0);
        due("twenty are the first", x.feed(0, 0, 0, 0, 0), 20);
        due("no more than twenty are there", x.customs(21), -2);
    }

    private static void numbersBelowZeroOnTheTape() {
        // "late 1;" and bytes above 127, the first of which is the highest of a number below 0
        ThreshRound x = new ThreshRound();
        x.feed(0x6C617465, 0x20313B20, -1, LEAST_INT, MOST_INT);
        due("the bytes of -1 are none of a text", x.customs(20), NONE);
        due("the bytes of -1 stand at", x.fault(1), 8);
        x.feed(0x6C617465, 0x20313B20, 0x20202020, LEAST_INT, 0);
        due("the bytes of the least int are none of a text", x.customs(20), NONE);
        due("its 128 stands at", x.fault(1), 12);
        x.feed(0x6C617465, 0x20313B20, 0x20202020, 0x20202000, 0);
        due("a byte of 0", x.customs(20), NONE);
        due("a byte of 0 is the last of its number", x.fault(1), 15);
        x.feed(0x6C617465, 0x20313B20, 0x64616D70, 0x20393B0A, 0x0A0A0A0A);
        due("lines over numbers", x.customs(20), 2);
        due("no fault", x.fault(1), NONE);
    }

    private static void tapeFilledToTheEnd() {
        ThreshRound x = new ThreshRound();
        for (int i = 1; i <= 15; i++) {
            due("feed " + i, feedBlanks(x), 20 * i);
        }
        due("all 300 are there", x.customs(300), 0);
        String text = " ".repeat(284) + "late 99; damp 0;";
        due("what stands at the very end is read", tell(x, text), 2);
    }

    private static void tapeIsFull() {
        ThreshRound x = new ThreshRound();
        for (int i = 1; i <= 15; i++) {
            feedBlanks(x);
        }
        due("320 would be more", x.feed(1, 2, 3, 4, 5), NONE);
        due("again", x.feed(1, 2, 3, 4, 5), NONE);
        due("none came", x.customs(301), -2);
        due("300 are there as they were", x.customs(300), 0);
        due("there is room again", feedBlanks(x), 20);
    }

    private static void bytesBehindTheFirstAreNotRead() {
        ThreshRound x = new ThreshRound();
        feedText(x, "late 1;damp 99; x");
        due("a line alone", x.customs(7), 1);
        due("without the fault behind it", x.fault(0), 0);
        feedText(x, "late 12;");
        due("the last byte is not there", x.customs(7), NONE);
        feedText(x, "xyz");
        due("none of the bytes", x.customs(0), 0);
        feedText(x, "late 1;            x");
        due("all but the last", x.customs(19), 1);
        feedText(x, "late 1;            x");
        due("all of them", x.customs(20), NONE);
        due("the fault is at the last", x.fault(1), 19);
    }

    private static void tapeIsEmptyThen() {
        ThreshRound x = new ThreshRound();
        feedText(x, "late 1;damp 1;");
        x.customs(7);
        due("the rest is gone", x.customs(1), -2);
        feedText(x, "x");
        x.customs(20);
        due("gone with a fault, too", x.customs(1), -2);
        feedText(x, "late 1;");
        x.customs(0);
        due("gone if none are read, too", x.customs(1), -2);
        due("what comes then is the first", x.feed(0x6C617465, 0x20313B20, 0x20202020, 0x20202020, 0x20202020), 20);
        due("and is read from its beginning", x.customs(20), 1);
    }

    private static void customsInPlaceOfTheOld() {
        ThreshRound x = oneFarm(10, 0, 12, 0, 99);
        tell(x, "hands 12; rate 20;");
        due("hands and rate", x.look(1, 6), 20);
        tell(x, "rate 30;");
        due("hands are as usual again", x.look(1, 5), 8);
        due("rate", x.look(1, 6), 30);
        tell(x, "");
        due("all is as usual", x.look(1, 6), 10);
        tell(x, "rate 30;");
        x.customs(0);
        due("no bytes are customs, too", x.look(1, 6), 10);
    }

    private static void noLinesAndAllLines() {
        dueLines("", 0);
        dueLines("damp 1;", 1);
        dueLines("damp 10;first 7;late 99;sheaves 50;rate 99;hands 20;", 6);
        dueLines("hands 1;rate 1;sheaves 1;late 0;first 1;damp 0;", 6);
    }

    private static void faultLeavesTheCustoms() {
        ThreshRound x = oneFarm(10, 0, 8, 0, 99);
        tell(x, "rate 30;");
        due("a fault", tell(x, "rate 40; x"), NONE);
        due("what stands ahead of it is not in force", x.look(1, 6), 30);
        due("a fault at once", tell(x, "x"), NONE);
        due("the customs stay", x.look(1, 6), 30);
    }

    private static void notSoManyBytes() {
        ThreshRound x = oneFarm(10, 0, 8, 0, 99);
        tell(x, "rate 30;");
        due("one of none", x.customs(1), -2);
        feedText(x, "rate 40;");
        due("21 of 20", x.customs(21), -2);
        due("the most int of them", x.customs(MOST_INT), -2);
        due("the customs stay", x.look(1, 6), 30);
        due("the tape stays", feedBlanks(x), 40);
        due("41 of 40", x.customs(41), -2);
        due("40 of 40", x.customs(40), 1);
        due("new customs", x.look(1, 6), 40);
    }

    private static void bytesBelowZero() {
        ThreshRound x = oneFarm(10, 0, 8, 0, 99);
        tell(x, "rate 30;");
        due("-1 of none", x.customs(-1), -2);
        feedText(x, "rate 40;");
        due("-1 of 20", x.customs(-1), -2);
        due("-2 of 20", x.customs(-2), -2);
        due("the least int of them", x.customs(LEAST_INT), -2);
        due("the customs stay", x.look(1, 6), 30);
        due("the tape stays", x.customs(20), 1);
        due("new customs", x.look(1, 6), 40);
    }

    private static void refusedCustomsTellNoFault() {
        ThreshRound x = new ThreshRound();
        x.customs(-1);
        due("of none: no fault", x.fault(0), 0);
        due("of none: at no place", x.fault(1), NONE);
        tell(x, "late 1; late 1;");
        x.customs(-1);
        x.customs(1);
        due("the fault stays", x.fault(0), 3);
        due("its place stays", x.fault(1), 8);
    }

    private static void faultOfNone() {
        ThreshRound x = new ThreshRound();
        due("before all customs", x.fault(0), 0);
        due("before all customs: the place", x.fault(1), NONE);
        tell(x, "rate 100;");
        due("a fault", x.fault(0), 2);
        due("its place", x.fault(1), 5);
        tell(x, "rate 99;");
        due("the latest have none", x.fault(0), 0);
        due("the latest have none: the place", x.fault(1), NONE);
        tell(x, "x");
        x.customs(0);
        due("none of an empty text", x.fault(0), 0);
        due("none of an empty text: the place", x.fault(1), NONE);
    }

    private static void placesOfFaultsAtBothEnds() {
        dueFault("x", 1, 0);
        dueFault(" ".repeat(299) + "x", 1, 299);
        dueFault(" ".repeat(296) + "late", 1, 300);
        dueFault(" ".repeat(292) + "late 100", 2, 297);
        dueFault("late 1;" + " ".repeat(289) + "late", 3, 296);
    }

    private static void faultOfAnotherWhat() {
        ThreshRound x = new ThreshRound();
        tell(x, "x");
        for (int what : new int[] {-1, 2, 3, LEAST_INT, MOST_INT}) {
            due("fault(" + what + ")", x.fault(what), NONE);
        }
    }

    // ---- Promises 5 to 7 ----

    private static void farmThatCannotBe() {
        ThreshRound x = new ThreshRound();
        int[][] bad = {{0, 0, 0, 0, 0, 0}, {301, 0, 0, 0, 0, 0}, {1, -1, 0, 0, 0, 0}, {1, 10, 0, 0, 0, 0},
            {1, 0, -1, 0, 0, 0}, {1, 0, 13, 0, 0, 0}, {1, 0, 0, -1, 0, 0}, {1, 0, 0, 13, 0, 0},
            {1, 0, 0, 0, -1, 0}, {1, 0, 0, 0, 0, 100}};
        for (int[] b : bad) {
            due("farm" + Arrays.toString(b), x.farm(b[0], b[1], b[2], b[3], b[4], b[5]), NONE);
        }
        due("none came", x.count(4), 0);
        due("so the next one is the first", x.farm(1, 0, 0, 0, 0, 0), 1);
    }

    private static void fromAboveTo() {
        ThreshRound x = new ThreshRound();
        due("from 1 to 0", x.farm(1, 0, 0, 0, 1, 0), NONE);
        due("from 99 to 98", x.farm(1, 0, 0, 0, 99, 98), NONE);
        due("from 99 to 0", x.farm(1, 0, 0, 0, 99, 0), NONE);
        due("from 0 to 0", x.farm(1, 0, 0, 0, 0, 0), 1);
        due("from 50 to 50", x.farm(1, 0, 0, 0, 50, 50), 2);
        due("from 50 to 51", x.farm(1, 0, 0, 0, 50, 51), 3);
    }

    private static void eighthFarm() {
        ThreshRound x = village(6);
        due("the seventh", x.farm(1, 0, 0, 0, 0, 0), 7);
        due("an eighth", x.farm(1, 0, 0, 0, 0, 0), NONE);
        due("an eighth that can't be", x.farm(0, 0, 0, 0, 0, 0), NONE);
        due("seven are there", x.count(4), 7);
        due("the seventh stays as it was", x.look(7, 0), 1);
        x.way(6, 7, 0);
        goes(x).day(99);
        due("all are done", x.count(5), 7);
        due("an eighth though all are done", x.farm(1, 0, 0, 0, 0, 0), NONE);
    }

    private static void wayTakenAway() {
        ThreshRound x = oneFarm(10, 0, 8, 0, 99);
        due("none", x.way(0, 1, NONE), true);
        due("none where there is none", x.way(1, 0, NONE), true);
        due("no plan", x.plan(), NONE);
        due("a way again", x.way(1, 0, 9), true);
        due("in place of it", x.way(1, 0, 2), true);
        x.plan();
        due("the last one told", x.planned(0, 1), 2);
    }

    private static void wayOfNoSuchPlaces() {
        ThreshRound x = village(2);
        for (int place : new int[] {-1, 3, 7, 8, LEAST_INT, MOST_INT}) {
            due("from 1 to " + place, x.way(1, place, 3), false);
            due("from " + place + " to 1", x.way(place, 1, 3), false);
            due("none to " + place, x.way(1, place, NONE), false);
        }
        due("a farm that comes", x.farm(10, 0, 8, 0, 0, 99), 3);
        due("what was refused is not there then", x.plan(), NONE);
        due("a way to it then", x.way(1, 3, 3), true);
        due("a plan then", x.plan(), 0);
    }

    private static void wayToTheSamePlace() {
        ThreshRound x = village(7);
        for (int p = 0; p <= 7; p++) {
            due("from " + p + " to itself", x.way(p, p, 1), false);
            due("none to itself", x.way(p, p, NONE), false);
        }
        due("from 8 to itself", x.way(8, 8, 1), false);
        goes(x).day(1);
        x.way(1, 1, 5);
        x.plan();
        due("where the set is it needs no way", x.planned(0, 1), 1);
    }

    private static void wayOfNoSuchDays() {
        ThreshRound x = village(1);
        for (int days : new int[] {-2, 10, LEAST_INT, MOST_INT}) {
            due(days + " days", x.way(0, 1, days), false);
        }
        x.plan();
        due("the way stays", x.planned(0, 1), 1);
        due("no days", x.way(0, 1, 0), true);
        due("nine days", x.way(0, 1, 9), true);
    }

    private static void setOnTheWayGoesOn() {
        ThreshRound x = village(1);
        x.way(0, 1, 3);
        goes(x).day(1);
        x.way(0, 1, NONE);
        due("two days yet", x.count(2), 2);
        x.day(1);
        x.way(0, 1, 9);
        due("a day yet", x.count(2), 1);
        x.day(1);
        dueCounts("there", x, 3, 1, 0, 0, 1, 0, 3);
        x.day(1);
        due("done", x.look(1, 3), 3);
        ThreshRound y = village(1);
        y.way(0, 1, 3);
        goes(y);
        y.way(0, 1, 0);
        due("no shorter, either", y.count(2), 3);
    }

    private static void bargainReplaced() {
        ThreshRound x = goes(oneFarm(40, 0, 8, 0, 99));
        x.day(2);
        due("by days", x.bargain(1, 0, 3), true);
        due("two days", x.look(1, 4), 6);
        due("by sacks", x.bargain(1, 1, 3), true);
        due("five sacks", x.look(1, 4), 15);
        due("by days again", x.bargain(1, 0, 4), true);
        due("two days at 4", x.look(1, 4), 8);
    }

    private static void coinsLimits() {
        ThreshRound x = goes(oneFarm(40, 0, 8, 0, 99));
        x.day(1);
        due("999 coins", x.bargain(1, 0, 999), true);
        due("999", x.look(1, 4), 999);
        for (int coins : new int[] {-1, 1000, LEAST_INT, MOST_INT}) {
            due(coins + " coins by days", x.bargain(1, 0, coins), false);
            due(coins + " coins by sacks", x.bargain(1, 1, coins), false);
        }
        due("999 as before", x.look(1, 4), 999);
        due("0 coins", x.bargain(1, 0, 0), true);
        due("0", x.look(1, 4), 0);
    }

    private static void bargainOfNoSuchFarm() {
        ThreshRound x = new ThreshRound();
        due("1 of none", x.bargain(1, 0, 1), false);
        x = village(2);
        for (int farm : new int[] {0, -1, 3, 7, 8, LEAST_INT, MOST_INT}) {
            due("farm " + farm, x.bargain(farm, 0, 1), false);
        }
        due("farm 1", x.bargain(1, 0, 1), true);
        due("farm 2", x.bargain(2, 1, 1), true);
        ThreshRound all = village(7);
        due("farm 7", all.bargain(7, 0, 1), true);
        due("farm 8", all.bargain(8, 0, 1), false);
    }

    private static void bargainOfNoSuchHow() {
        ThreshRound x = goes(oneFarm(40, 0, 8, 0, 99));
        x.bargain(1, 1, 5);
        x.day(2);
        for (int how : new int[] {-1, 2, LEAST_INT, MOST_INT}) {
            due("how " + how, x.bargain(1, how, 7), false);
        }
        due("five sacks at 5 as before", x.look(1, 4), 25);
    }

    // ---- Promises 8 to 10 ----

    private static void newPlanStopsTheSet() {
        ThreshRound x = goes(oneFarm(30, 0, 8, 0, 99));
        x.day(1);
        due("20 left", x.look(1, 0), 20);
        due("a new plan", x.plan(), 0);
        due("it goes by none", x.count(6), 0);
        x.day(3);
        due("20 left still", x.look(1, 0), 20);
        due("too late for it", x.out(), false);
        goes(x).day(2);
        due("done by the next", x.look(1, 3), 5);
    }

    private static void planWithoutFarms() {
        ThreshRound x = new ThreshRound();
        due("no farms", x.plan(), NONE);
        due("none at hand", x.planned(0, 0), NONE);
        due("none to set out", x.out(), false);
        tell(x, "first 1;");
        due("no farms, though one is first", x.plan(), NONE);
    }

    private static void planWithAllDone() {
        ThreshRound x = goes(village(1));
        x.day(2);
        due("all are done", x.plan(), NONE);
        due("the one at hand stays", x.planned(0, 0), 1);
        due("it stays set out", x.out(), false);
        x.farm(10, 0, 8, 0, 0, 99);
        x.way(1, 2, 0);
        due("one that isn't", x.plan(), 0);
        dueOrder("one that isn't", x, 2);
    }

    private static void planOnTheWay() {
        ThreshRound x = village(2);
        x.way(0, 1, 2);
        x.way(0, 2, 9);
        goes(x);
        due("on the first day of the way", x.plan(), NONE);
        x.day(1);
        due("on the last day of the way", x.plan(), NONE);
        dueOrder("the one at hand stays", x, 1, 2);
        due("and the set goes on", x.count(6), 1);
        x.day(1);
        due("there", x.count(2), 0);
        due("a plan there", x.plan(), 0);
        due("from there", x.planned(0, 1), 2);
    }

    private static void planWithoutAnOrder() {
        ThreshRound x = goes(village(2));
        x.day(1);
        x.way(1, 2, NONE);
        due("no order", x.plan(), NONE);
        dueOrder("the one at hand", x, 1, 2);
        due("as it was made", x.planned(1, 1), 3);
        due("the set goes on by it", x.count(6), 3);
        x.way(1, 2, 1);
        x.day(3);
        due("to its end", x.count(5), 2);
    }

    private static void planAtHandMayStillBeSetOut() {
        ThreshRound x = village(2);
        x.plan();
        x.way(1, 2, NONE);
        due("no order", x.plan(), NONE);
        due("the one at hand", x.out(), true);
        x.day(2);
        due("1 is done", x.look(1, 3), 1);
        ThreshRound y = village(1);
        y.plan();
        y.day(1);
        y.way(0, 1, NONE);
        due("no order a day later", y.plan(), NONE);
        y.way(0, 1, 1);
        due("the one at hand is of yesterday", y.out(), false);
    }

    private static void plannedOfNoSuchFarm() {
        ThreshRound x = village(7);
        x.plan();
        due("the first", x.planned(0, 0), 1);
        due("the last", x.planned(6, 0), 7);
        for (int k : new int[] {-1, 7, 8, LEAST_INT, MOST_INT}) {
            for (int what = 0; what <= 4; what++) {
                due("planned(" + k + ", " + what + ")", x.planned(k, what), NONE);
            }
        }
    }

    private static void plannedOfAnotherWhat() {
        ThreshRound x = village(2);
        x.plan();
        for (int what : new int[] {-1, 5, 6, LEAST_INT, MOST_INT}) {
            due("planned(0, " + what + ")", x.planned(0, what), NONE);
            due("planned(1, " + what + ")", x.planned(1, what), NONE);
        }
        int[] last = {2, 3, 3, 4, 0};
        for (int what = 0; what < last.length; what++) {
            due("planned(1, " + what + ")", x.planned(1, what), last[what]);
        }
    }

    private static void plannedWithoutAPlan() {
        ThreshRound x = new ThreshRound();
        due("without farms", x.planned(0, 0), NONE);
        x.farm(10, 0, 8, 0, 0, 99);
        for (int what = -1; what <= 5; what++) {
            due("before a plan: " + what, x.planned(0, what), NONE);
        }
        x.plan();
        due("there was no order", x.planned(0, 0), NONE);
        x.way(0, 1, 0);
        x.plan();
        due("there was one", x.planned(0, 0), 1);
    }

    private static void plannedOfAShorterPlan() {
        ThreshRound x = village(3);
        x.plan();
        due("a third", x.planned(2, 0), 3);
        x.out();
        x.day(3);
        due("a third still", x.planned(2, 0), 3);
        x.plan();
        due("two of the new one", x.planned(1, 0), 3);
        for (int what = 0; what <= 4; what++) {
            due("no third: " + what, x.planned(2, what), NONE);
        }
    }

    private static void outWithoutAPlan() {
        ThreshRound x = new ThreshRound();
        due("new", x.out(), false);
        x.farm(10, 0, 8, 0, 0, 99);
        due("with a farm", x.out(), false);
        x.plan();
        due("there was no order", x.out(), false);
        x.way(0, 1, 1);
        due("with a way", x.out(), false);
        dueCounts("nothing happened", x, 0, 0, 0, 0, 1, 0, 0);
        x.plan();
        due("with a plan", x.out(), true);
    }

    private static void outASecondTime() {
        ThreshRound x = goes(village(2));
        due("at once", x.out(), false);
        dueCounts("nothing happened", x, 0, 1, 1, 0, 2, 0, 1);
        x.day(1);
        due("at the farm", x.out(), false);
        dueCounts("nothing happened at the farm", x, 1, 1, 0, 0, 2, 0, 3);
        ThreshRound y = goes(oneFarm(10, 0, 8, 0, 99));
        due("on the same day, there already", y.out(), false);
        due("it threshes on", y.count(6), 3);
        y.plan();
        due("a new plan of the same day", y.out(), true);
        due("a second time", y.out(), false);
    }

    private static void outADayTooLate() {
        ThreshRound x = village(1);
        x.plan();
        x.day(1);
        due("a day later", x.out(), false);
        dueCounts("nothing happened", x, 1, 0, 0, 0, 1, 0, 0);
        x.plan();
        x.breaks(1);
        x.day(1);
        due("a broken day later", x.out(), false);
        x.plan();
        due("no day: refused", x.day(0), NONE);
        due("100 days: refused", x.day(100), NONE);
        due("on its day", x.out(), true);
    }

    private static void outWithoutAWay() {
        ThreshRound x = village(2);
        x.plan();
        x.way(0, 1, NONE);
        due("no way to 1", x.out(), false);
        dueCounts("nothing happened", x, 0, 0, 0, 0, 2, 0, 0);
        x.way(1, 0, 6);
        x.way(1, 2, NONE);
        due("a way to 1 is enough", x.out(), true);
        due("of six days", x.count(2), 6);
        ThreshRound y = goes(village(1));
        y.day(1);
        y.plan();
        y.way(0, 1, NONE);
        due("where it is it needs none", y.out(), true);
        due("it is there", y.count(6), 3);
    }

    // ---- Promises 11 to 13 ----

    private static void breaksLimits() {
        ThreshRound x = new ThreshRound();
        due("1 day", x.breaks(1), true);
        due("1 yet", x.count(3), 1);
        due("9 days", x.breaks(9), true);
        due("9 yet", x.count(3), 9);
        x.day(9);
        due("none yet", x.count(3), 0);
        x.day(1);
        due("not below 0", x.count(3), 0);
    }

    private static void breaksReplaced() {
        ThreshRound x = new ThreshRound();
        x.breaks(9);
        x.breaks(2);
        due("less", x.count(3), 2);
        x.breaks(5);
        due("more", x.count(3), 5);
        x.day(2);
        due("3 yet", x.count(3), 3);
        due("as many again", x.breaks(5), true);
        due("5 from now on", x.count(3), 5);
    }

    private static void breaksOfOthers() {
        ThreshRound x = new ThreshRound();
        for (int days : new int[] {0, 10, -1, LEAST_INT, MOST_INT}) {
            due(days + " days", x.breaks(days), false);
        }
        due("not broken", x.count(3), 0);
        x.breaks(4);
        for (int days : new int[] {0, 10, -1, LEAST_INT, MOST_INT}) {
            due(days + " days", x.breaks(days), false);
        }
        due("4 as told", x.count(3), 4);
    }

    private static void dayLimits() {
        ThreshRound x = new ThreshRound();
        due("a day", x.day(1), 1);
        due("99 days", x.day(99), 100);
        due("it is the day", x.count(0), 100);
        ThreshRound y = goes(village(7));
        due("99 at once", y.day(99), 99);
        due("all done", y.count(5), 7);
        due("the last on", y.look(7, 3), 13);
    }

    private static void noSuchDays() {
        ThreshRound x = goes(oneFarm(100, 0, 8, 0, 99));
        x.breaks(1);
        for (int n : new int[] {0, -1, 100, LEAST_INT, MOST_INT}) {
            due(n + " days", x.day(n), NONE);
        }
        dueCounts("nothing happened", x, 0, 1, 0, 1, 1, 0, 3);
        due("nothing threshed", x.look(1, 0), 100);
    }

    private static void beyondTheLastDay() {
        ThreshRound x = oneFarm(300, 0, 0, 0, 99);
        for (int i = 1; i <= 10; i++) {
            due("99 more", x.day(99), 99 * i);
        }
        goes(x);
        x.breaks(2);
        due("10 would be 1000", x.day(10), NONE);
        due("99 would be 1089", x.day(99), NONE);
        due("the most int must not wrap around", x.day(MOST_INT), NONE);
        dueCounts("nothing happened", x, 990, 1, 0, 2, 1, 0, 3);
        due("nothing threshed", x.look(1, 0), 300);
        due("9 are 999", x.day(9), 999);
        due("7 of them threshing", x.look(1, 2), 7);
        due("none is after it", x.day(1), NONE);
        due("nothing threshed any more", x.look(1, 0), 293);
        due("it is 999", x.count(0), 999);
    }

    private static void sheavesLeftAtBothEnds() {
        ThreshRound x = goes(oneFarm(300, 0, 8, 0, 99));
        due("all of them", x.look(1, 0), 300);
        x.day(29);
        due("the last ones", x.look(1, 0), 10);
        x.day(1);
        due("none", x.look(1, 0), 0);
        x.day(9);
        due("not below 0", x.look(1, 0), 0);
    }

    private static void sacksBeforeAndAfter() {
        ThreshRound x = goes(oneFarm(19, 0, 8, 0, 99));
        due("none before", x.look(1, 1), 0);
        x.day(1);
        due("10 by 4", x.look(1, 1), 2);
        x.day(1);
        due("19 by 4", x.look(1, 1), 4);
        x.day(9);
        due("no more", x.look(1, 1), 4);
    }

    private static void daysOfThreshingAlone() {
        ThreshRound x = oneFarm(20, 0, 8, 3, 99);
        x.way(0, 1, 1);
        goes(x).day(1);
        due("none on the way", x.look(1, 2), 0);
        x.day(2);
        due("none ahead of FROM", x.look(1, 2), 0);
        x.breaks(1);
        x.day(1);
        due("none broken", x.look(1, 2), 0);
        x.day(1);
        due("one", x.look(1, 2), 1);
        x.day(9);
        due("two, and no more when it is done", x.look(1, 2), 2);
    }

    private static void doneOnNoneYet() {
        ThreshRound x = village(2);
        due("not begun", x.look(1, 3), NONE);
        x.way(0, 1, 0);
        goes(x);
        due("begun", x.look(1, 3), NONE);
        x.day(1);
        due("done on day 0", x.look(1, 3), 0);
        due("the other is not", x.look(2, 3), NONE);
    }

    private static void dearestPrice() {
        ThreshRound x = oneFarm(300, 0, 0, 0, 99);
        x.bargain(1, 0, 999);
        tell(x, "sheaves 1;");
        goes(x);
        due("no day yet", x.look(1, 4), 0);
        x.day(1);
        due("a day", x.look(1, 4), 999);
        for (int i = 0; i < 4; i++) {
            x.day(99);
        }
        due("300 days of a sheaf", x.look(1, 4), 299700);
        x.bargain(1, 1, 999);
        due("300 sacks", x.look(1, 4), 299700);
        tell(x, "sheaves 50;");
        due("6 sacks", x.look(1, 4), 5994);
    }

    private static void gangAndSpeedOfNow() {
        ThreshRound x = oneFarm(10, 0, 4, 0, 99);
        due("alone", x.look(1, 5), 4);
        due("alone: speed", x.look(1, 6), 5);
        x.farm(10, 0, 0, 3, 0, 99);
        due("with a neighbour", x.look(1, 5), 7);
        due("with a neighbour: speed", x.look(1, 6), 8);
        tell(x, "hands 2; rate 99;");
        due("by customs of now", x.look(1, 5), 2);
        due("by customs of now: speed", x.look(1, 6), 99);
        x.way(1, 2, 1);
        goes(x).day(1);
        due("of a done one, too", x.look(1, 5), 2);
    }

    private static void lossOfTheDayBehind() {
        int[] losses = {0, 0, 1, 2};
        for (int days = 0; days < losses.length; days++) {
            ThreshRound x = oneFarm(10, 0, 8, 0, 1);
            x.way(0, 1, days);
            due("as it was planned", x.plan(), losses[days]);
            x.out();
            x.day(days + 1);
            due("done on", x.look(1, 3), days);
            due("behind TO", x.look(1, 7), losses[days]);
            tell(x, "late 99;");
            due("at 99", x.look(1, 7), 99 * losses[days]);
            tell(x, "late 0;");
            due("at 0", x.look(1, 7), 0);
        }
    }

    private static void lossOfOneThatIsNotDone() {
        ThreshRound x = oneFarm(20, 0, 8, 0, 0);
        x.day(50);
        due("not begun", x.look(1, 7), 0);
        goes(x).day(1);
        due("not done", x.look(1, 7), 0);
        x.day(1);
        due("done", x.look(1, 7), 51);
    }

    private static void lookAtNoSuchFarm() {
        ThreshRound x = village(2);
        for (int farm : new int[] {0, -1, 3, 7, 8, LEAST_INT, MOST_INT}) {
            for (int what = 0; what <= 7; what++) {
                due("look(" + farm + ", " + what + ")", x.look(farm, what), NONE);
            }
        }
        ThreshRound all = village(7);
        due("farm 7", all.look(7, 0), 10);
        due("farm 8", all.look(8, 0), NONE);
    }

    private static void lookAtNoSuchThing() {
        ThreshRound x = village(2);
        for (int what : new int[] {-1, 8, 9, LEAST_INT, MOST_INT}) {
            due("look(1, " + what + ")", x.look(1, what), NONE);
            due("look(3, " + what + ")", x.look(3, what), NONE);
        }
        int[] first = {10, 0, 0, NONE, 0, 8, 10, 0};
        for (int what = 0; what < first.length; what++) {
            due("look(1, " + what + ")", x.look(1, what), first[what]);
        }
    }

    // ---- Promises 14 to 16 ----

    private static void debtsThatTurnRound() {
        // 1 has 4 of 2 for two days, then 2 has 6 of 1 for three
        ThreshRound x = new ThreshRound();
        x.farm(20, 0, 4, 6, 0, 99);
        x.farm(21, 0, 2, 4, 0, 99);
        x.way(0, 1, 0);
        x.way(1, 2, 0);
        goes(x);
        int[] owed = {4, 8, 2, -4, -10, -10};
        for (int day = 0; day < owed.length; day++) {
            x.day(1);
            due("behind day " + day, x.owed(1, 2), owed[day]);
            due("the other way round", x.owed(2, 1), -owed[day]);
        }
    }

    private static void owedOfNoSuchFarms() {
        ThreshRound x = village(2);
        for (int farm : new int[] {0, -1, 3, 7, 8, LEAST_INT, MOST_INT}) {
            due("1 to " + farm, x.owed(1, farm), LEAST_INT);
            due(farm + " to 1", x.owed(farm, 1), LEAST_INT);
        }
        due("1 to 2", x.owed(1, 2), 0);
        ThreshRound all = village(7);
        due("6 to 7", all.owed(6, 7), 0);
        due("7 to 8", all.owed(7, 8), LEAST_INT);
        due("of none", new ThreshRound().owed(1, 2), LEAST_INT);
    }

    private static void owedToItself() {
        ThreshRound x = village(7);
        for (int p = 0; p <= 8; p++) {
            due(p + " to itself", x.owed(p, p), LEAST_INT);
        }
    }

    private static void lentByDoneFarms() {
        ThreshRound x = new ThreshRound();
        x.farm(10, 0, 8, 5, 0, 99);
        x.farm(10, 0, 0, 0, 0, 99);
        x.way(0, 1, 0);
        x.way(1, 2, 0);
        due("none of one that lends none", x.lent(1, 2), 0);
        due("all that it lends", x.lent(2, 1), 5);
        goes(x).day(1);
        due("1 is done", x.count(5), 1);
        due("a done one lends, too", x.lent(2, 1), 5);
        tell(x, "hands 2;");
        due("no more than hands says", x.lent(2, 1), 2);
    }

    private static void lentByNoSuchFarms() {
        ThreshRound x = village(2);
        for (int farm : new int[] {0, -1, 3, 7, 8, LEAST_INT, MOST_INT}) {
            due("to 1 by " + farm, x.lent(1, farm), NONE);
            due("to " + farm + " by 1", x.lent(farm, 1), NONE);
        }
        due("to 1 by 2", x.lent(1, 2), 0);
        ThreshRound all = village(7);
        due("to 6 by 7", all.lent(6, 7), 0);
        due("to 7 by 8", all.lent(7, 8), NONE);
        due("of none", new ThreshRound().lent(1, 2), NONE);
    }

    private static void lentToItself() {
        ThreshRound x = village(7);
        for (int p = 0; p <= 8; p++) {
            due("to " + p + " by itself", x.lent(p, p), NONE);
        }
    }

    private static void placeOnTheWay() {
        ThreshRound x = village(2);
        due("at the yard", x.count(1), 0);
        x.plan();
        due("at the yard with a plan", x.count(1), 0);
        x.out();
        due("on the way to 1", x.count(1), 1);
        x.day(1);
        due("at 1", x.count(1), 1);
        x.day(1);
        due("on the way to 2", x.count(1), 2);
        x.day(2);
        due("at 2, at its end", x.count(1), 2);
    }

    private static void daysYetDownToNone() {
        ThreshRound x = village(1);
        x.way(0, 1, 9);
        goes(x);
        x.breaks(9);
        due("9 on the way", x.count(2), 9);
        due("9 broken", x.count(3), 9);
        x.day(9);
        due("9 on the way still", x.count(2), 9);
        due("none broken", x.count(3), 0);
        x.day(8);
        due("1 on the way", x.count(2), 1);
        x.day(1);
        due("none on the way", x.count(2), 0);
        x.day(5);
        due("not below 0: on the way", x.count(2), 0);
        due("not below 0: broken", x.count(3), 0);
    }

    private static void farmsFromNoneToSeven() {
        ThreshRound x = new ThreshRound();
        due("none", x.count(4), 0);
        for (int f = 1; f <= 7; f++) {
            x.farm(10, 0, 8, 0, 0, 99);
            x.way(f - 1, f, 0);
            due("farms", x.count(4), f);
        }
        due("an eighth", x.farm(10, 0, 8, 0, 0, 99), NONE);
        due("farms still", x.count(4), 7);
        due("none is done", x.count(5), 0);
        goes(x);
        for (int f = 1; f <= 7; f++) {
            x.day(1);
            due("done", x.count(5), f);
        }
        due("farms when all are done", x.count(4), 7);
    }

    private static void howItIsWithoutAPlan() {
        ThreshRound x = village(1);
        due("new", x.count(6), 0);
        x.plan();
        due("not set out", x.count(6), 0);
        x.day(1);
        due("never set out", x.count(6), 0);
        goes(x).day(1);
        due("at the farm", x.count(6), 3);
        x.plan();
        due("a new plan at the farm", x.count(6), 0);
        x.out();
        due("set out there", x.count(6), 3);
        x.day(1);
        due("at its end", x.count(6), 0);
    }

    private static void howItIsFromDayToDay() {
        ThreshRound x = oneFarm(20, 0, 8, 3, 99);
        x.way(0, 1, 2);
        goes(x);
        int[] how = {1, 1, 2, 3, 3, 0};
        for (int day = 0; day < how.length; day++) {
            due("on day " + day, x.count(6), how[day]);
            x.day(1);
        }
        ThreshRound y = oneFarm(10, 0, 8, 2, 99);
        y.way(0, 1, 2);
        goes(y).day(2);
        due("there on FROM", y.count(6), 3);
        y.breaks(1);
        due("broken while threshing", y.count(6), 3);
    }

    private static void countOfAnotherWhat() {
        ThreshRound x = village(1);
        for (int what : new int[] {-1, 7, 8, LEAST_INT, MOST_INT}) {
            due("count(" + what + ")", x.count(what), NONE);
        }
        for (int what = 0; what <= 6; what++) {
            due("count(" + what + ")", x.count(what), what == 4 ? 1 : 0);
        }
    }
}
