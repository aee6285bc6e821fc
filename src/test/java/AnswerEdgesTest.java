import java.time.LocalDate;
import java.time.temporal.ChronoUnit;

/**
 * Section 3: PAIRS, conditions, VALUES, FAILURES and the rows of an answer; each sentence that names an edge, on both
 * sides of it. Every question is asked and scanned.
 */
public final class AnswerEdgesTest extends LedgerTest {
    private static final long MOST = Long.MAX_VALUE, LEAST = Long.MIN_VALUE;
    private static final long E15 = 1000000000000000L;
    private static final String[] SIGNS = {"=", "<>", "<", "<=", ">", ">="};
    /** A condition that is false, neither, true for a ROW whose COLUMN 1 is MISSING. */
    private static final String[] TRUTHS = {"1 = 2", "c1 = 1", "1 = 1"};
    private static final String FAILING = "1 / 0 = 1";

    public static void main(String[] args) {
        Due.by("each ROW of the first TABLE, in order", AnswerEdgesTest::noRows);
        Due.by("with join each with each ROW of the joined one, in order", AnswerEdgesTest::eachWithEach);
        Due.by("whose COLUMN of on is equal (none is MISSING)", AnswerEdgesTest::equalAndNotMissing);
        Due.by("comparisons with what is MISSING, and not of that, are neither", AnswerEdgesTest::neither);
        Due.by("is missing always is one", AnswerEdgesTest::isMissingAlwaysIsOne);
        Due.by("and: up to the first that is false; or: up to the first that is true; else neither, if one is neither",
                AnswerEdgesTest::truthTables);
        Due.by("up to the first that is false, true: what is behind is not asked", AnswerEdgesTest::whatIsAsked);
        Due.by("Both sides of a comparison are asked for, from the left", AnswerEdgesTest::bothSides);
        Due.by("0 and -0 are equal", AnswerEdgesTest::zeroes);
        Due.by("comparisons at the edges of 64 bits", AnswerEdgesTest::comparedWholes);
        Due.by("a WHOLE beside a REAL becomes REAL", AnswerEdgesTest::wholesBesideReals);
        Due.by("MISSING, if one that they are of is", AnswerEdgesTest::missingIfOneIs);
        Due.by("what is MISSING meets none", AnswerEdgesTest::missingMeetsNone);
        Due.by("WHOLE: + - * and - ahead go round (64 bits)", AnswerEdgesTest::goRound);
        Due.by("/ and % as Java's", AnswerEdgesTest::asJavas);
        Due.by("REAL: by one rounding each", AnswerEdgesTest::roundings);
        Due.by("the bits of the double, down to the least one", AnswerEdgesTest::leastReals);
        Due.by("- ahead turns the sign (of 0, too)", AnswerEdgesTest::turnsTheSign);
        Due.by("int: it, if it has 32 bits; NARROW", AnswerEdgesTest::ints);
        Due.by("whole: cut off", AnswerEdgesTest::cutOff);
        Due.by("real: the nearest", AnswerEdgesTest::nearest);
        Due.by("year, month (1 .. 12), weekday (0 Monday)", AnswerEdgesTest::days);
        Due.by("the DAY of that number (all months)", AnswerEdgesTest::allMonths);
        Due.by("NARROW: year, month, weekday of no DAY", AnswerEdgesTest::noDays);
        Due.by("2 INDEX: look at no place 0 .. 9", AnswerEdgesTest::places);
        Due.by("1 ZERO: / or % by 0 (also REAL 0)", AnswerEdgesTest::zero);
        Due.by("4 LARGE: a REAL (of an act, real) below -10^15 or above 10^15", AnswerEdgesTest::largeReals);
        Due.by("4 LARGE: or a sum of REALS", AnswerEdgesTest::largeSumsOfReals);
        Due.by("4 LARGE: a sum of WHOLES beyond 64 bits", AnswerEdgesTest::largeSumsOfWholes);
        Due.by("In a sum the first that is met, from the left, within first", AnswerEdgesTest::firstThatIsMet);
        Due.by("Items of a CHOSEN PAIR are asked for from the left", AnswerEdgesTest::itemsFromTheLeft);
        Due.by("A FAILURE in one with or missing makes it MISSING", AnswerEdgesTest::orMissing);
        Due.by("one in a condition (there the item is NONE), ends the question", AnswerEdgesTest::failureOfACondition);
        Due.by("a row of the answer for each CHOSEN PAIR", AnswerEdgesTest::rowsOfChosenPairs);
        Due.by("one for each group (equal VALUES, MISSING ones alike) in the order of first PAIRS", AnswerEdgesTest::groups);
        Due.by("with count .. and no group just one; of none MISSING", AnswerEdgesTest::justOne);
        Due.by("sum: all that are not MISSING, one behind the other", AnswerEdgesTest::sums);
        Due.by("least, most likewise", AnswerEdgesTest::leastAndMost);
        Due.by("TOO MANY: a 101st row", AnswerEdgesTest::row101);
        Due.by("ahead of order, top", AnswerEdgesTest::aheadOfTop);
        Due.by("of groups, too", AnswerEdgesTest::group101);
        Due.by("a 101st row beside FAILURES", AnswerEdgesTest::row101AndFailures);
        Due.by("order: rising by that item, MISSING last, else as they were", AnswerEdgesTest::rising);
        Due.by("down: falling, MISSING last, else as they were", AnswerEdgesTest::falling);
        Due.by("top: the first so many rows", AnswerEdgesTest::top);
        Due.end();
    }

    /** t0 with one LONG COLUMN, and one ROW. */
    private static ElevatorLedger whole(long v) {
        return ledger(sorts(1), of(v));
    }

    private static void gives(long v, String sum, long due) {
        answers(whole(v), "from t0 give " + sum, of(due));
    }

    private static void givesReal(long v, String sum, double due) {
        gives(v, sum, Due.bits(due));
    }

    private static void fails(long v, String sum, int failure) {
        fails(whole(v), "from t0 give " + sum, failure, 0, 0);
    }

    /** What a condition is for a ROW of 7 and MISSING: -1 false, 0 neither, 1 true. */
    private static void says(int due, String condition) {
        ElevatorLedger ledger = ledger(sorts(0, 0), of(7, GAP));
        answers(ledger, "from t0 where " + condition + " give count", of(due > 0 ? 1 : 0));
        answers(ledger, "from t0 where not (" + condition + ") give count", of(due < 0 ? 1 : 0));
    }

    private static void conditionFails(String condition) {
        fails(ledger(sorts(0, 0), of(7, GAP)), "from t0 where " + condition + " give c0", ZERO, 0, NONE);
    }

    private static void noRows() {
        ElevatorLedger ledger = ledger(sorts(0));
        add(ledger, sorts(0), of(1));
        add(ledger, sorts(0), of(2), of(1), of(3));
        String[] none = {"from t0 give c0", "from t0 give 1 / 0", "from t0 where 1 / 0 = 1 give c0", "from t0 group c0 give count",
            "from t0 join t1 on c0 = d0 give c0", "from t1 join t0 on c0 = d0 give c0", "from t1 where c0 = 2 give c0"};
        for (String text : none) {
            answers(ledger, text);
        }
        answers(ledger, "from t0 give count, least(c0)", of(0, GAP));
        answers(ledger, "from t1 give c0", of(1));
        answers(ledger, "from t2 give c0", of(2), of(1), of(3));
        looksAt(ledger, "from t0 join t1 on c0 = d0 give count", 0, 0);
        looksAt(ledger, "from t2 where c0 > 9 give c0", 3, 3);
    }

    private static void eachWithEach() {
        ElevatorLedger ledger = ledger(sorts(0));
        add(ledger, sorts(3));
        for (int i = 0; i < 40; i++) {
            ledger.row(0);
            ledger.put(0, i, 0, i % 2);
        }
        answers(ledger, "from t0 join t0 on c0 = d0 give count", of(800));
        looksAt(ledger, "from t0 join t0 on c0 = d0 where d0 = d0 give count", 800, 800);
        for (int i = 1; i < 40; i += 2) {
            ledger.put(0, i, 0, 0);
        }
        answers(ledger, "from t0 join t0 on c0 = d0 give count, sum(c0), most(d0)", of(1600, 0, 0));
        ElevatorLedger order = ledger(sorts(0, 0), of(1, 10), of(2, 20), of(1, 30));
        answers(order, "from t0 join t0 on c0 = d0 give c1, d1", of(10, 10), of(10, 30), of(20, 20), of(30, 10), of(30, 30));
    }

    private static void equalAndNotMissing() {
        int[] fitting = {0, 1, 3, 4, 5, 6};
        for (int sort : fitting) {
            long v = sort == 5 ? Due.text("a") : 1;
            ElevatorLedger ledger = ledger(sorts(sort, 0), of(v, 10), of(GAP, 20), of(0, 30));
            add(ledger, sorts(sort, 0), of(GAP, 1), of(0, 2), of(v, 3), of(GAP, 4));
            answers(ledger, "from t0 join t1 on c0 = d0 give c1, d1", of(10, 3), of(30, 2));
            looksAt(ledger, "from t0 join t1 on c0 = d0 give count", 2, 2);
        }
        ElevatorLedger edges = ledger(sorts(1), of(LEAST), of(MOST), of(LEAST + 1));
        answers(edges, "from t0 join t0 on c0 = d0 give count", of(3));
    }

    private static void neither() {
        for (String sign : SIGNS) {
            says(0, "c1 " + sign + " 7");
            says(0, "7 " + sign + " c1");
            says(0, "c1 " + sign + " c1");
            says(0, "c1 " + sign + " 0.5");
            says(0, "not c1 " + sign + " 7");
            says(0, "not not c1 " + sign + " 7");
            says(0, "c0 " + sign + " c0 + c1");
        }
        ElevatorLedger texts = ledger(sorts(5), of(GAP));
        for (String sign : SIGNS) {
            answers(texts, "from t0 where c0 " + sign + " '' or not c0 " + sign + " '' give count", of(0));
        }
    }

    private static void isMissingAlwaysIsOne() {
        says(1, "c1 is missing");
        says(-1, "c0 is missing");
        says(1, "c0 + c1 is missing");
        says(-1, "not c1 is missing");
        says(1, "not c0 is missing");
        says(-1, "0 is missing");
        says(-1, "0.0 is missing");
        says(-1, "'' is missing");
        says(1, "int(c1) is missing");
        says(1, "-c1 is missing");
        conditionFails("1 / 0 is missing");
    }

    private static int and(int left, int right) {
        return Math.min(left, right);
    }

    private static int or(int left, int right) {
        return Math.max(left, right);
    }

    private static void truthTables() {
        for (int a = -1; a <= 1; a++) {
            String first = TRUTHS[a + 1];
            says(a, first);
            says(-a, "not " + first);
            for (int b = -1; b <= 1; b++) {
                String second = TRUTHS[b + 1];
                says(and(a, b), first + " and " + second);
                says(or(a, b), first + " or " + second);
                for (int c = -1; c <= 1; c++) {
                    String third = TRUTHS[c + 1];
                    says(and(and(a, b), c), first + " and " + second + " and " + third);
                    says(or(or(a, b), c), first + " or " + second + " or " + third);
                    says(or(a, and(b, c)), first + " or " + second + " and " + third);
                    says(or(and(a, b), c), first + " and " + second + " or " + third);
                    says(and(a, or(b, c)), first + " and (" + second + " or " + third + ")");
                }
            }
        }
    }

    private static void whatIsAsked() {
        says(-1, "1 = 2 and " + FAILING);
        says(-1, "1 = 1 and 1 = 2 and " + FAILING);
        says(-1, "c1 = 1 and 1 = 2 and " + FAILING);
        says(-1, "1 = 2 and (" + FAILING + " or 1 = 1)");
        says(1, "1 = 1 or " + FAILING);
        says(1, "1 = 2 or 1 = 1 or " + FAILING);
        says(1, "c1 = 1 or 1 = 1 or " + FAILING);
        says(1, "1 = 2 and " + FAILING + " or 1 = 1");
        says(1, "1 = 1 or 1 = 1 and " + FAILING);
        conditionFails(FAILING);
        conditionFails("1 = 1 and " + FAILING);
        conditionFails("1 = 2 or " + FAILING);
        conditionFails("c1 = 1 and " + FAILING);
        conditionFails("c1 = 1 or " + FAILING);
        conditionFails(FAILING + " and 1 = 2");
        conditionFails(FAILING + " or 1 = 1");
        conditionFails("1 = 2 and 1 = 1 or " + FAILING);
        conditionFails("not " + FAILING);
    }

    private static void bothSides() {
        conditionFails("c1 = 1 / 0");
        conditionFails("1 / 0 = c1");
        ElevatorLedger ledger = ledger(sorts(0, 0), of(7, GAP));
        fails(ledger, "from t0 where int(9999999999) = 1 / 0 give c0", NARROW, 0, NONE);
        fails(ledger, "from t0 where 1 / 0 = int(9999999999) give c0", ZERO, 0, NONE);
        fails(ledger, "from t0 where c1 < look(0, 10) give c0", INDEX, 0, NONE);
    }

    private static void zeroes() {
        boolean[] due = {true, false, false, true, false, true};
        String[][] pairs = {{"0.0", "-0.0"}, {"-0.0", "0.0"}, {"0", "-0.0"}, {"-0.0", "0"}, {"-0.0", "-0.0"}};
        for (String[] pair : pairs) {
            for (int i = 0; i < SIGNS.length; i++) {
                says(due[i] ? 1 : -1, pair[0] + " " + SIGNS[i] + " " + pair[1]);
            }
        }
    }

    private static void compared(long left, long right) {
        int way = Long.compare(left, right);
        boolean[] due = {way == 0, way != 0, way < 0, way <= 0, way > 0, way >= 0};
        ElevatorLedger ledger = ledger(sorts(1, 1), of(left, right));
        for (int i = 0; i < SIGNS.length; i++) {
            answers(ledger, "from t0 where c0 " + SIGNS[i] + " c1 give count", of(due[i] ? 1 : 0));
        }
    }

    private static void comparedWholes() {
        long[] values = {LEAST, LEAST + 1, -1, 0, 1, 1L << 32, MOST - 1, MOST};
        for (long left : values) {
            for (long right : values) {
                compared(left, right);
            }
        }
    }

    private static void wholesBesideReals() {
        says(1, "1 = 1.0");
        says(1, "1.0 = 1");
        says(-1, "1 = 1.001");
        says(1, "1 < 1.001");
        says(1, "0.999 < 1");
        says(-1, "1 > 1.0");
        // It becomes the nearest REAL, and that is no FAILURE, however large it is.
        answers(whole(MOST), "from t0 where c0 > 1.5 and -c0 < 0.5 give count", of(1));
        long odd = (1L << 53) + 1;
        givesReal(odd, "c0 / 1048576.0", (double) odd / 1048576.0);
        givesReal(odd + 2, "c0 / 1048576.0", (double) (odd + 2) / 1048576.0);
        givesReal(MOST, "c0 / 1048576.0", 8796093022208.0);
        givesReal(LEAST, "c0 / 1048576.0", -8796093022208.0);
        givesReal(MOST, "c0 * 0.0", 0.0);
        Due.holds("the test rounds", (double) odd == (double) (odd - 1) && (double) (odd + 2) == (double) (odd + 3));
    }

    private static void missingIfOneIs() {
        ElevatorLedger ledger = ledger(sorts(0, 0, 2), of(7, GAP, GAP));
        String[] sums = {"c1 + 1", "1 + c1", "c1 - 1", "1 - c1", "c1 * 0", "0 * c1", "c1 / 1", "1 / c1", "c1 % 1", "1 % c1",
            "-c1", "{c1}", "int(c1)", "real(c1)", "whole(c2)", "year(c1)", "month(c1)", "weekday(c1)", "look(0, c1)",
            "c2 + 1", "1.0 - c2", "c2 * 0.0", "0.0 / c2", "c0 + c0 + c0 + c1", "c1 + c1", "-c2", "c2 * c1"};
        for (int i = 0; i < sums.length; i += 3) {
            answers(ledger, "from t0 give " + sums[i] + ", " + sums[i + 1] + ", " + sums[i + 2], of(GAP, GAP, GAP));
        }
    }

    private static void missingMeetsNone() {
        ElevatorLedger ledger = ledger(sorts(1, 1, 2), of(MOST, GAP, GAP));
        answers(ledger, "from t0 give c1 / 0, c1 % 0, c2 / 0, c1 / 0.0, c2 / -0.0", of(GAP, GAP, GAP, GAP, GAP));
        answers(ledger, "from t0 give look(0, c1), look(0, c1 + 10), int(c1 + c0), year(c1 + c0), real(c1 + c0)",
                of(GAP, GAP, GAP, GAP, GAP));
        answers(ledger, "from t0 give c0 * {c2 + 1.0}, c2 * c0", of(GAP, GAP));
        answers(ledger, "from t0 give sum(c1 / 0), least(look(0, c1)), most(c2 / 0)", of(GAP, GAP, GAP));
        // But what is not MISSING, and stands beside it, does.
        fails(ledger, "from t0 give c1 + 1 / 0", ZERO, 0, 0);
        fails(ledger, "from t0 give 1 / 0 + c1", ZERO, 0, 0);
        fails(ledger, "from t0 give c1 * look(0, 10)", INDEX, 0, 0);
        fails(ledger, "from t0 give c2 - real(c0)", LARGE, 0, 0);
    }

    private static void goRound() {
        gives(MOST, "c0 + 1", LEAST);
        gives(MOST, "c0 + 0", MOST);
        gives(MOST, "c0 + c0", -2);
        gives(LEAST, "c0 - 1", MOST);
        gives(LEAST, "c0 - 0", LEAST);
        gives(MOST, "-1 - c0", LEAST);
        gives(MOST, "-2 - c0", MOST);
        gives(LEAST, "-c0", LEAST);
        gives(LEAST + 1, "-c0", MOST);
        gives(MOST, "-c0", LEAST + 1);
        gives(LEAST, "c0 * -1", LEAST);
        gives(LEAST, "0 - c0", LEAST);
        gives(1L << 31, "c0 * c0 * 2", LEAST);
        gives(1L << 32, "c0 * c0", 0);
        gives(3037000499L, "c0 * c0", 3037000499L * 3037000499L);
        gives(3037000500L, "c0 * c0", 3037000500L * 3037000500L);
        Due.holds("the last one goes round", 3037000500L * 3037000500L < 0);
    }

    private static void asJavas() {
        long[] values = {LEAST, LEAST + 1, -7, -2, -1, 0, 1, 2, 7, MOST};
        for (long left : values) {
            for (long right : values) {
                ElevatorLedger ledger = ledger(sorts(1, 1), of(left, right));
                if (right == 0) {
                    fails(ledger, "from t0 give c0 / c1", ZERO, 0, 0);
                    fails(ledger, "from t0 give c0 % c1", ZERO, 0, 0);
                } else {
                    answers(ledger, "from t0 give c0 / c1, c0 % c1", of(left / right, left % right));
                }
            }
        }
    }

    private static void roundings() {
        givesReal(1, "0.1 + 0.2", 0.1 + 0.2);
        givesReal(1, "0.3 - 0.1", 0.3 - 0.1);
        givesReal(1, "0.1 * 3", 0.1 * 3);
        givesReal(1, "0.1 * 3 - 0.3", 0.1 * 3 - 0.3);
        givesReal(3, "1.0 / c0 * c0", 1.0 / 3 * 3);
        givesReal(1, "1.0 / 49 * 49", 1.0 / 49 * 49);
        givesReal(1, "0.1 + 0.2 + 0.3", 0.1 + 0.2 + 0.3);
        givesReal(1, "0.1 + {0.2 + 0.3}", 0.1 + (0.2 + 0.3));
        givesReal(1, "999999999.999 * 999999.999", 999999999.999 * 999999.999);
        givesReal(1, "123456789.123 + 0.001", 123456789.123 + 0.001);
    }

    private static void leastReals() {
        // 2^-1054 by 17 divisions, the least double of full precision being 2^-1022, and the least one 2^-1074.
        String tiny = "1.0" + "/c0".repeat(17);
        double x = 0x1p-1054;
        long v = 1L << 62;
        givesReal(v, tiny, x);
        givesReal(v, "-" + tiny + "*1.375", -x * 1.375);
        givesReal(v, tiny + "*{0.5*0.5*0.5*0.5}*{0.5*0.5*0.5*0.5}", 0x1p-1062);
        givesReal(v, tiny + "/1048576", Double.MIN_VALUE);
        givesReal(v, tiny + "/1048576/2", 0.0);
        givesReal(v, "-" + tiny + "/1048576/2", -0.0);
        givesReal(v, "1.0" + "/c0".repeat(16) + "*2.0*{{32768*32768}*1.0}/2", 0x1p-962);
        givesReal(v, "1.0" + "/c0".repeat(16) + "/1073741824", Double.MIN_NORMAL);
        givesReal(v, "1.0" + "/c0".repeat(16) + "/1073741824*0.999", Double.MIN_NORMAL * 0.999);
        givesReal(v, "1.0" + "/c0".repeat(16) + "/1073741824*1.001", Double.MIN_NORMAL * 1.001);
    }

    private static void turnsTheSign() {
        givesReal(0, "-0.0", -0.0);
        givesReal(0, "- -0.0", 0.0);
        givesReal(0, "-{c0 * 1.0}", -0.0);
        givesReal(0, "0.0 - 0.0", 0.0);
        givesReal(0, "-0.0 + 0.0", 0.0);
        givesReal(0, "-0.0 - 0.0", -0.0);
        givesReal(0, "-real(c0)", -0.0);
        givesReal(0, "real(-c0)", 0.0);
        givesReal(0, "0 * -1.0", -0.0);
        givesReal(0, "-1.5", -1.5);
        gives(0, "-c0", 0);
        gives(0, "whole(-0.0)", 0);
        ElevatorLedger column = ledger(sorts(2), of(0));
        answers(column, "from t0 give c0, -c0, - -c0", of(0, Due.bits(-0.0), 0));
    }

    private static void ints() {
        gives(2147483647, "int(c0)", 2147483647);
        gives(-2147483648, "int(c0)", -2147483648);
        gives(0, "int(c0)", 0);
        long[] narrow = {2147483648L, -2147483649L, 1L << 32, LEAST, MOST, (1L << 32) + 5};
        for (long v : narrow) {
            fails(v, "int(c0)", NARROW);
        }
    }

    private static void cutOff() {
        String[] reals = {"1.999", "-1.999", "0.999", "-0.999", "1.0", "-1.0", "999999999.999", "0.0"};
        long[] due = {1, -1, 0, 0, 1, -1, 999999999, 0};
        for (int i = 0; i < reals.length; i++) {
            gives(0, "whole(" + reals[i] + ")", due[i]);
        }
        gives(E15, "whole(c0 * 1.0)", E15);
        gives(-E15, "whole(c0 * 1.0)", -E15);
        gives(E15 - 1, "whole(c0 + 0.875)", E15 - 1);
        gives(4294967296L, "whole(c0 * 1.5)", 6442450944L);
    }

    private static void nearest() {
        long[] wholes = {0, 1, -1, 123456789012345L, E15 - 1, 1 - E15, E15, -E15, 1L << 49, Integer.MIN_VALUE};
        for (long v : wholes) {
            givesReal(v, "real(c0)", (double) v);
            gives(v, "whole(real(c0))", v);
        }
    }

    private static void day(long day, int year, int month, int weekday) {
        answers(whole(day), "from t0 give year(c0), month(c0), weekday(c0)", of(year, month, weekday));
    }

    private static void days() {
        day(0, 2000, 1, 5);
        day(-1, 1999, 12, 4);
        day(1, 2000, 1, 6);
        day(2, 2000, 1, 0);
        int[] lengths = {31, 29, 31, 30, 31, 30, 31, 31, 30, 31, 30, 31};
        long first = 0;
        for (int month = 1; month <= 12; month++) {
            day(first, 2000, month, (int) ((first + 5) % 7));
            first += lengths[month - 1];
            day(first - 1, 2000, month, (int) ((first + 4) % 7));
        }
        day(366, 2001, 1, 0);
        // Years of 100 without a February 29, and of 400 with one.
        day(-36466, 1900, 2, 2);
        day(-36465, 1900, 3, 3);
        day(36583, 2100, 2, 6);
        day(36584, 2100, 3, 0);
        day(146156, 2400, 2, 1);
        day(146157, 2400, 3, 2);
        day(-146038, 1600, 2, 1);
        day(-146098, 1599, 12, 4);
        day(-307, 1999, 2, 6);
        day(-306, 1999, 3, 0);
    }

    /** The first and the last day of each month that has DAYS. */
    private static void allMonths() {
        LocalDate zero = LocalDate.of(2000, 1, 1);
        LocalDate first = LocalDate.of(904, 12, 1);
        ElevatorLedger ledger = null;
        for (int i = 0; first.isBefore(LocalDate.of(3095, 3, 1)); i++) {
            if (i % 30 == 0) {
                ledger = whole(0);
                Due.read(ledger, "from t0 give year(c0), month(c0), weekday(c0)");
            }
            LocalDate next = first.plusMonths(1);
            isDay(ledger, zero, first);
            isDay(ledger, zero, next.minusDays(1));
            first = next;
        }
    }

    private static void isDay(ElevatorLedger ledger, LocalDate zero, LocalDate date) {
        ledger.put(0, 0, 0, ChronoUnit.DAYS.between(zero, date));
        ledger.ask(0);
        Due.is("year of " + date, ledger.cell(0, 0, 0), date.getYear());
        Due.is("month of " + date, ledger.cell(0, 0, 1), date.getMonthValue());
        Due.is("weekday of " + date, ledger.cell(0, 0, 2), date.getDayOfWeek().ordinal());
    }

    private static void noDays() {
        String[] words = {"year", "month", "weekday"};
        long[][] due = {of(3095, 904), of(3, 11), of(4, 6)};
        for (int i = 0; i < words.length; i++) {
            gives(400000, words[i] + "(c0)", due[i][0]);
            gives(-400000, words[i] + "(c0)", due[i][1]);
            long[] none = {400001, -400001, 1L << 32, -(1L << 32), MOST, LEAST};
            for (long v : none) {
                fails(v, words[i] + "(c0)", NARROW);
            }
        }
    }

    private static void places() {
        for (int look = 0; look < 3; look++) {
            gives(0, "look(" + look + ", c0)", 0);
            gives(9, "look(" + look + ", c0)", 0);
            long[] none = {-1, 10, 1L << 32, -(1L << 32), (1L << 32) + 5, MOST, LEAST};
            for (long v : none) {
                fails(v, "look(" + look + ", c0)", INDEX);
            }
        }
        ElevatorLedger ledger = ledger(sorts(0), of(0), of(9));
        ledger.look(1, 0, 11);
        ledger.look(1, 9, 12);
        answers(ledger, "from t0 give look(0, c0), look(1, c0), look(2, c0)", of(0, 11, 0), of(0, 12, 0));
    }

    private static void zero() {
        String[] failing = {"1 / c0", "1 % c0", "c0 / c0", "c0 % c0", "1.0 / c0", "1 / 0.0", "1.5 / 0.0", "0.0 / 0.0",
            "1.5 / -0.0", "1 / {c0 * 1.5}", "-1 / c0", "1 / -c0"};
        for (String each : failing) {
            fails(0, each, ZERO);
        }
        gives(1, "0 / c0", 0);
        gives(1, "0 % c0", 0);
        gives(-1, "5 / c0", -5);
        gives(-1, "5 % c0", 0);
        givesReal(1, "0.0 / c0", 0.0);
        givesReal(-1, "0.0 / c0", -0.0);
        givesReal(1, "1.5 / 0.001", 1.5 / 0.001);
        givesReal(1, "c0 / -0.001", 1 / -0.001);
    }

    private static void largeReals() {
        givesReal(E15, "real(c0)", 1e15);
        givesReal(-E15, "real(c0)", -1e15);
        fails(E15 + 1, "real(c0)", LARGE);
        fails(-E15 - 1, "real(c0)", LARGE);
        fails(MOST, "real(c0)", LARGE);
        fails(LEAST, "real(c0)", LARGE);
        givesReal(E15 - 1, "c0 + 1.0", 1e15);
        fails(E15 - 1, "c0 + 1.125", LARGE);
        fails(E15, "c0 + 0.125", LARGE);
        givesReal(1 - E15, "c0 - 1.0", -1e15);
        fails(1 - E15, "c0 - 1.125", LARGE);
        fails(1 - E15, "c0 + -1.125", LARGE);
        givesReal(E15, "c0 * 1.0", 1e15);
        givesReal(E15, "c0 * -1.0", -1e15);
        fails(E15 + 1, "c0 * 1.0", LARGE);
        fails(E15 + 1, "c0 * -1.0", LARGE);
        givesReal(E15, "c0 / 1.0", 1e15);
        givesReal(E15, "c0 / -1.0", -1e15);
        fails(E15 + 1, "c0 / 1.0", LARGE);
        fails(E15, "c0 / 0.999", LARGE);
        givesReal(E15, "-{c0 * 1.0}", -1e15);
        // It is looked at behind each act, and never of WHOLES.
        fails(E15, "c0 + 1.0 - 2", LARGE);
        fails(E15, "c0 * 2.0 / 2", LARGE);
        gives(E15, "c0 * 2", 2 * E15);
        gives(MOST, "c0", MOST);
        givesReal(MOST, "c0 / 100000.0", (double) MOST / 100000.0);
    }

    private static void largeSumsOfReals() {
        ElevatorLedger ledger = ledger(sorts(1, 2), of(E15 - 1, 0), of(1, 0), of(GAP, GAP), of(0, 1), of(-1, 0));
        answers(ledger, "from t0 where c0 > 0 give sum(c0 * 1.0), sum(c0 * -1.0)", of(Due.bits(1e15), Due.bits(-1e15)));
        fails(ledger, "from t0 give sum(c0 * 1.0 + c1)", LARGE, 3, 0);
        fails(ledger, "from t0 give count, sum(c0 * -1.0 - c1)", LARGE, 3, 1);
        // One behind the other: it fails, though all of them would not.
        ElevatorLedger partial = ledger(sorts(1), of(E15), of(1), of(-1));
        fails(partial, "from t0 give sum(real(c0))", LARGE, 1, 0);
        answers(partial, "from t0 where c0 <> 1 give sum(real(c0))", of(Due.bits(1e15 - 1)));
        answers(partial, "from t0 give least(real(c0)), most(real(c0))", of(Due.bits(-1), Due.bits(1e15)));
    }

    private static void largeSumsOfWholes() {
        ElevatorLedger ledger = ledger(sorts(1), of(MOST - 1), of(1), of(GAP), of(0), of(1));
        fails(ledger, "from t0 give sum(c0)", LARGE, 4, 0);
        fails(ledger, "from t0 give count, sum(-c0 - 1)", LARGE, 1, 1);
        ElevatorLedger most = ledger(sorts(1), of(MOST - 1), of(1), of(0));
        answers(most, "from t0 give sum(c0)", of(MOST));
        ElevatorLedger least = ledger(sorts(1), of(LEAST + 1), of(-1), of(0));
        answers(least, "from t0 give sum(c0)", of(LEAST));
        ElevatorLedger below = ledger(sorts(1), of(LEAST), of(0), of(-1));
        fails(below, "from t0 give sum(c0)", LARGE, 2, 0);
        ElevatorLedger partial = ledger(sorts(1), of(MOST), of(1), of(-1));
        fails(partial, "from t0 give sum(c0)", LARGE, 1, 0);
        ElevatorLedger back = ledger(sorts(1), of(MOST), of(-1), of(1), of(LEAST));
        answers(back, "from t0 give sum(c0)", of(-1));
        ElevatorLedger groups = ledger(sorts(0, 1), of(1, MOST), of(2, MOST), of(1, 0), of(2, 1));
        fails(groups, "from t0 group c0 give c0, sum(c1)", LARGE, 3, 1);
    }

    private static void firstThatIsMet() {
        String zero = "1 / c0";
        String index = "look(0, 10)";
        String narrow = "int(9999999999)";
        String large = "whole(999999999.0 * 999999999)";
        String[] failing = {zero, index, narrow, large};
        int[] failures = {ZERO, INDEX, NARROW, LARGE};
        for (int i = 0; i < 4; i++) {
            for (int k = 0; k < 4; k++) {
                fails(0, failing[i] + " + " + failing[k], failures[i]);
            }
            fails(0, failing[i] + " / 0", failures[i]);
            fails(0, "1 / " + "{" + failing[i] + "}", failures[i]);
            fails(0, "look(0, " + failing[i] + ")", failures[i]);
            fails(0, "int(" + failing[i] + ")", failures[i]);
            fails(0, "year(" + failing[i] + ")", failures[i]);
            fails(0, "real(" + failing[i] + ")", failures[i]);
            fails(0, "-{" + failing[i] + "}", failures[i]);
        }
        fails(0, "1 / 0 - 2 * look(0, 10)", ZERO);
        fails(0, "1 - 2 * look(0, 10) - 1 / 0", INDEX);
        fails(0, "look(0, 10) * {1 / 0}", INDEX);
        fails(0, "5 / {1 / 0 + look(0, 10)}", ZERO);
    }

    private static void itemsFromTheLeft() {
        ElevatorLedger ledger = ledger(sorts(0), of(2), of(1), of(0));
        fails(ledger, "from t0 give c0, 1 / c0, look(0, 10 - c0)", ZERO, 2, 1);
        fails(ledger, "from t0 give c0, look(0, 10 - c0), 1 / c0", INDEX, 2, 1);
        fails(ledger, "from t0 give 1 / {c0 - 1}, 1 / {c0 - 2}", ZERO, 0, 1);
        fails(ledger, "from t0 give count, sum(1 / {c0 - 1}), sum(1 / c0)", ZERO, 1, 1);
        fails(ledger, "from t0 give 1, 2, 3, 4, 5, 1 / {c0 - 1}", ZERO, 1, 5);
        answers(ledger, "from t0 where c0 > 0 give 2 / c0", of(1), of(2));
        looksAt(ledger, "from t0 give 1 / {c0 - 1}", 2, 2);
    }

    private static void orMissing() {
        ElevatorLedger ledger = ledger(sorts(0), of(0));
        answers(ledger, "from t0 give 1 / c0 or missing, look(0, 10) or missing, int(9999999999) or missing, c0 or missing",
                of(GAP, GAP, GAP, 0));
        answers(ledger, "from t0 give 999999999.0 * 999999999 or missing, year(400001) or missing, real(c0) / c0 or missing",
                of(GAP, GAP, GAP));
        fails(ledger, "from t0 give 1 / c0 or missing, look(0, 10)", INDEX, 0, 1);
        fails(ledger, "from t0 give look(0, 10), 1 / c0 or missing", INDEX, 0, 0);
        fails(ledger, "from t0 where 1 / c0 = 1 give c0 or missing", ZERO, 0, NONE);
        answers(ledger, "from t0 give c0 + 1 or missing, 1 / c0 or missing, c0 + 2 or missing", of(1, GAP, 2));
    }

    private static void failureOfACondition() {
        ElevatorLedger ledger = ledger(sorts(0), of(2), of(1), of(0));
        fails(ledger, "from t0 where 1 / c0 > 5 give c0", ZERO, 2, NONE);
        fails(ledger, "from t0 where 1 / {c0 - 1} > 5 give 1 / {c0 - 2}", ZERO, 1, NONE);
        fails(ledger, "from t0 where 1 / {c0 - 1} < 5 give c0, 1 / {c0 - 2}", ZERO, 0, 1);
        looksAt(ledger, "from t0 where 1 / {c0 - 1} > 5 give c0", 2, 2);
        add(ledger, sorts(0, 0), of(1, 5), of(1, 0));
        fails(ledger, "from t0 join t1 on c0 = d0 where 1 / d1 = 0 give c0", ZERO, 1, NONE);
        fails(ledger, "from t0 join t1 on c0 = d0 give c0, 1 / d1", ZERO, 1, 1);
    }

    private static void rowsOfChosenPairs() {
        ElevatorLedger ledger = ledger(sorts(0), of(3), of(1), of(GAP), of(1));
        answers(ledger, "from t0 give c0, 7", of(3, 7), of(1, 7), of(GAP, 7), of(1, 7));
        answers(ledger, "from t0 where c0 = 1 give c0", of(1), of(1));
        answers(ledger, "from t0 where c0 <> 1 give c0", of(3));
        answers(ledger, "from t0 where c0 = 9 give c0");
    }

    private static void groups() {
        for (int sort = 0; sort < 7; sort++) {
            long v = sort == 5 ? Due.text("a") : 1;
            long shown = sort == 2 ? Due.bits(0.125) : v;
            ElevatorLedger ledger = ledger(sorts(sort), of(GAP), of(v), of(0), of(GAP), of(v), of(GAP));
            answers(ledger, "from t0 group c0 give c0, count", of(GAP, 3), of(shown, 2), of(0, 1));
        }
        ElevatorLedger two = ledger(sorts(0, 0), of(1, GAP), of(GAP, 1), of(1, 1), of(GAP, GAP), of(1, GAP), of(GAP, GAP));
        answers(two, "from t0 group c0, c1 give c1, c0, count", of(GAP, 1, 2), of(1, GAP, 1), of(1, 1, 1), of(GAP, GAP, 2));
        answers(two, "from t0 group c1, c1 give count", of(4), of(2));
        answers(two, "from t0 group c0 give c0, count, sum(c1)", of(1, 3, 1), of(GAP, 3, 1));
        answers(two, "from t0 where c0 = 9 group c0 give c0, count");
        // COLUMNS of both TABLES, the groups beginning at other ROWS of the joined one.
        ElevatorLedger both = ledger(sorts(0, 0), of(1, 5), of(1, 6), of(2, 5));
        add(both, sorts(0, 0), of(2, 7), of(1, 8), of(1, 7), of(1, 8), of(1, GAP));
        String join = "from t0 join t1 on c0 = d0 ";
        answers(both, join + "group d1 give d1, count", of(8, 4), of(7, 3), of(GAP, 2));
        answers(both, join + "group d0 give d0, count", of(1, 8), of(2, 1));
        answers(both, join + "group d1, c1 give c1, d1, count", of(5, 8, 2), of(5, 7, 2), of(5, GAP, 1), of(6, 8, 2), of(6, 7, 1),
                of(6, GAP, 1));
        answers(both, join + "group c1, d0 give c1, d0, count, most(d1)", of(5, 1, 4, 8), of(6, 1, 4, 8), of(5, 2, 1, 7));
        ElevatorLedger edges = ledger(sorts(1), of(MOST), of(LEAST), of(0), of(LEAST));
        answers(edges, "from t0 group c0 give c0, count", of(MOST, 1), of(LEAST, 2), of(0, 1));
    }

    private static void justOne() {
        ElevatorLedger ledger = ledger(sorts(0, 2, 5), of(GAP, GAP, GAP), of(3, 4, Due.text("b")));
        String all = "count, sum(c0), least(c0), most(c1), sum(c1), least(c2)";
        answers(ledger, "from t0 give " + all, of(2, 3, 3, Due.bits(0.5), Due.bits(0.5), Due.text("b")));
        answers(ledger, "from t0 where c0 is missing give " + all, of(1, GAP, GAP, GAP, GAP, GAP));
        answers(ledger, "from t0 where c0 = 9 give " + all, of(0, GAP, GAP, GAP, GAP, GAP));
        answers(ledger(sorts(0, 2, 5)), "from t0 give " + all, of(0, GAP, GAP, GAP, GAP, GAP));
        answers(ledger, "from t0 where c0 is missing group c1 give " + all, of(1, GAP, GAP, GAP, GAP, GAP));
    }

    private static void sums() {
        ElevatorLedger ledger = ledger(sorts(0, 2), of(GAP, GAP), of(5, 8), of(GAP, GAP), of(-7, -12));
        answers(ledger, "from t0 give sum(c0), sum(c1), count", of(-2, Due.bits(-0.5), 4));
        // From the first to the last, each with one rounding.
        ElevatorLedger order = ledger(sorts(2), of(1L << 40), of(1), of(-(1L << 40)), of(1));
        double tenth = 0.1;
        answers(order, "from t0 give sum(c0 * 0.1)", of(Due.bits((1L << 37) * tenth + 0.125 * tenth - (1L << 37) * tenth
                + 0.125 * tenth)));
        // Of one VALUE it is that VALUE, also of -0.
        ElevatorLedger zeroes = ledger(sorts(2), of(0), of(0));
        answers(zeroes, "from t0 give sum(-c0), sum(c0)", of(Due.bits(-0.0), 0));
        ElevatorLedger mixed = ledger(sorts(2), of(-8), of(0));
        answers(mixed, "from t0 give sum(c0 * 0)", of(0));
    }

    private static void leastAndMost() {
        ElevatorLedger ledger = ledger(sorts(1, 2, 5), of(GAP, GAP, GAP), of(MOST, 1L << 40, Due.text("b")),
                of(LEAST, -(1L << 40), 0), of(0, 0, Due.text("zzzzz")));
        answers(ledger, "from t0 give least(c0), most(c0), least(c1), most(c1), least(c2), most(c2)",
                of(LEAST, MOST, Due.bits(-137438953472.0), Due.bits(137438953472.0), 0, Due.text("zzzzz")));
        ElevatorLedger many = ledger(sorts(1, 2), of(5, 5), of(-3, -3), of(7, 7), of(-9, -9), of(2, 2), of(-8, -8), of(6, 6));
        answers(many, "from t0 give least(c0), most(c0), least(c1), most(c1)", of(-9, 7, Due.bits(-1.125), Due.bits(0.875)));
        answers(many, "from t0 give least(c0 + 100), most(c0 - 100), least(c1 + 100), most(c1 - 100)",
                of(91, -93, Due.bits(98.875), Due.bits(-99.125)));
        answers(many, "from t0 where c0 < 6 give most(c0), most(c1)", of(5, Due.bits(0.625)));
        answers(many, "from t0 where c0 > -8 give least(c0), least(c1)", of(-3, Due.bits(-0.375)));
        // Of 0 and -0, which are equal, the first one.
        ElevatorLedger zeroes = ledger(sorts(2), of(8), of(-8));
        answers(zeroes, "from t0 give least(c0 * 0), most(c0 * 0), least(c0 * -0.0), most(c0 * -0.0)",
                of(0, 0, Due.bits(-0.0), Due.bits(-0.0)));
    }

    /** 100 PAIRS of c0 = 1, and one more of c0 = 2, whose COLUMN 1 on both sides is that number. */
    private static ElevatorLedger pairs101(int last) {
        ElevatorLedger ledger = ledger(sorts(0, 0));
        for (int i = 0; i < 11; i++) {
            ledger.row(0);
            ledger.put(0, i, 0, i < 10 ? 1 : 2);
            ledger.put(0, i, 1, i < 10 ? i : last);
        }
        return ledger;
    }

    private static final String JOIN = "from t0 join t0 on c0 = d0 ";

    private static void isHundred(ElevatorLedger ledger, String text) {
        int q = Due.read(ledger, text);
        Due.is(text + ": ask", ledger.ask(q), 100);
        Due.is(text + ": scan", ledger.scan(q), 100);
        for (int which = 0; which <= 1; which++) {
            Due.is("the 100th row", ledger.isMissing(which, 99, 0), 0);
            Due.is("the 101st row", ledger.isMissing(which, 100, 0), BAD);
            Due.is("the 101st row's VALUE", ledger.cell(which, 100, 0), NO);
        }
    }

    private static void row101() {
        ElevatorLedger ledger = pairs101(10);
        isHundred(ledger, JOIN + "where c0 = 1 give c1, d1");
        isTooMany(ledger, JOIN + "give c1, d1");
        looksAt(ledger, JOIN + "give d1", 101, 101);
        answers(ledger, JOIN + "give count", of(101));
        isHundred(ledger, JOIN + "where c1 < 10 or d1 > 10 give c1");
    }

    private static void aheadOfTop() {
        ElevatorLedger ledger = pairs101(10);
        isTooMany(ledger, JOIN + "give c1 top 1");
        isTooMany(ledger, JOIN + "give c1 top 0");
        isTooMany(ledger, JOIN + "give c1 order 0");
        isTooMany(ledger, JOIN + "give c1 order 0 down top 100");
        isTooMany(ledger, JOIN + "group c1, d1 give count top 1");
        isHundred(ledger, JOIN + "where c0 = 1 give c1 order 0 down top 101");
        answers(ledger, JOIN + "where c0 = 1 give c1, d1 order 1 down top 1", of(0, 9));
    }

    private static void group101() {
        isTooMany(pairs101(10), JOIN + "group c1, d1 give c1, count");
        isHundred(pairs101(10), JOIN + "where c0 = 1 group c1, d1 give c1, count");
        // A 101st PAIR of a group that is there.
        isHundred(pairs101(0), JOIN + "group c1, d1 give c1, count");
        looksAt(pairs101(10), JOIN + "group c1, d1 give count", 101, 101);
    }

    private static void row101AndFailures() {
        // The 101st row is ahead of its items, and behind its condition.
        isTooMany(pairs101(10), JOIN + "give 1 / {c0 - 2}");
        isTooMany(pairs101(10), JOIN + "give 1 / {c0 - 2} or missing");
        isTooMany(pairs101(10), JOIN + "group c1, d1 give sum(1 / {c0 - 2})");
        fails(pairs101(10), JOIN + "where 1 / {c0 - 2} < 5 give c0", ZERO, 10, NONE);
        fails(pairs101(10), JOIN + "give 1 / {9 * 9 - c1 * d1}", ZERO, 9, 0);
    }

    private static void rising() {
        ElevatorLedger ledger = ledger(sorts(1, 0), of(GAP, 1), of(MOST, 2), of(0, 3), of(GAP, 4), of(LEAST, 5), of(0, 6), of(-1, 7));
        answers(ledger, "from t0 give c1, c0 order 1", of(5, LEAST), of(7, -1), of(3, 0), of(6, 0), of(2, MOST), of(1, GAP),
                of(4, GAP));
        answers(ledger, "from t0 where c0 is missing give c1, c0 order 1", of(1, GAP), of(4, GAP));
        ElevatorLedger reals = ledger(sorts(2, 0), of(0, 1), of(-1, 2), of(GAP, 3), of(0, 4), of(1L << 40, 5), of(-(1L << 40), 6));
        // -0, 0, -0, 0 stay as they were.
        answers(reals, "from t0 where c0 = 0 give c0 * {c1 - 2.5}, c1 order 0", of(Due.bits(-0.0), 1), of(0, 4));
        answers(reals, "from t0 where c0 = 0 give c0 * {2.5 - c1}, c1 order 0", of(0, 1), of(Due.bits(-0.0), 4));
        answers(reals, "from t0 give c1, c0 order 1", of(6, Due.bits(-137438953472.0)), of(2, Due.bits(-0.125)), of(1, 0), of(4, 0),
                of(5, Due.bits(137438953472.0)), of(3, GAP));
        answers(ledger, "from t0 group c0 give count, c0 order 0 top 4", of(1, MOST), of(1, LEAST), of(1, -1), of(2, GAP));
    }

    private static void falling() {
        ElevatorLedger ledger = ledger(sorts(1, 0), of(GAP, 1), of(MOST, 2), of(0, 3), of(GAP, 4), of(LEAST, 5), of(0, 6), of(-1, 7));
        answers(ledger, "from t0 give c1, c0 order 1 down", of(2, MOST), of(3, 0), of(6, 0), of(7, -1), of(5, LEAST), of(1, GAP),
                of(4, GAP));
        answers(ledger, "from t0 where c0 is missing give c1, c0 order 1 down", of(1, GAP), of(4, GAP));
        ElevatorLedger texts = ledger(sorts(5, 0), of(0, 1), of(Due.text("z"), 2), of(GAP, 3), of(0, 4), of(Due.text("zz"), 5));
        answers(texts, "from t0 give c1, c0 order 1 down", of(5, Due.text("zz")), of(2, Due.text("z")), of(1, 0), of(4, 0), of(3, GAP));
        ElevatorLedger reals = ledger(sorts(2, 0), of(0, 1), of(0, 4), of(-8, 5));
        answers(reals, "from t0 give c0 * {c1 - 2.5}, c1 order 0 down", of(Due.bits(-0.0), 1), of(0, 4), of(Due.bits(-2.5), 5));
    }

    private static void top() {
        ElevatorLedger ledger = ledger(sorts(0), of(3), of(1), of(2));
        answers(ledger, "from t0 give c0 top 0");
        answers(ledger, "from t0 give c0 top 1", of(3));
        answers(ledger, "from t0 give c0 top 2", of(3), of(1));
        answers(ledger, "from t0 give c0 top 3", of(3), of(1), of(2));
        answers(ledger, "from t0 give c0 top 4", of(3), of(1), of(2));
        answers(ledger, "from t0 give c0 order 0 top 2", of(1), of(2));
        answers(ledger, "from t0 give c0 order 0 down top 2", of(3), of(2));
        answers(ledger, "from t0 give c0 top 4294967296", of(3), of(1), of(2));
        answers(ledger, "from t0 give c0 top 999999999999999", of(3), of(1), of(2));
        answers(ledger, "from t0 give count top 0");
        answers(ledger, "from t0 give count top 1", of(3));
        answers(ledger, "from t0 group c0 give c0 top 2", of(3), of(1));
        answers(ledger, "from t0 where c0 > 9 give c0 top 2");
    }
}
