/** Promises 16 to 20: what ask() and scan() answer, and what is told of it. */
public final class AnswersTest extends LedgerTest {
    public static void main(String[] args) {
        pairs();
        conditions();
        wholes();
        reals();
        tiny();
        days();
        texts();
        failures();
        orMissing();
        together();
        groups();
        tooMany();
        ordering();
        visited();
        outcome();
        gone();
        cells();
        Due.end();
    }

    private static void pairs() {
        ElevatorLedger ledger = ledger(sorts(0, 1), of(1, 10), of(2, 20), of(GAP, 30), of(1, 40));
        add(ledger, sorts(0, 0), of(1, 5), of(GAP, 6), of(2, 7), of(1, 8));
        answers(ledger, "from t0 give c1, c0", of(10, 1), of(20, 2), of(30, GAP), of(40, 1));
        answers(ledger, "from t0 join t1 on c0 = d0 give c1, d1", of(10, 5), of(10, 8), of(20, 7), of(40, 5), of(40, 8));
        answers(ledger, "from t1 join t0 on c0 = d0 give c1, d1", of(5, 10), of(5, 40), of(7, 20), of(8, 10), of(8, 40));
        answers(ledger, "from t1 join t1 on c0 = d0 where c1 < d1 give c1, d1", of(5, 8));
        ElevatorLedger empty = ledger(sorts(0));
        answers(empty, "from t0 give c0");
        answers(empty, "from t0 give count, sum(c0), least(c0)", of(0, GAP, GAP));
        answers(empty, "from t0 group c0 give count");
    }

    private static void chosen(ElevatorLedger ledger, String condition, long... rows) {
        long[][] due = new long[rows.length][];
        for (int i = 0; i < rows.length; i++) {
            due[i] = of(rows[i]);
        }
        answers(ledger, "from t0 where " + condition + " give c0", due);
    }

    private static void conditions() {
        // c1 is 1, 2, MISSING.
        ElevatorLedger ledger = ledger(sorts(0, 0, 2), of(0, 1, 12), of(1, 2, GAP), of(2, GAP, -4));
        chosen(ledger, "c1 = 1", 0);
        chosen(ledger, "c1 <> 1", 1);
        chosen(ledger, "not c1 = 1", 1);
        chosen(ledger, "c1 is missing", 2);
        chosen(ledger, "not c1 is missing", 0, 1);
        chosen(ledger, "c1 = 1 or c0 = 2", 0, 2);
        chosen(ledger, "c1 = 1 and c0 = 0 or c0 = 1", 0, 1);
        chosen(ledger, "c0 = 1 or c1 = 1 and c0 = 0", 0, 1);
        chosen(ledger, "(c0 = 1 or c1 = 1) and c0 = 0", 0);
        chosen(ledger, "not (c1 = 1 and c0 = 0)", 1, 2);
        chosen(ledger, "not (c1 = 1 or c0 = 9)", 1);
        chosen(ledger, "not (c1 = 1 or c0 = 2)", 1);
        chosen(ledger, "not not c1 >= 2", 1);
        chosen(ledger, "c1 <= 1", 0);
        chosen(ledger, "c1 > 1.5", 1);
        ElevatorLedger more = ledger(sorts(0, 0, 2), of(0, 1, 12), of(1, 2, GAP), of(2, GAP, -4));
        chosen(more, "c1 < c2", 0);
        chosen(more, "c2 = 1.5", 0);
        chosen(more, "c2 < 0", 2);
        chosen(more, "-0.0 = 0.0 and 0 = -0.0", 0, 1, 2);
        // What decides ends it: the FAILURE behind is not met.
        fails(more, "from t0 where 1 / {c0 - 1} = 5 give c0", 1, 1, NONE);
        chosen(more, "c0 = 1 or 1 / {c0 - 1} = 1", 1, 2);
        chosen(more, "c0 <> 1 and 1 / {c0 - 1} = 1", 2);
        // Neither does not.
        fails(more, "from t0 where c1 = 1 and 1 / {c0 - 2} = 0 give c0", 1, 2, NONE);
        fails(more, "from t0 where c1 >= 1 or 1 / {c0 - 2} = 0 give c0", 1, 2, NONE);
        fails(more, "from t0 where c1 = 1 / {c0 - 2} give c0", 1, 2, NONE);
    }

    private static void wholes() {
        ElevatorLedger ledger = ledger(sorts(1, 1), of(7, -2));
        answers(ledger, "from t0 give c0 + c1, c0 - c1, c0 * c1, c0 / c1, c0 % c1, -c0", of(5, 9, -14, -3, 1, -7));
        answers(ledger, "from t0 give 2 + 3 * 4 - 5, {2 + 3} * 4, 20 / 3 * 2, c0 - c1 - 4, - - c0, -{c0 + 1}",
                of(9, 20, 12, 5, 7, -8));
        answers(ledger, "from t0 give c0 - -c1, -7 / 2, -7 % 3, 7 % -3", of(5, -3, -1, 1));
        ElevatorLedger edges = ledger(sorts(1, 1), of(Long.MAX_VALUE, -1));
        answers(edges, "from t0 give c0 + 1 - c1, c0 * 2, {c0 + 1} / c1 + 1, {c0 + 1} % c1, -{c0 + 1} + 1",
                of(Long.MIN_VALUE + 1, -2, Long.MIN_VALUE + 1, 0, Long.MIN_VALUE + 1));
        answers(edges, "from t0 where c0 > c0 - 1 and c0 - 1 < c0 and c0 <> c0 - 1 and not c0 - 1 >= c0 give c1", of(-1));
        int least = Due.read(edges, "from t0 give c0 + 1");
        edges.ask(least);
        Due.is("19: the least WHOLE looks like NO", edges.cell(0, 0, 0), NO);
        Due.is("20: but is there", edges.isMissing(0, 0, 0), 0);
    }

    private static void reals() {
        ElevatorLedger ledger = ledger(sorts(2, 1), of(20, 3), of(-12, GAP));
        answers(ledger, "from t0 give c0 + 1, c0 * 0.1, c1 / c0, -c0, 1 - c0",
                of(Due.bits(3.5), Due.bits(2.5 * 0.1), Due.bits(3 / 2.5), Due.bits(-2.5), Due.bits(-1.5)),
                of(Due.bits(-0.5), Due.bits(-1.5 * 0.1), GAP, Due.bits(1.5), Due.bits(2.5)));
        answers(ledger, "from t0 give whole(c0), whole(-c0), real(c1), 0.1 + 0.2, 123456789.123",
                of(2, -2, Due.bits(3), Due.bits(0.1 + 0.2), Due.bits(123456789.123)),
                of(-1, 1, GAP, Due.bits(0.1 + 0.2), Due.bits(123456789.123)));
        answers(ledger, "from t0 give -0.0, 0.0, 0 * -1.0, 0.0 - 0.0, -{0.0 * c0}",
                of(Due.bits(-0.0), 0, Due.bits(-0.0), 0, Due.bits(-0.0)), of(Due.bits(-0.0), 0, Due.bits(-0.0), 0, 0));
        ElevatorLedger large = ledger(sorts(1, 1), of(Long.MAX_VALUE, 1000000000000000L));
        answers(large, "from t0 give c0 / 10000.0, real(c1), c1 * 1.0, c0 * 0.0, -c1 - 0.0",
                of(Due.bits((double) Long.MAX_VALUE / 10000), Due.bits(1e15), Due.bits(1e15), 0, Due.bits(-1e15)));
    }

    /** Doubles below the least one of full precision, and those that become 0. */
    private static void tiny() {
        ElevatorLedger ledger = ledger(sorts(1), of(1L << 62));
        String by = "/c0".repeat(17);
        double x = 1.0;
        for (int i = 0; i < 17; i++) {
            x = x / (1L << 62);
        }
        double least = x * 0.25;
        answers(ledger, "from t0 give 1.0" + by, of(Due.bits(x)));
        answers(ledger, "from t0 give 1.0" + by + "*0.25", of(Due.bits(least)));
        answers(ledger, "from t0 give -1.375" + by + "*0.001", of(Due.bits(-1.375 * x * 0.001)));
        answers(ledger, "from t0 give 1.0" + by + "/c0", of(Due.bits(x / (1L << 62))));
        answers(ledger, "from t0 give -1.0" + by + "/c0", of(Due.bits(-x / (1L << 62))));
        fails(ledger, "from t0 give 1.0/{1.0" + by + "*0.001}", 4, 0, 0);
        Due.holds("the test is of such doubles", x / (1L << 62) == 0 && -1.375 * x * 0.001 != 0
                && Math.abs(x * 0.001) < Double.MIN_NORMAL);
    }

    private static void day(long day, int year, int month, int weekday) {
        ElevatorLedger ledger = ledger(sorts(6), of(day));
        answers(ledger, "from t0 give year(c0), month(c0), weekday(c0)", of(year, month, weekday));
    }

    private static void days() {
        day(0, 2000, 1, 5);
        day(-1, 1999, 12, 4);
        day(30, 2000, 1, 0);
        day(31, 2000, 2, 1);
        day(59, 2000, 2, 1);
        day(60, 2000, 3, 2);
        day(365, 2000, 12, 6);
        day(366, 2001, 1, 0);
        day(-36524, 1900, 1, 0);
        for (long each : of(-400000, -399999, -146097, -36466, -36465, 36524 + 59, 36525 + 59, 146097, 399999, 400000)) {
            java.time.LocalDate date = java.time.LocalDate.of(2000, 1, 1).plusDays(each);
            day(each, date.getYear(), date.getMonthValue(), date.getDayOfWeek().ordinal());
        }
    }

    private static void texts() {
        ElevatorLedger ledger = ledger(sorts(5), of(Due.text("b")), of(Due.text("ab")), of(0), of(GAP), of(Due.text("a")));
        answers(ledger, "from t0 give c0 order 0", of(0), of(Due.text("a")), of(Due.text("ab")), of(Due.text("b")), of(GAP));
        answers(ledger, "from t0 where c0 < 'ab' give c0, 'zzzzz'", of(0, Due.text("zzzzz")),
                of(Due.text("a"), Due.text("zzzzz")));
        answers(ledger, "from t0 where c0 = '' or c0 >= 'b' give c0", of(Due.text("b")), of(0));
        answers(ledger, "from t0 give least(c0), most(c0), most('c')", of(0, Due.text("b"), Due.text("c")));
    }

    private static void failures() {
        ElevatorLedger ledger = ledger(sorts(1, 1, 2), of(1, 5, 8), of(0, 10, 0), of(GAP, -1, GAP));
        fails(ledger, "from t0 give c0, 1 / c0", 1, 1, 1);
        fails(ledger, "from t0 give 1 % c0", 1, 1, 0);
        fails(ledger, "from t0 give c1 / c2", 1, 1, 0);
        fails(ledger, "from t0 give 1.0 / -{c2 * 1}", 1, 1, 0);
        fails(ledger, "from t0 give look(1, c1)", 2, 1, 0);
        fails(ledger, "from t0 where c0 is missing give look(1, c1)", 2, 2, 0);
        fails(ledger, "from t0 give int(2147483647 + c0)", 3, 0, 0);
        fails(ledger, "from t0 give int(-2147483648 - c0)", 3, 0, 0);
        fails(ledger, "from t0 give year(400000 + c0)", 3, 0, 0);
        fails(ledger, "from t0 give month(-400000 - c0)", 3, 0, 0);
        fails(ledger, "from t0 give weekday(400001)", 3, 0, 0);
        fails(ledger, "from t0 give real(999999999999999 + c0 + c0)", 4, 0, 0);
        fails(ledger, "from t0 give 999999999999999 * 1.0 + 2", 4, 0, 0);
        fails(ledger, "from t0 where -999999999999999 - 1.5 < 0 give c0", 4, 0, NONE);
        // The first that is met, within first, from the left.
        fails(ledger, "from t0 give int(9999999999) + 1 / 0", 3, 0, 0);
        fails(ledger, "from t0 give 1 / 0 + int(9999999999)", 1, 0, 0);
        fails(ledger, "from t0 give look(0, 1 / 0)", 1, 0, 0);
        answers(ledger, "from t0 give int(2147483647), int(-2147483648), year(400000), real(999999999999999 + 1)",
                of(2147483647, -2147483648, 3095, Due.bits(1e15)), of(2147483647, -2147483648, 3095, Due.bits(1e15)),
                of(2147483647, -2147483648, 3095, Due.bits(1e15)));
        ElevatorLedger more = ledger(sorts(1, 1, 2), of(GAP, 99, 8));
        answers(more, "from t0 give c0 / 0, look(0, c0), int(c0), year(c0), real(c0) / 0", of(GAP, GAP, GAP, GAP, GAP));
        answers(more, "from t0 give 0 / c0, c1 + c0, -c0, c0 % 0 or missing", of(GAP, GAP, GAP, GAP));
        fails(more, "from t0 give c0 + 1 / 0", 1, 0, 0);
        answers(more, "from t0 where c1 < 0 give 1 / 0");
        fails(more, "from t0 where 1 / 0 is missing give c0", 1, 0, NONE);
    }

    private static void orMissing() {
        ElevatorLedger ledger = ledger(sorts(1), of(2), of(0), of(GAP));
        answers(ledger, "from t0 give 10 / c0 or missing, look(0, c0 + 9) or missing, c0 or missing",
                of(5, GAP, 2), of(GAP, 0, 0), of(GAP, GAP, GAP));
        fails(ledger, "from t0 give 10 / c0 or missing, 10 / c0", 1, 1, 1);
        answers(ledger, "from t0 give 10 / c0 or missing order 0 down", of(5), of(GAP), of(GAP));
    }

    private static void together() {
        ElevatorLedger ledger = ledger(sorts(1, 2), of(5, 8), of(GAP, GAP), of(-3, 4), of(5, -20));
        answers(ledger, "from t0 give count, sum(c0), least(c0), most(c0), sum(c1), least(c1)",
                of(4, 7, -3, 5, Due.bits(-1), Due.bits(-2.5)));
        answers(ledger, "from t0 where c0 = 5 give most(c1), count, sum(c0 * 2)", of(Due.bits(1), 2, 20));
        answers(ledger, "from t0 where c0 is missing give count, sum(c0), least(c1), most(c0)", of(1, GAP, GAP, GAP));
        answers(ledger, "from t0 where c0 = 99 give count, sum(c0)", of(0, GAP));
        answers(ledger, "from t0 give least(-c1), most(-c1), least(-c0), most(-c0)",
                of(Due.bits(-1), Due.bits(2.5), -5, 3));
        answers(ledger, "from t0 give least(c0 * 0.0), most(-c0 * 0.0)", of(0, Due.bits(-0.0)));
        answers(ledger, "from t0 give count top 0");
        fails(ledger, "from t0 give count, sum(1 / {c0 + 3})", 1, 2, 1);
        ElevatorLedger large = ledger(sorts(1), of(Long.MAX_VALUE - 1), of(1), of(-5), of(5), of(1));
        fails(large, "from t0 give sum(c0)", 4, 4, 0);
        fails(large, "from t0 give count, sum(-c0 - 2)", 4, 1, 1);
        answers(large, "from t0 where c0 < 5 or c0 > 5 give sum(c0)", of(Long.MAX_VALUE - 4));
        ElevatorLedger reals = ledger(sorts(1), of(999999999999999L), of(1), of(0), of(1));
        fails(reals, "from t0 give sum(c0 * 1.0)", 4, 3, 0);
        fails(reals, "from t0 give least(c0), sum(real(-c0))", 4, 3, 1);
        answers(reals, "from t0 where c0 > 1 or c0 = 0 give sum(c0 * 1.0)", of(Due.bits(999999999999999.0)));
        ElevatorLedger rounding = ledger(sorts(2), of(1), of(1L << 40), of(-(1L << 40)));
        answers(rounding, "from t0 give sum(c0 * 0.001)",
                of(Due.bits(0.125 * 0.001 + 137438953472.0 * 0.001 - 137438953472.0 * 0.001)));
    }

    private static void groups() {
        ElevatorLedger ledger = ledger(sorts(4, 5, 2), of(2, Due.text("b"), 8), of(1, GAP, 16), of(2, GAP, GAP),
                of(GAP, Due.text("b"), 8), of(1, GAP, 24), of(GAP, Due.text("b"), GAP), of(2, Due.text("b"), 16));
        answers(ledger, "from t0 group c0 give c0, count", of(2, 3), of(1, 2), of(GAP, 2));
        answers(ledger, "from t0 group c1 give count, c1, sum(c2)", of(4, Due.text("b"), Due.bits(4)), of(3, GAP, Due.bits(5)));
        answers(ledger, "from t0 group c0, c1 give c1, c0, count, most(c2)", of(Due.text("b"), 2, 2, Due.bits(2)),
                of(GAP, 1, 2, Due.bits(3)), of(GAP, 2, 1, GAP), of(Due.text("b"), GAP, 2, Due.bits(1)));
        answers(ledger, "from t0 group c2 give c2, count order 0 down top 3", of(Due.bits(3), 1), of(Due.bits(2), 2),
                of(Due.bits(1), 2));
        answers(ledger, "from t0 where c0 = 9 group c0 give count, c0");
        answers(ledger, "from t0 join t0 on c0 = d0 where c2 >= d2 group d1, c0 give d1, c0, count",
                of(Due.text("b"), 2, 3), of(GAP, 1, 3));
        fails(ledger, "from t0 group c0 give c0, sum(1 / {c0 - 1})", 1, 1, 1);
    }

    private static ElevatorLedger twelveByTwelve() {
        ElevatorLedger ledger = new ElevatorLedger();
        add(ledger, sorts(0, 0));
        add(ledger, sorts(0, 0));
        for (int t = 0; t < 2; t++) {
            for (int r = 0; r < 12; r++) {
                ledger.row(t);
                ledger.put(t, r, 0, 1);
                ledger.put(t, r, 1, r);
            }
        }
        return ledger;
    }

    private static void tooMany() {
        ElevatorLedger ledger = twelveByTwelve();
        String[] texts = {"from t0 join t1 on c0 = d0 give c1, d1", "from t0 join t1 on c0 = d0 give c1 order 0 top 1",
            "from t0 join t1 on c0 = d0 group c1, d1 give count"};
        for (String text : texts) {
            int q = Due.read(ledger, text);
            for (int which = 0; which <= 1; which++) {
                Due.is(text, which == 0 ? ledger.ask(q) : ledger.scan(q), TOO_MANY);
                Due.is(text + ": outcome 0", ledger.outcome(which, 0), TOO_MANY);
                Due.is(text + ": no FAILURE", ledger.outcome(which, 2), 0);
                Due.is(text + ": no ROW", ledger.outcome(which, 3), NONE);
                Due.is(text + ": no item", ledger.outcome(which, 4), NONE);
                Due.is(text + ": VISITED", ledger.outcome(which, 5), 101);
                Due.is(text + ": no rows", ledger.isMissing(which, 0, 0), -1);
            }
        }
        int hundred = Due.read(ledger, "from t0 join t1 on c0 = d0 where c1 < 10 and d1 < 10 give c1 * 10 + d1 order 0 down");
        Due.is("100 rows", ledger.ask(hundred), 100);
        Due.is("their first", ledger.cell(0, 0, 0), 99);
        Due.is("their last", ledger.cell(0, 99, 0), 0);
        Due.is("behind it", ledger.isMissing(0, 100, 0), -1);
        answers(ledger, "from t0 join t1 on c0 = d0 give count, sum(d1)", of(144, 12 * 66));
    }

    private static void ordering() {
        ElevatorLedger ledger = ledger(sorts(0, 2), of(3, 0), of(GAP, 8), of(1, GAP), of(3, -8), of(GAP, 0), of(2, 8));
        answers(ledger, "from t0 give c0, c1 order 0", of(1, GAP), of(2, Due.bits(1)), of(3, 0), of(3, Due.bits(-1)),
                of(GAP, Due.bits(1)), of(GAP, 0));
        answers(ledger, "from t0 give c0, c1 order 0 down", of(3, 0), of(3, Due.bits(-1)), of(2, Due.bits(1)), of(1, GAP),
                of(GAP, Due.bits(1)), of(GAP, 0));
        answers(ledger, "from t0 give c1, c0 order 0 top 3", of(Due.bits(-1), 3), of(0, 3), of(0, GAP));
        answers(ledger, "from t0 give c0 top 0");
        answers(ledger, "from t0 give c0 top 2", of(3), of(GAP));
        answers(ledger, "from t0 where c1 = 0 give c1 * {c0 - 4} or missing, c0 order 0", of(Due.bits(-0.0), 3), of(GAP, GAP));
    }

    private static void visited() {
        ElevatorLedger ledger = twelveByTwelve();
        String join = "from t0 join t1 on c0 = d0 where ";
        looksAt(ledger, join + "c1 = 3 give d1", 11 + 12, 144);
        looksAt(ledger, join + "c1 = 3 and d1 = 2 give d1", 11 + 12, 144);
        looksAt(ledger, join + "d1 = 2 and c1 = 3 give d1", 144, 144);
        looksAt(ledger, join + "c1 = d1 give d1", 144, 144);
        looksAt(ledger, join + "c1 + d0 = 4 and d1 = 0 give d1", 144, 144);
        looksAt(ledger, join + "c1 = 3 or c1 = 4 give count", 144, 144);
        looksAt(ledger, join + "c1 = 3 and d1 = 2 or c1 = 4 give count", 144, 144);
        looksAt(ledger, join + "(c1 = 3 or c1 = 4) and d1 = 1 give d1", 10 + 24, 144);
        looksAt(ledger, join + "(c1 = 3 and d1 = 4) give d1", 144, 144);
        looksAt(ledger, join + "not c1 = 3 and (d1 = 1 or d1 = 2) give d1", 1 + 11 * 12, 144);
        looksAt(ledger, join + "c1 is missing give d1", 12, 144);
        looksAt(ledger, "from t0 where c1 = 3 give c1", 12, 12);
        looksAt(ledger, "from t0 join t1 on c0 = d0 give count", 144, 144);
        looksAt(ledger, "from t0 join t1 on c1 = d1 where c1 = 3 give count", 12, 12);
        looksAt(ledger, "from t0 join t1 on c0 = d0 where c1 > 1 give 1 / {c1 - 3}", 2 + 12 + 1, 24 + 12 + 1);
        ledger.missing(0, 5, 1);
        looksAt(ledger, join + "c1 = 3 and d1 < 2 give c1", 10 + 12 + 12, 144);
        int fallen = Due.read(ledger, join + "c1 = 3 and d1 > 2 give c1, d1");
        ledger.spoil(ledger.about(fallen, 1), 1);
        ledger.ask(fallen);
        Due.is("VISITED as it FELL BACK", ledger.outcome(0, 5), 144);
        Due.is("it FELL BACK", ledger.outcome(0, 1), 1);
    }

    private static void outcome() {
        ElevatorLedger ledger = ledger(sorts(0), of(4), of(0));
        Due.is("18: none yet", ledger.outcome(0, 0), -1);
        int q = Due.read(ledger, "from t0 give c0, 8 / c0 or missing");
        int failing = Due.read(ledger, "from t0 give 8 / c0");
        ledger.ask(q);
        Due.is("18: no scan yet", ledger.outcome(1, 0), -1);
        int[] due = {2, 0, 0, NONE, NONE, 2, 2};
        for (int what = 0; what <= 6; what++) {
            Due.is("18: outcome(0, " + what + ")", ledger.outcome(0, what), due[what]);
        }
        Due.is("18: what -1", ledger.outcome(0, -1), -1);
        Due.is("18: what 7", ledger.outcome(0, 7), -1);
        Due.is("18: which 2", ledger.outcome(2, 0), -1);
        Due.is("18: which -1", ledger.outcome(-1, 0), -1);
        Due.is("17: scan", ledger.scan(failing), FAILED);
        int[] failed = {FAILED, 0, 1, 1, 0, 2, 1};
        for (int what = 0; what <= 6; what++) {
            Due.is("18: outcome(1, " + what + ")", ledger.outcome(1, what), failed[what]);
            Due.is("18: the latest ask's stays", ledger.outcome(0, what), due[what]);
        }
        Due.is("16: question -1", ledger.ask(-1), -1);
        Due.is("16: question 2", ledger.ask(2), -1);
        Due.is("17: question -1", ledger.scan(-1), -1);
        Due.is("17: question 2", ledger.scan(2), -1);
        Due.is("18: BAD ones leave it", ledger.outcome(0, 0), 2);
        Due.is("18: BAD ones leave it", ledger.outcome(1, 0), FAILED);
        Due.is("18: which 2 behind a scan", ledger.outcome(2, 0), -1);
        Due.is("18: which -1 behind a scan", ledger.outcome(-1, 0), -1);
        Due.is("17: no FORM is asked by scan", ledger.form(ledger.about(failing, 1), 2), 0);
    }

    private static void gone() {
        ElevatorLedger ledger = ledger(sorts(0, 0), of(4, 1), of(0, 2));
        int q = Due.read(ledger, "from t0 where c1 > 0 give c0, c0");
        ledger.ask(q);
        ledger.scan(q);
        ledger.drop(0, 1);
        Due.is("16: GONE", ledger.ask(q), GONE);
        Due.is("17: GONE", ledger.scan(q), GONE);
        int[] due = {GONE, 0, 0, NONE, NONE, 0, 2};
        for (int which = 0; which <= 1; which++) {
            for (int what = 0; what <= 6; what++) {
                Due.is("18: outcome(" + which + ", " + what + ")", ledger.outcome(which, what), due[what]);
            }
            Due.is("19: no rows", ledger.cell(which, 0, 0), NO);
            Due.is("20: no rows", ledger.isMissing(which, 0, 0), -1);
        }
        Due.is("21: nothing is MADE", ledger.form(0, 2), 1);
    }

    private static void cells() {
        ElevatorLedger ledger = ledger(sorts(0, 2, 5), of(4, 20, Due.text("abc")), of(GAP, GAP, GAP));
        int q = Due.read(ledger, "from t0 give c0, c1, c2");
        int one = Due.read(ledger, "from t0 where c0 = 4 give c0");
        ledger.ask(q);
        Due.is("19: a WHOLE", ledger.cell(0, 0, 0), 4);
        Due.is("19: the bits of a REAL", ledger.cell(0, 0, 1), Due.bits(2.5));
        Due.is("19: a TEXT", ledger.cell(0, 0, 2), Due.text("abc"));
        Due.is("20: it is there", ledger.isMissing(0, 0, 2), 0);
        for (int c = 0; c < 3; c++) {
            Due.is("19: MISSING", ledger.cell(0, 1, c), NO);
            Due.is("20: MISSING", ledger.isMissing(0, 1, c), 1);
        }
        int[][] none = {{0, -1, 0}, {0, 2, 0}, {0, 0, -1}, {0, 0, 3}, {1, 0, 0}, {-1, 0, 0}, {2, 0, 0}};
        for (int[] at : none) {
            Due.is("19: none such", ledger.cell(at[0], at[1], at[2]), NO);
            Due.is("20: none such", ledger.isMissing(at[0], at[1], at[2]), -1);
        }
        ledger.scan(one);
        Due.is("19: of the scan", ledger.cell(1, 0, 0), 4);
        Due.is("20: it has one item", ledger.isMissing(1, 0, 1), -1);
        Due.is("19: which 2", ledger.cell(2, 0, 0), NO);
        Due.is("20: which -1", ledger.isMissing(-1, 0, 0), -1);
        ledger.put(0, 0, 0, 9);
        Due.is("19: the answer stays", ledger.cell(0, 0, 0), 4);
        ledger.ask(one);
        Due.is("20: the latest one has no rows", ledger.isMissing(0, 0, 0), -1);
    }
}
