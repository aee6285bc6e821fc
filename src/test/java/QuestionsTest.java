/** Promises 10 to 15: texts, their FAULTS, CONSTANTS, and what is told about a question. */
public final class QuestionsTest {
    private static final long NO = ElevatorLedger.NO;

    public static void main(String[] args) {
        say();
        question();
        fault();
        tokens();
        grammar();
        limits();
        notThere();
        sorts();
        items();
        constantOf();
        constant();
        about();
        formsOfTexts();
        Due.end();
    }

    /** t0: a COLUMN of each SORT; t1: INT, TEXT, REAL. */
    private static ElevatorLedger ledger() {
        ElevatorLedger ledger = new ElevatorLedger();
        ledger.table();
        for (int sort = 0; sort <= 6; sort++) {
            ledger.column(0, sort);
        }
        ledger.table();
        ledger.column(1, 0);
        ledger.column(1, 5);
        ledger.column(1, 2);
        return ledger;
    }

    private static void say() {
        ElevatorLedger ledger = ledger();
        Due.is("10: n = 0", ledger.say(0, 0), -1);
        Due.is("10: n = 9", ledger.say(0, 9), -1);
        Due.is("10: n = -1", ledger.say(0, -1), -1);
        Due.is("10: the highest of the lowest first", ledger.say(0x7766726f6dL, 4), 4);
        Due.is("10: eight", ledger.say(0x2074302067697665L, 8), 12);
        Due.is("10: one", ledger.say(' ', 1), 13);
        Due.is("10: two", ledger.say('c' << 8 | '0', 2), 15);
        Due.is("10: they are the text", ledger.question(), 0);
        Due.is("10: it is empty then", ledger.say(' ', 1), 1);
        for (int i = 0; i < 29; i++) {
            ledger.say(0x2020202020202020L, 8);
        }
        Due.is("10: 241", ledger.say(0, 8), -3);
        Due.is("10: BAD ahead of FULL", ledger.say(0, 9), -1);
        Due.is("10: 240", ledger.say(0x20202020202020L, 7), 240);
        Due.is("10: one more", ledger.say(' ', 1), -3);
        Due.is("10: the end of blanks", ledger.question(), -340);
        Due.is("10: highest bytes", ledger.say(-1L, 8), 8);
        Due.is("10: are no TOKEN", ledger.question(), -100);
    }

    private static void question() {
        ElevatorLedger ledger = ledger();
        Due.is("11: no text", ledger.question(), -100);
        for (int i = 0; i < 24; i++) {
            Due.is("11: its number", Due.question(ledger, "from t0 give c0 + " + i), i);
        }
        Due.is("11: questions", ledger.count(1), 24);
        Due.is("11: forms", ledger.count(2), 1);
        Due.say(ledger, "from t0 give");
        Due.is("11: the 25th", ledger.question(), -3);
        Due.is("11: FULL leaves the text", ledger.say(' ', 1), 13);
        ElevatorLedger faults = ledger();
        Due.is("11: a FAULT", Due.question(faults, "from t0 give c7"), -113);
        Due.is("11: empties the text", faults.say(' ', 1), 1);
        Due.is("11: is no question", faults.count(1), 0);
        Due.is("11: and no form", faults.count(2), 0);
    }

    private static void fault() {
        ElevatorLedger ledger = ledger();
        Due.is("12: none yet", ledger.fault(), 0);
        Due.question(ledger, "from t0 give c7");
        Due.is("12: the latest", ledger.fault(), 2);
        for (int i = 0; i < 23; i++) {
            Due.question(ledger, "from t0 give c0");
            Due.is("12: none", ledger.fault(), 0);
        }
        Due.question(ledger, "from t0 give c0 +");
        Due.is("12: 1", ledger.fault(), 1);
        Due.question(ledger, "from t0 give c0 + 'a'");
        Due.is("12: 3", ledger.fault(), 3);
        Due.question(ledger, "from t0 give c0");
        Due.question(ledger, "from t0 give c9");
        Due.is("12: FULL leaves it", ledger.fault(), 0);
    }

    private static void tokens() {
        ElevatorLedger ledger = ledger();
        Due.read(ledger, "from\nt0 \n give   c0,c1 , c2\n");
        Due.read(ledger, "from t0where c0<=1and c0>=1or c0<>1give c0+1");
        Due.read(ledger, "from t0 give 123456789012345, 123456789.125, 'abcde', '', 007");
        Due.fault(ledger, 1, "from t0 give c0 + |1234567890123456");
        Due.fault(ledger, 1, "from t0 give c0 + |1234567890.5");
        Due.fault(ledger, 1, "from t0 give c0 + |1.2345");
        Due.fault(ledger, 1, "from t0 give 12|.");
        Due.fault(ledger, 1, "from t0 give |.5");
        Due.fault(ledger, 1, "from t0 give |'abcdef'");
        Due.fault(ledger, 1, "from t0 give |'abc");
        Due.fault(ledger, 1, "from t0 give |'ab1'");
        Due.fault(ledger, 1, "from t0 give c0|1");
        Due.fault(ledger, 1, "from t0 give |cc1");
        Due.fault(ledger, 1, "from t0 give |c");
        Due.fault(ledger, 1, "from t0 give c0 |#");
        Due.fault(ledger, 1, "from t0 give c0|\t");
        Due.fault(ledger, 1, "|From t0 give c0");
        Due.fault(ledger, 1, "|fromt0 give c0");
        Due.fault(ledger, 1, "from t0 where c0 < |> 1 give c0");
        Due.fault(ledger, 1, "from t0 give |givec0");
    }

    private static void grammar() {
        ElevatorLedger ledger = ledger();
        Due.read(ledger, "from t0 join t1 on c0 = d0 where d1 = 'a' group c0, d1 give c0, d1, count order 2 down top 3");
        Due.read(ledger, "from t0 where not (c0 = 1 or not c1 is missing) and {c0 + 1} * 2 > -c1 give {c0}");
        Due.read(ledger, "from t0 give - - c0, -{c0 - 1}, int(c0), whole(c2), real(c0), year(c6) top 5");
        Due.fault(ledger, 1, "from |c0 give c0");
        Due.fault(ledger, 1, "from |give c0");
        Due.fault(ledger, 1, "from t0 join |on c0 = d0 give c0");
        Due.fault(ledger, 1, "from t0 join t1 |give c0");
        Due.fault(ledger, 1, "from t0 join t1 on |= d0 give c0");
        Due.fault(ledger, 1, "from t0 join t1 on |give c0");
        Due.fault(ledger, 1, "from t0 join t1 on c0 |give c0");
        Due.fault(ledger, 1, "from t0 join t1 on c0 |d0 give c0");
        Due.fault(ledger, 1, "from t0 join t1 on c0 = |give c0");
        Due.fault(ledger, 1, "from t0 where |give c0");
        Due.fault(ledger, 1, "from t0 where not |give c0");
        Due.fault(ledger, 1, "from t0 where c0 = |give c0");
        Due.fault(ledger, 1, "from t0 where c0 = 1 and |give c0");
        Due.fault(ledger, 1, "from t0 where c0 is |give c0");
        Due.fault(ledger, 1, "from t0 group |give count");
        Due.fault(ledger, 1, "from t0 group c0, |give count");
        Due.fault(ledger, 1, "from t0 give look(|, c0)");
        Due.fault(ledger, 1, "from t0 give c0 or |, c1");
        Due.fault(ledger, 1, "from t0 give c0 order |down");
        Due.fault(ledger, 1, "from t0 give |order 0");
        Due.fault(ledger, 1, "from t0 join t1 on |d0 = d0 give c0");
        Due.fault(ledger, 1, "from t0 join t1 on c0 |< d0 give c0");
        Due.fault(ledger, 1, "from t0 join t1 on c0 = |c0 give c0");
        Due.fault(ledger, 1, "from t0 group c0, c1|, c2 give count");
        Due.fault(ledger, 1, "from t0 group |1 give count");
        Due.fault(ledger, 1, "from t0 where c0 |give c0");
        Due.fault(ledger, 1, "from t0 where c0 = 1 |= 1 give c0");
        Due.fault(ledger, 1, "from t0 where {c0 |= 1} give c0");
        Due.fault(ledger, 1, "from t0 where (c0 + 1|) = 2 give c0");
        Due.fault(ledger, 1, "from t0 where c0 is |not missing give c0");
        Due.fault(ledger, 1, "from t0 where (c0 = 1 |give c0");
        Due.fault(ledger, 1, "from t0 give |(c0)");
        Due.fault(ledger, 1, "from t0 give {c0|");
        Due.fault(ledger, 1, "from t0 give {c0|)");
        Due.fault(ledger, 1, "from t0 give sum |c0");
        Due.fault(ledger, 1, "from t0 give count|(c0)");
        Due.fault(ledger, 1, "from t0 give count |or missing");
        Due.fault(ledger, 1, "from t0 give sum(c0) |or missing");
        Due.fault(ledger, 1, "from t0 give c0 or |c1");
        Due.fault(ledger, 1, "from t0 give c0 + |count");
        Due.fault(ledger, 1, "from t0 give |t0");
        Due.fault(ledger, 1, "from t0 give look(|c0, c0)");
        Due.fault(ledger, 1, "from t0 give look(|1.0, c0)");
        Due.fault(ledger, 1, "from t0 give look(1 |c0)");
        Due.fault(ledger, 1, "from t0 give c0 order |c0");
        Due.fault(ledger, 1, "from t0 give c0 order 0 down |down");
        Due.fault(ledger, 1, "from t0 give c0 top 1 |order 0");
        Due.fault(ledger, 1, "from t0 give c0 top |-1");
        Due.fault(ledger, 1, "from t0 give c0 top|");
        Due.fault(ledger, 1, "from t0 |order 0 give c0");
        Due.fault(ledger, 1, "from t0|");
        Due.fault(ledger, 1, "from t0 give c0,|");
        Due.fault(ledger, 1, "from t9 give c9 |'a' c9");
    }

    private static void limits() {
        ElevatorLedger ledger = ledger();
        Due.read(ledger, "from t0 give c0, c0, c0, c0, c0, c0");
        Due.fault(ledger, 4, "from t0 give c0, c0, c0, c0, c0, c0, |c0");
        String[] seventh = {"count", "sum(c0)", "least(c0)", "most(c0)", "1", "1.5", "''", "d0", "-1", "{1}", "int(1)",
            "whole(1.5)", "real(1)", "year(1)", "month(1)", "weekday(1)", "look(0, 1)"};
        for (String each : seventh) {
            Due.fault(ledger, 4, "from t0 give c0, c0, c0, c0, c0, c0, |" + each);
        }
        Due.fault(ledger, 1, "from t0 give c0, c0, c0, c0, c0, c0, |not");
        Due.fault(ledger, 1, "from t0 give c0, c0, c0, c0, c0, c0, |missing");
        Due.fault(ledger, 1, "from t0 give c0, c0, c0, c0, c0, c0, |t0");
        Due.read(ledger, "from t0 give " + "1+".repeat(11) + "1");
        Due.fault(ledger, 4, "from t0 give " + "1+".repeat(12) + "|1.5");
        Due.fault(ledger, 4, "from t0 where c0 = 1 give " + "1+".repeat(11) + "|'a'");
        Due.read(ledger, "from t0 give " + "look(0,c0)+".repeat(13) + "c0 order 0 top 1");
        String eighty = "c0+".repeat(39) + "-c0";
        Due.read(ledger, "from t0 give " + eighty);
        Due.is("21: NODES", ledger.form(ledger.count(2) - 1, 6), 80);
        Due.fault(ledger, 4, "from t0 give " + eighty + "|+c0");
        Due.fault(ledger, 4, "from t0 give " + "c0+".repeat(40) + "|c0");
        Due.fault(ledger, 4, "from t0 give " + "c0+".repeat(40) + "|-c0");
        Due.fault(ledger, 4, "from t0 give " + eighty + ", |count");
        Due.fault(ledger, 4, "from t0 give " + eighty + ", |c0");
        Due.fault(ledger, 4, "from t0 where " + eighty + " |is missing give c0");
        Due.fault(ledger, 4, "from t0 where " + "c0+".repeat(39) + "c0 is missing |and c0 = 1 give c0");
        Due.fault(ledger, 4, "from t0 where " + "c0+".repeat(39) + "c0 is missing |or c0 = 1 give c0");
        Due.fault(ledger, 4, "from t0 where " + "c0+".repeat(38) + "c0 is missing and c0 |= 1 give c0");
        inOneAnother(eighty);
    }

    private static void inOneAnother(String eighty) {
        ElevatorLedger ledger = ledger();
        Due.read(ledger, "from t0 join t1 on c0 = d0 group c0, d0 give sum(" + "c0+".repeat(39) + "c0)");
        Due.read(ledger, "from t0 give " + "{".repeat(12) + "c0" + "}".repeat(12));
        Due.fault(ledger, 4, "from t0 give " + "{".repeat(12) + "|{c0" + "}".repeat(13));
        Due.fault(ledger, 1, "from t0 give " + "{".repeat(12) + "c0|)");
        Due.fault(ledger, 1, "from t0 give " + eighty + "|)");
        Due.fault(ledger, 4, "from t0 give " + "-".repeat(12) + "|-c0");
        Due.fault(ledger, 4, "from t0 where " + "not ".repeat(12) + "|not c0 = 1 give c0");
        Due.fault(ledger, 4, "from t0 where " + "(".repeat(12) + "|(c0 = 1" + ")".repeat(13) + " give c0");
        Due.fault(ledger, 4, "from t0 where " + "(not ".repeat(5) + "int(-|{c0}) = 1" + ")".repeat(5) + " give c0");
        Due.fault(ledger, 4, "from t0 give least(" + "int(".repeat(11) + "|look(0, c0)" + ")".repeat(12));
        Due.read(ledger, "from t0 give " + "{".repeat(12) + "c0" + "}".repeat(12) + "+" + "-".repeat(12) + "c0");
        Due.fault(ledger, 1, "from t0 give |; " + "1+".repeat(13) + "1");
        Due.fault(ledger, 4, "from t9 give c9 + 'a' + " + "1+".repeat(11) + "|1");
        Due.fault(ledger, 1, "from t9 give c9 + 'a' |from");
    }

    private static void notThere() {
        ElevatorLedger ledger = ledger();
        Due.fault(ledger, 2, "from |t2 give c0");
        Due.fault(ledger, 2, "from t0 join |t2 on c0 = d0 give c0");
        Due.fault(ledger, 2, "from t0 join t1 on |c7 = d9 give c0");
        Due.fault(ledger, 2, "from t0 join t1 on c0 = |d3 give c0");
        Due.fault(ledger, 2, "from t0 give |d0");
        Due.fault(ledger, 2, "from t0 group |d0 give count");
        Due.fault(ledger, 2, "from t0 group c0, |c8 give c9");
        Due.fault(ledger, 2, "from t0 give look(|3, 'a')");
        Due.fault(ledger, 2, "from t0 give look(|999999999999999, c0)");
        Due.fault(ledger, 2, "from t0 where c0 + |c7 = 'a' give c8");
        ledger.drop(0, 1);
        Due.fault(ledger, 2, "from t0 give |c1");
        ElevatorLedger empty = new ElevatorLedger();
        Due.fault(empty, 2, "from |t0 give count");
    }

    private static void sorts() {
        ElevatorLedger ledger = ledger();
        Due.fault(ledger, 3, "from t0 give c0 |+ c5");
        Due.fault(ledger, 3, "from t0 give c5 |* c0 + c9");
        Due.fault(ledger, 3, "from t0 give c0 |% c2");
        Due.fault(ledger, 3, "from t0 give 1.5 |% 2");
        Due.fault(ledger, 3, "from t0 give c0 + |-c5");
        Due.fault(ledger, 3, "from t0 where c0 |= 'a' give c0");
        Due.fault(ledger, 3, "from t0 where c5 |< c2 give c0");
        Due.fault(ledger, 3, "from t0 give |int(c2)");
        Due.fault(ledger, 3, "from t0 give |int('a')");
        Due.fault(ledger, 3, "from t0 give |whole(c0)");
        Due.fault(ledger, 3, "from t0 give |real(c2)");
        Due.fault(ledger, 3, "from t0 give |year(c2)");
        Due.fault(ledger, 3, "from t0 give |month(c5)");
        Due.fault(ledger, 3, "from t0 give |weekday(1.5)");
        Due.fault(ledger, 3, "from t0 give |look(0, c2)");
        Due.fault(ledger, 2, "from t0 give c5 + c0 * |c7");
        Due.fault(ledger, 3, "from t0 join t1 on c5 |= d0 give c9");
        Due.fault(ledger, 3, "from t0 join t1 on c1 |= d0 give c9");
        Due.fault(ledger, 3, "from t0 join t1 on c2 |= d2 give c0");
        Due.read(ledger, "from t0 join t1 on c5 = d1 give c0");
        Due.read(ledger, "from t0 where c0 = c2 and c5 <= 'b' give c0");
        Due.read(ledger, "from t0 give c0 + c1 % c3 - c4 * c6, real(c0) / c1, c2 - 1, -c2, whole(c2 + 1) % 3");
        Due.read(ledger, "from t0 give year(c0), month(7), weekday(c6), int(c1), look(002, c4), real(c3)");
    }

    private static void items() {
        ElevatorLedger ledger = ledger();
        Due.fault(ledger, 3, "from t0 give |sum(c5)");
        Due.read(ledger, "from t0 give least(c5), most(c5), sum(c2), sum(c0), count");
        Due.fault(ledger, 3, "from t0 give c0, |count");
        Due.fault(ledger, 3, "from t0 give count, |c0 + 1 or missing, c9");
        Due.fault(ledger, 2, "from t0 give count, c0 + |c9");
        Due.fault(ledger, 3, "from t0 group c0 give c0, |c1");
        Due.fault(ledger, 3, "from t0 group c0 give |c0 + 0");
        Due.fault(ledger, 3, "from t0 group c0 give |c0 or missing");
        Due.fault(ledger, 3, "from t0 group c0 give |1");
        Due.fault(ledger, 3, "from t0 join t1 on c0 = d0 group c0 give |d0");
        Due.read(ledger, "from t0 join t1 on c0 = d0 group d0, c1 give c1, count, d0, d0");
        Due.fault(ledger, 3, "from t0 give c0 order |1");
        Due.fault(ledger, 3, "from t0 give c0, c1 order |2 down top 0");
        Due.fault(ledger, 3, "from t0 give c0 order |999999999999999");
        Due.read(ledger, "from t0 give c0, c1 order 01 top 999999999999999");
    }

    private static void constantOf() {
        ElevatorLedger ledger = ledger();
        int q = Due.read(ledger, "from t0 where c0 > 007 and c5 = 'ab' give c2 * 2.5, look(1, 3), -4, 0.125 order 0 top 9");
        Due.is("13: sort 0", ledger.constantOf(q, 0, 0), 0);
        Due.is("13: value 0", ledger.constantOf(q, 0, 1), 7);
        Due.is("13: sort 1", ledger.constantOf(q, 1, 0), 2);
        Due.is("13: value 1", ledger.constantOf(q, 1, 1), Due.text("ab"));
        Due.is("13: sort 2", ledger.constantOf(q, 2, 0), 1);
        Due.is("13: value 2", ledger.constantOf(q, 2, 1), 2500);
        Due.is("13: value 3, not look's number", ledger.constantOf(q, 3, 1), 3);
        Due.is("13: value 4, without its sign", ledger.constantOf(q, 4, 1), 4);
        Due.is("13: value 5", ledger.constantOf(q, 5, 1), 125);
        Due.is("13: none of order, top", ledger.constantOf(q, 6, 1), NO);
        Due.is("13: constant -1", ledger.constantOf(q, -1, 1), NO);
        Due.is("13: what 2", ledger.constantOf(q, 0, 2), NO);
        Due.is("13: what -1", ledger.constantOf(q, 0, -1), NO);
        Due.is("13: question 1", ledger.constantOf(1, 0, 0), NO);
        Due.is("13: question -1", ledger.constantOf(-1, 0, 0), NO);
        int large = Due.read(ledger, "from t0 give 123456789012345, 999999999.999, 'zzzzz', ''");
        Due.is("13: 15 digits", ledger.constantOf(large, 0, 1), 123456789012345L);
        Due.is("13: 9 and 3 digits", ledger.constantOf(large, 1, 1), 999999999999L);
        Due.is("13: five letters", ledger.constantOf(large, 2, 1), Due.text("zzzzz"));
        Due.is("13: no letters", ledger.constantOf(large, 3, 1), 0);
    }

    private static void constant() {
        ElevatorLedger ledger = ledger();
        ledger.row(0);
        int q = Due.read(ledger, "from t0 give 1, 2.5, 'a'");
        int other = Due.read(ledger, "from t0 give 1, 2.5, 'a'");
        Due.is("14: a WHOLE", ledger.constant(q, 0, Long.MIN_VALUE), 1);
        Due.is("14: a REAL", ledger.constant(q, 1, -(1L << 40)), 1);
        Due.is("14: a TEXT", ledger.constant(q, 2, Due.text("zz")), 1);
        Due.is("13: 125 times it", ledger.constantOf(q, 1, 1), -125 * (1L << 40));
        Due.is("13: a WHOLE", ledger.constantOf(q, 0, 1), Long.MIN_VALUE);
        Due.is("13: a TEXT", ledger.constantOf(q, 2, 1), Due.text("zz"));
        Due.is("13: the other question's", ledger.constantOf(other, 1, 1), 2500);
        Due.is("14: a TEXT is not taken to the dictionary", ledger.count(7), 0);
        ledger.ask(q);
        Due.is("14: the answer's REAL", ledger.cell(0, 0, 1), Due.bits(-137438953472.0));
        Due.is("14: the answer's TEXT", ledger.cell(0, 0, 2), Due.text("zz"));
        ledger.ask(other);
        Due.is("14: the other answer's WHOLE", ledger.cell(0, 0, 0), 1);
        Due.is("14: no such REAL", ledger.constant(q, 1, (1L << 40) + 1), -1);
        Due.is("14: no such TEXT", ledger.constant(q, 2, 33), -1);
        Due.is("13: BAD changes nothing", ledger.constantOf(q, 1, 1), -125 * (1L << 40));
        Due.is("14: constant 3", ledger.constant(q, 3, 1), -1);
        Due.is("14: constant -1", ledger.constant(q, -1, 1), -1);
        Due.is("14: question 2", ledger.constant(2, 0, 1), -1);
        Due.is("14: question -1", ledger.constant(-1, 0, 1), -1);
    }

    private static void about() {
        ElevatorLedger ledger = ledger();
        int q = Due.read(ledger, "from t0 give c0 + 1, 2, look(1, 3) order 1 top 1");
        int none = Due.read(ledger, "from t0 give c1");
        Due.is("15: CONSTANTS", ledger.about(q, 0), 3);
        Due.is("15: no CONSTANTS", ledger.about(none, 0), 0);
        Due.is("15: its FORM", ledger.about(none, 1), 1);
        Due.is("15: not GONE", ledger.about(q, 2), 0);
        ledger.drop(0, 0);
        Due.is("15: GONE", ledger.about(q, 2), 1);
        Due.is("15: the other one is not", ledger.about(none, 2), 0);
        Due.is("15: what 3", ledger.about(q, 3), -1);
        Due.is("15: what -1", ledger.about(q, -1), -1);
        Due.is("15: question 2", ledger.about(2, 0), -1);
        Due.is("15: question -1", ledger.about(-1, 0), -1);
    }

    private static void form(ElevatorLedger ledger, String text, int form) {
        int q = Due.read(ledger, text);
        Due.is("15: the FORM of \"" + text + "\"", ledger.about(q, 1), form);
    }

    private static void formsOfTexts() {
        ElevatorLedger ledger = ledger();
        form(ledger, "from t0 give c0 + 1 top 2", 0);
        form(ledger, "from  t0\ngive c0+999 top 002", 0);
        form(ledger, "from t0 give c0 + 1 top 3", 1);
        form(ledger, "from t0 give c0 + 1.0 top 2", 2);
        form(ledger, "from t0 give {c0 + 1} top 2", 3);
        form(ledger, "from t0 give look(1, 2)", 4);
        form(ledger, "from t0 give look(0001, 9)", 4);
        form(ledger, "from t0 give look(2, 2)", 5);
        form(ledger, "from t0 give c5 or missing", 6);
        form(ledger, "from t0 give c5", 7);
        form(ledger, "from t1 give c0 + 1 top 2", 8);
        form(ledger, "from t0 where c5 = 'a' give c0", 9);
        form(ledger, "from t0 where c5 = '' give c0", 9);
        form(ledger, "from t0 give c0 order 0", 10);
        form(ledger, "from t0 give c0 order 0 down", 11);
        Due.is("21: questions of form 0", ledger.form(0, 0), 2);
    }
}
