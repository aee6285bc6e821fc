import java.util.ArrayList;
import java.util.List;

/**
 * "Refused, and nothing changes, the first of these: BAD, STATE, FULL." Twins are made by the same calls; one of them is
 * told the refused call in between, and all that other calls show must be the same of both, now and later.
 */
public final class RefusedCallsTest extends LedgerTest {
    private interface Call {
        long on(ElevatorLedger ledger);
    }

    private interface Maker {
        ElevatorLedger make();
    }

    public static void main(String[] args) {
        Due.by("BAD (a number is not as told, or there is no such thing)", RefusedCallsTest::bad);
        Due.by("STATE", RefusedCallsTest::state);
        Due.by("FULL", RefusedCallsTest::full);
        Due.by("the first of these", RefusedCallsTest::first);
        Due.by("GONE (nothing is done, but that outcome() tells it)", RefusedCallsTest::gone);
        Due.by("calls that only tell", RefusedCallsTest::callsThatOnlyTell);
        Due.by("a FAULT is no question", RefusedCallsTest::faults);
        Due.end();
    }

    /** Something of each kind: MISSING and gone, half a text, a FAULT; FORMS that are KEPT, FALLEN, RETIRED, spoilt. */
    private static ElevatorLedger rich() {
        ElevatorLedger ledger = ledger(sorts(0, 5, 2, 0), of(3, Due.text("ab"), 20, 1), of(GAP, GAP, -4, 2), of(0, 0, GAP, 3));
        add(ledger, sorts(0, 6), of(3, 59), of(3, 400000));
        ledger.table();
        ledger.look(1, 4, 44);
        Due.read(ledger, "from t0 where c0 > 1 give c0 + 7, c2 * 2.5, c1 order 1");
        Due.read(ledger, "from t0 join t1 on c0 = d0 where c0 = 9 and d1 > 0 give d1");
        Due.read(ledger, "from t0 give c3");
        Due.read(ledger, "from t0 where c1 = 'ab' give count, sum(c2)");
        Due.read(ledger, "from t0 give 6 / c0");
        Due.read(ledger, "from t0 where c0 > 2 give c0 + 8, c2 * 1.5, c1 order 1");
        Due.read(ledger, "from t1 give c1");
        ledger.ask(0);
        ledger.ask(1);
        ledger.ask(3);
        ledger.ask(2);
        ledger.spoil(4, 2);
        ledger.ask(4);
        ledger.ask(4);
        ledger.spoil(0, 1);
        ledger.drop(0, 3);
        ledger.ask(0);
        ledger.scan(4);
        Due.fault(ledger, 3, "from t0 give |-c1");
        Due.say(ledger, "from t1 give c0");
        return ledger;
    }

    /** As many as can be of all: TABLES, COLUMNS, ROWS, TEXTS, questions, bytes. */
    private static ElevatorLedger brimful() {
        ElevatorLedger ledger = ledger(sorts(0, 5, 0, 0, 0, 0, 0, 0));
        ledger.table();
        ledger.table();
        for (int c = 0; c < 8; c++) {
            ledger.column(1, c % 7);
        }
        for (int r = 0; r < 40; r++) {
            ledger.row(0);
            ledger.put(0, r, 1, (long) (r / 20 + 1) << 20 | (long) (r % 20 + 1) << 15);
        }
        for (int q = 0; q < 24; q++) {
            Due.read(ledger, "from t0 give c1 top " + q % 3);
        }
        ledger.ask(2);
        ledger.scan(1);
        for (int i = 0; i < 30; i++) {
            ledger.say(0x2020202020202020L, 8);
        }
        return ledger;
    }

    /** All that calls tell without a change. */
    private static void look(ElevatorLedger ledger, List<Long> seen) {
        for (int t = 0; t < 2; t++) {
            for (int r = 0; r < 3; r++) {
                for (int c = 0; c < 4; c++) {
                    seen.add(ledger.value(t, r, c));
                }
            }
        }
        for (int what = 0; what <= 7; what++) {
            seen.add((long) ledger.count(what));
        }
        seen.add((long) ledger.fault());
        seen.add((long) ledger.retired(0));
        seen.add((long) ledger.retired(1));
        for (int q = 0; q < 8; q++) {
            seen.add(ledger.constantOf(q, 0, 1));
            seen.add(ledger.constantOf(q, 2, 1));
            seen.add((long) ledger.about(q, 2));
        }
        for (int f = 0; f < 7; f++) {
            for (int what = 0; what <= 5; what++) {
                seen.add((long) ledger.form(f, what));
            }
        }
        answer(ledger, 0, seen);
        answer(ledger, 1, seen);
    }

    private static void answer(ElevatorLedger ledger, int which, List<Long> seen) {
        for (int what = 0; what <= 6; what++) {
            seen.add((long) ledger.outcome(which, what));
        }
        for (int r = 0; r < 2; r++) {
            for (int c = 0; c < 2; c++) {
                seen.add(ledger.cell(which, r, c));
                seen.add((long) ledger.isMissing(which, r, c));
            }
        }
    }

    /** What shows only later: THE TEXT, which FORM was asked longest ago, how often one fell back, which STARTS fail. */
    private static void goOn(ElevatorLedger ledger, List<Long> seen) {
        seen.add((long) ledger.say(' ', 1));
        seen.add((long) ledger.question());
        seen.add((long) ledger.fault());
        int[] asked = {4, 4, 6, 1, 5, 3, 2, 0, 4, 7};
        for (int q : asked) {
            seen.add((long) ledger.ask(q));
            seen.add((long) ledger.outcome(0, 1));
            seen.add((long) ledger.outcome(0, 5));
            for (int f = 0; f < 7; f++) {
                seen.add((long) ledger.form(f, 1));
            }
        }
        seen.add((long) ledger.column(2, 0));
        seen.add((long) ledger.row(0));
        seen.add((long) ledger.row(2));
        seen.add((long) ledger.table());
        seen.add((long) ledger.missing(0, 1, 0));
        seen.add((long) ledger.put(0, 1, 0, 4));
        Due.say(ledger, "from t0 give look(1, c0)");
        seen.add((long) ledger.question());
        seen.add((long) ledger.scan(8));
        seen.add(ledger.cell(1, 1, 0));
    }

    private static void changesNothing(String name, Maker maker, long due, Call refused) {
        ElevatorLedger one = maker.make();
        ElevatorLedger other = maker.make();
        Due.is(name, refused.on(one), due);
        same(name, one, other);
    }

    private static void same(String name, ElevatorLedger one, ElevatorLedger other) {
        List<Long> ofOne = new ArrayList<>();
        List<Long> ofOther = new ArrayList<>();
        look(one, ofOne);
        look(other, ofOther);
        Due.holds(name + ": nothing that is told changes", ofOne.equals(ofOther));
        goOn(one, ofOne);
        goOn(other, ofOther);
        Due.holds(name + ": nothing that shows later changes", ofOne.equals(ofOther));
    }

    private static void isBad(String name, Call call) {
        changesNothing(name, RefusedCallsTest::rich, BAD, call);
    }

    private static void bad() {
        isBad("column of no TABLE", x -> x.column(3, 0));
        isBad("column of no SORT", x -> x.column(2, 7));
        isBad("row of no TABLE", x -> x.row(3));
        isBad("put of no such INT", x -> x.put(0, 1, 0, 1L << 31));
        isBad("put of no such REAL", x -> x.put(0, 2, 2, (1L << 40) + 1));
        isBad("put of no such TEXT", x -> x.put(0, 1, 1, 33));
        isBad("put of no such DAY", x -> x.put(1, 0, 1, 400001));
        isBad("put to no ROW", x -> x.put(0, 3, 0, 1));
        isBad("put to no COLUMN", x -> x.put(0, 0, 4, 1));
        isBad("put to a COLUMN that is gone", x -> x.put(0, 0, 3, 1));
        isBad("missing of no ROW", x -> x.missing(0, 3, 0));
        isBad("missing of a COLUMN that is gone", x -> x.missing(0, 0, 3));
        isBad("missing of no TABLE", x -> x.missing(-1, 0, 0));
        isBad("look at no LOOK-UP", x -> x.look(3, 4, 5));
        isBad("look at no place", x -> x.look(1, 10, 5));
        isBad("look ahead of its places", x -> x.look(2, -6, 5));
        isBad("drop of a COLUMN that is gone", x -> x.drop(0, 3));
        isBad("drop of no COLUMN", x -> x.drop(0, 4));
        isBad("drop of no TABLE", x -> x.drop(3, 0));
        isBad("say of no bytes", x -> x.say(' ', 0));
        isBad("say of nine bytes", x -> x.say(' ', 9));
        isBad("constant of no such REAL", x -> x.constant(0, 2, (1L << 40) + 1));
        isBad("constant of no such TEXT", x -> x.constant(3, 0, 1));
        isBad("constant that is not there", x -> x.constant(0, 3, 1));
        isBad("constant of no question", x -> x.constant(7, 0, 1));
        isBad("ask of no question", x -> x.ask(7));
        isBad("ask of question -1", x -> x.ask(-1));
        isBad("scan of no question", x -> x.scan(7));
        isBad("spoil of no FORM", x -> x.spoil(6, 1));
        isBad("spoil of ten", x -> x.spoil(0, 10));
        isBad("spoil of -1", x -> x.spoil(4, -1));
        isBad("form of no FORM", x -> x.form(6, 0));
        isBad("count of nothing", x -> x.count(8));
        isBad("outcome of nothing", x -> x.outcome(0, 7));
        isBad("isMissing of no row", x -> x.isMissing(0, 9, 0));
        isBad("about of no question", x -> x.about(7, 0));
    }

    private static void state() {
        changesNothing("column of a TABLE with ROWS", RefusedCallsTest::rich, STATE, x -> x.column(0, 0));
        changesNothing("column of a TABLE with ROWS", RefusedCallsTest::rich, STATE, x -> x.column(1, 6));
    }

    private static void isFull(String name, Call call) {
        changesNothing(name, RefusedCallsTest::brimful, FULL, call);
    }

    private static void full() {
        isFull("the fourth TABLE", x -> x.table());
        isFull("the ninth COLUMN", x -> x.column(1, 0));
        isFull("the 41st ROW", x -> x.row(0));
        isFull("the 41st TEXT", x -> x.put(0, 0, 1, Due.text("zzzzz")));
        isFull("the 241st byte", x -> x.say('x', 1));
        isFull("eight bytes more", x -> x.say(-1, 8));
        isFull("the 25th question", x -> x.question());
    }

    private static void first() {
        ElevatorLedger ledger = brimful();
        Due.is("column: BAD ahead of STATE and FULL", ledger.column(0, 7), BAD);
        Due.is("column: STATE ahead of FULL", ledger.column(0, 0), STATE);
        Due.is("column: FULL", ledger.column(1, 0), FULL);
        Due.is("column: BAD ahead of FULL", ledger.column(1, -1), BAD);
        Due.is("put: BAD ahead of FULL, no ROW", ledger.put(0, 40, 1, Due.text("zzzzz")), BAD);
        Due.is("put: BAD ahead of FULL, no TEXT", ledger.put(0, 0, 1, Due.text("zzzzz") + 1), BAD);
        Due.is("put: FULL", ledger.put(0, 0, 1, Due.text("zzzzz")), FULL);
        Due.is("say: BAD ahead of FULL", ledger.say(0, 9), BAD);
        Due.is("say: FULL", ledger.say(0, 8), FULL);
        Due.is("row: BAD", ledger.row(3), BAD);
        Due.is("row: FULL", ledger.row(0), FULL);
    }

    private static void gone() {
        ElevatorLedger one = rich();
        ElevatorLedger other = rich();
        Due.is("ask", one.ask(2), GONE);
        Due.is("its outcome", one.outcome(0, 0), GONE);
        Due.is("the scan's stays", one.outcome(1, 0), FAILED);
        // What outcome() tells of it is told away by another ask.
        one.ask(0);
        other.ask(0);
        same("ask of a question that is GONE", one, other);
        ElevatorLedger scanning = rich();
        ElevatorLedger twin = rich();
        Due.is("scan", scanning.scan(2), GONE);
        Due.is("the ask's stays", scanning.outcome(0, 0), 1);
        scanning.scan(4);
        twin.scan(4);
        same("scan of a question that is GONE", scanning, twin);
    }

    private static void tells(String name, long due, Call call) {
        changesNothing(name, RefusedCallsTest::rich, due, call);
    }

    private static void callsThatOnlyTell() {
        tells("value", 3, x -> x.value(0, 0, 0));
        tells("value of none", NO, x -> x.value(0, 9, 0));
        tells("fault", 3, x -> x.fault());
        tells("constantOf", 2500, x -> x.constantOf(0, 2, 1));
        tells("constantOf of none", NO, x -> x.constantOf(0, 9, 1));
        tells("about", 3, x -> x.about(0, 0));
        tells("outcome", 1, x -> x.outcome(0, 0));
        tells("cell", 10, x -> x.cell(0, 0, 0));
        tells("isMissing", 0, x -> x.isMissing(0, 0, 0));
        tells("form", 2, x -> x.form(0, 0));
        tells("retired", 2, x -> x.retired(0));
        tells("retired of none", NONE, x -> x.retired(1));
        tells("count", 3, x -> x.count(4));
    }

    private static void faults() {
        String[] texts = {"from", "from t0 give c9", "from t0 give -c1", "from t0 give c0,c0,c0,c0,c0,c0,c0"};
        for (String text : texts) {
            ElevatorLedger one = rich();
            ElevatorLedger other = rich();
            Due.is("the text that was half said", one.question(), 7);
            Due.is("the text that was half said", other.question(), 7);
            Due.holds("a FAULT", Due.question(one, text) <= -100);
            Due.fault(one, 3, "from t0 give |-c1");
            Due.fault(other, 3, "from t0 give |-c1");
            same("the FAULT of \"" + text + "\"", one, other);
        }
    }
}
