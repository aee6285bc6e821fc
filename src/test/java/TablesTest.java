/** Promises 1 to 9: a new object, and the calls on tables. */
public final class TablesTest {
    private static final long NO = ElevatorLedger.NO;

    public static void main(String[] args) {
        newObject();
        table();
        column();
        row();
        put();
        putTexts();
        missing();
        value();
        look();
        drop();
        dropRetires();
        Due.end();
    }

    /** A ledger with one TABLE that has a COLUMN of each SORT (its number is the SORT's), and two ROWS. */
    private static ElevatorLedger ofAllSorts() {
        ElevatorLedger ledger = new ElevatorLedger();
        ledger.table();
        for (int sort = 0; sort <= 6; sort++) {
            ledger.column(0, sort);
        }
        ledger.row(0);
        ledger.row(0);
        return ledger;
    }

    private static void newObject() {
        ElevatorLedger ledger = new ElevatorLedger();
        for (int what = 0; what <= 7; what++) {
            Due.is("1: count(" + what + ")", ledger.count(what), 0);
        }
        Due.is("1: fault()", ledger.fault(), 0);
        Due.is("1: retired(0)", ledger.retired(0), -9);
        Due.is("1: outcome(0, 0)", ledger.outcome(0, 0), -1);
        Due.is("1: outcome(1, 0)", ledger.outcome(1, 0), -1);
        Due.is("1: cell(0, 0, 0)", ledger.cell(0, 0, 0), NO);
        Due.is("1: isMissing(1, 0, 0)", ledger.isMissing(1, 0, 0), -1);
        Due.is("1: value(0, 0, 0)", ledger.value(0, 0, 0), NO);
        Due.is("1: about(0, 0)", ledger.about(0, 0), -1);
        Due.is("1: form(0, 0)", ledger.form(0, 0), -1);
        Due.is("1: ask(0)", ledger.ask(0), -1);
        Due.is("1: row(0)", ledger.row(0), -1);
        Due.is("1: audit()", ledger.audit(), 0);
        Due.is("1: question() of no text", ledger.question(), -100);
    }

    private static void table() {
        ElevatorLedger ledger = new ElevatorLedger();
        for (int i = 0; i < 3; i++) {
            Due.is("2: table()", ledger.table(), i);
            Due.is("2: count(0)", ledger.count(0), i + 1);
        }
        Due.is("2: table(), the fourth", ledger.table(), -3);
        Due.is("2: count(0)", ledger.count(0), 3);
    }

    private static void column() {
        ElevatorLedger ledger = new ElevatorLedger();
        Due.is("3: no table", ledger.column(0, 0), -1);
        ledger.table();
        Due.is("3: table -1", ledger.column(-1, 0), -1);
        Due.is("3: table 1", ledger.column(1, 0), -1);
        Due.is("3: sort -1", ledger.column(0, -1), -1);
        Due.is("3: sort 7", ledger.column(0, 7), -1);
        for (int i = 0; i < 8; i++) {
            Due.is("3: column", ledger.column(0, i % 7), i);
        }
        Due.is("3: the ninth", ledger.column(0, 0), -3);
        Due.is("3: the ninth of no sort", ledger.column(0, 9), -1);
        ledger.drop(0, 3);
        Due.is("3: one that is gone counts", ledger.column(0, 0), -3);
        ledger.row(0);
        Due.is("3: STATE ahead of FULL", ledger.column(0, 0), -2);
        Due.is("3: BAD ahead of STATE", ledger.column(0, 7), -1);
        ledger.table();
        ledger.column(1, 0);
        ledger.drop(1, 0);
        Due.is("3: a number is not told anew", ledger.column(1, 0), 1);
    }

    private static void row() {
        ElevatorLedger ledger = new ElevatorLedger();
        ledger.table();
        ledger.column(0, 0);
        Due.is("4: table -1", ledger.row(-1), -1);
        Due.is("4: table 1", ledger.row(1), -1);
        for (int i = 0; i < 40; i++) {
            Due.is("4: row", ledger.row(0), i);
            Due.is("4: it is MISSING", ledger.value(0, i, 0), NO);
        }
        Due.is("4: the 41st", ledger.row(0), -3);
        ledger.table();
        Due.is("4: of a table without columns", ledger.row(1), 0);
    }

    private static void fits(ElevatorLedger ledger, int sort, long v, boolean does) {
        ledger.missing(0, 0, sort);
        Due.is("5: put(0, 0, " + sort + ", " + v + ")", ledger.put(0, 0, sort, v), does ? 1 : -1);
        Due.is("5: value of that", ledger.value(0, 0, sort), does ? v : NO);
    }

    private static void edges(ElevatorLedger ledger, int sort, long least, long most) {
        fits(ledger, sort, least, true);
        fits(ledger, sort, most, true);
        fits(ledger, sort, least - 1, false);
        fits(ledger, sort, most + 1, false);
    }

    private static void put() {
        ElevatorLedger ledger = ofAllSorts();
        edges(ledger, 0, Integer.MIN_VALUE, Integer.MAX_VALUE);
        fits(ledger, 1, Long.MAX_VALUE, true);
        fits(ledger, 1, Long.MIN_VALUE + 1, true);
        edges(ledger, 2, -(1L << 40), 1L << 40);
        edges(ledger, 3, 0, 1);
        edges(ledger, 4, -128, 127);
        edges(ledger, 6, -400000, 400000);
        fits(ledger, 5, 0, true);
        fits(ledger, 5, Due.text("a"), true);
        fits(ledger, 5, Due.text("zzzzz"), true);
        fits(ledger, 5, -1, false);
        fits(ledger, 5, 1, false);
        fits(ledger, 5, 33, false);
        fits(ledger, 5, 27L << 20, false);
        fits(ledger, 5, 31L << 20 | 1L << 15, false);
        fits(ledger, 5, 1L << 20 | 1L << 10, false);
        fits(ledger, 5, 1L << 25, false);
        fits(ledger, 5, 1L << 32 | 1L << 20, false);
        Due.is("5: table -1", ledger.put(-1, 0, 0, 1), -1);
        Due.is("5: table 1", ledger.put(1, 0, 0, 1), -1);
        Due.is("5: row -1", ledger.put(0, -1, 0, 1), -1);
        Due.is("5: row 2", ledger.put(0, 2, 0, 1), -1);
        Due.is("5: column -1", ledger.put(0, 0, -1, 1), -1);
        Due.is("5: column 7", ledger.put(0, 0, 7, 1), -1);
        ledger.put(0, 0, 0, 5);
        Due.is("5: another value", ledger.put(0, 0, 0, 6), 1);
        Due.is("5: it is that", ledger.value(0, 0, 0), 6);
        Due.is("5: the other row's stays", ledger.value(0, 1, 0), NO);
        ledger.put(0, 0, 0, 1L << 31);
        Due.is("5: BAD changes nothing", ledger.value(0, 0, 0), 6);
        ledger.drop(0, 0);
        Due.is("5: a column that is gone", ledger.put(0, 0, 0, 1), -1);
    }

    private static void putTexts() {
        ElevatorLedger ledger = ofAllSorts();
        for (int i = 0; i < 40; i++) {
            Due.is("5: a text", ledger.put(0, i % 2, 5, (long) (i / 20 + 1) << 20 | (long) (i % 20 + 1) << 15), 1);
            Due.is("5: texts", ledger.count(7), i + 1);
        }
        long before = ledger.value(0, 0, 5);
        Due.is("5: the 41st text", ledger.put(0, 0, 5, Due.text("zz")), -3);
        Due.is("5: the 41st, which is none", ledger.put(0, 0, 5, 1), -1);
        Due.is("5: FULL changes nothing", ledger.value(0, 0, 5), before);
        Due.is("5: one that is there", ledger.put(0, 0, 5, Due.text("aa")), 1);
        Due.is("5: texts", ledger.count(7), 40);
        Due.is("5: other sorts", ledger.put(0, 0, 0, 7), 1);
        ElevatorLedger two = ofAllSorts();
        two.table();
        two.column(1, 5);
        two.row(1);
        two.put(0, 0, 5, Due.text("a"));
        two.put(1, 0, 0, Due.text("a"));
        Due.is("5: one dictionary for all tables", two.count(7), 1);
        two.put(1, 0, 0, 0);
        Due.is("5: the text of no letters is one", two.count(7), 2);
    }

    private static void missing() {
        ElevatorLedger ledger = ofAllSorts();
        ledger.put(0, 1, 2, 8);
        Due.is("6: it was there", ledger.missing(0, 1, 2), 1);
        Due.is("6: it is MISSING", ledger.value(0, 1, 2), NO);
        Due.is("6: it was not", ledger.missing(0, 1, 2), 0);
        Due.is("6: never put", ledger.missing(0, 0, 0), 0);
        Due.is("6: table -1", ledger.missing(-1, 0, 0), -1);
        Due.is("6: table 1", ledger.missing(1, 0, 0), -1);
        Due.is("6: row -1", ledger.missing(0, -1, 0), -1);
        Due.is("6: row 2", ledger.missing(0, 2, 0), -1);
        Due.is("6: column -1", ledger.missing(0, 0, -1), -1);
        Due.is("6: column 7", ledger.missing(0, 0, 7), -1);
        ledger.drop(0, 2);
        Due.is("6: a column that is gone", ledger.missing(0, 1, 2), -1);
    }

    private static void value() {
        ElevatorLedger ledger = ofAllSorts();
        ledger.put(0, 1, 2, -12);
        Due.is("7: of a REAL 8 times it", ledger.value(0, 1, 2), -12);
        Due.is("7: MISSING", ledger.value(0, 0, 2), NO);
        Due.is("7: table -1", ledger.value(-1, 0, 0), NO);
        Due.is("7: table 3", ledger.value(3, 0, 0), NO);
        Due.is("7: row -1", ledger.value(0, -1, 2), NO);
        Due.is("7: row 2", ledger.value(0, 2, 2), NO);
        Due.is("7: column -1", ledger.value(0, 1, -1), NO);
        Due.is("7: column 7", ledger.value(0, 1, 7), NO);
        ledger.drop(0, 2);
        Due.is("7: gone", ledger.value(0, 1, 2), NO);
    }

    private static void look() {
        ElevatorLedger ledger = ofAllSorts();
        Due.is("8: look(2, 9)", ledger.look(2, 9, Long.MIN_VALUE), 1);
        Due.is("8: look(0, 0)", ledger.look(0, 0, 5), 1);
        Due.is("8: look-up -1", ledger.look(-1, 0, 5), -1);
        Due.is("8: look-up 3", ledger.look(3, 0, 5), -1);
        Due.is("8: place -1", ledger.look(0, -1, 5), -1);
        Due.is("8: place 10", ledger.look(0, 10, 5), -1);
        ledger.put(0, 0, 0, 9);
        ledger.put(0, 1, 0, 0);
        int asked = Due.read(ledger, "from t0 give look(2, c0) + 1, look(0, c0), look(1, c0)");
        ledger.ask(asked);
        Due.is("8: at 9", ledger.cell(0, 0, 0), Long.MIN_VALUE + 1);
        Due.is("8: 0 at first", ledger.cell(0, 0, 1), 0);
        Due.is("8: at 0", ledger.cell(0, 1, 1), 5);
        Due.is("8: another look-up", ledger.cell(0, 1, 2), 0);
    }

    private static void drop() {
        ElevatorLedger ledger = ofAllSorts();
        Due.is("9: table -1", ledger.drop(-1, 0), -1);
        Due.is("9: table 1", ledger.drop(1, 0), -1);
        Due.is("9: column -1", ledger.drop(0, -1), -1);
        Due.is("9: column 7", ledger.drop(0, 7), -1);
        Due.is("9: of no form", ledger.drop(0, 1), 0);
        Due.is("9: it is gone already", ledger.drop(0, 1), -1);
        Due.fault(ledger, 2, "from t0 give |c1");
    }

    private static void dropRetires() {
        ElevatorLedger ledger = ofAllSorts();
        ledger.table();
        ledger.column(1, 0);
        ledger.column(1, 4);
        int where = Due.read(ledger, "from t0 where c4 = 1 give c0");
        int item = Due.read(ledger, "from t0 give least(c4)");
        int grouped = Due.read(ledger, "from t0 group c0, c4 give count");
        int on = Due.read(ledger, "from t0 join t1 on c4 = d1 give d0");
        int self = Due.read(ledger, "from t1 join t0 on c1 = d4 give c0");
        int other = Due.read(ledger, "from t1 join t0 on c0 = d0 give c1");
        int again = Due.read(ledger, "from t0 where c4 = 2 give c0");
        Due.is("9: the forms that tell t0's column 4", ledger.drop(0, 4), 5);
        for (int i = 0; i < 5; i++) {
            Due.is("23: retired(" + i + ")", ledger.retired(i), i);
        }
        Due.is("23: behind the last", ledger.retired(5), -9);
        int[] all = {where, item, grouped, on, self, again};
        for (int each : all) {
            Due.is("9: question " + each + " is GONE", ledger.about(each, 2), 1);
        }
        Due.is("9: column 4 of another table", ledger.about(other, 2), 0);
        Due.is("9: BAD", ledger.drop(0, 4), -1);
        Due.is("23: BAD leaves them", ledger.retired(4), 4);
        Due.is("9: those that are RETIRED already are not told", ledger.drop(0, 0), 1);
        Due.is("23: just the new one", ledger.retired(0), ledger.about(other, 1));
        Due.is("23: no second", ledger.retired(1), -9);
    }
}
