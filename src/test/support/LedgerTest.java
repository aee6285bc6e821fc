/** What tests of answers share: ledgers of a few ROWS, and the answers, FAILURES, FAULTS that are due. */
abstract class LedgerTest {
    static final long NO = Long.MIN_VALUE;
    static final int BAD = -1, STATE = -2, FULL = -3, FAILED = -5, TOO_MANY = -6, GONE = -7, NONE = -9;
    /** FAILURES. */
    static final int ZERO = 1, INDEX = 2, NARROW = 3, LARGE = 4;
    /** Stands for MISSING; NO cannot, as it is a WHOLE, and the bits of -0.0. */
    static final long GAP = 0x5151515151515151L;

    static long[] of(long... values) {
        return values;
    }

    static int[] sorts(int... sorts) {
        return sorts;
    }

    /** t0 with COLUMNS of these SORTS, and ROWS of these VALUES. */
    static ElevatorLedger ledger(int[] sorts, long[]... rows) {
        ElevatorLedger ledger = new ElevatorLedger();
        add(ledger, sorts, rows);
        return ledger;
    }

    /** One more TABLE. */
    static void add(ElevatorLedger ledger, int[] sorts, long[]... rows) {
        int table = ledger.table();
        for (int sort : sorts) {
            ledger.column(table, sort);
        }
        for (long[] values : rows) {
            int row = ledger.row(table);
            for (int c = 0; c < values.length; c++) {
                if (values[c] != GAP) {
                    Due.is("put", ledger.put(table, row, c, values[c]), 1);
                }
            }
        }
    }

    /** t0, t1: a COLUMN of each SORT, which bears its number; t2 is not there. */
    static ElevatorLedger ofAllSorts() {
        ElevatorLedger ledger = ledger(sorts(0, 1, 2, 3, 4, 5, 6));
        add(ledger, sorts(0, 1, 2, 3, 4, 5, 6));
        return ledger;
    }

    /** A text that has no FAULT, told to a new object. */
    static void reads(String text) {
        Due.read(ofAllSorts(), text);
    }

    /** A text that has that FAULT where the mark | stands, told to a new object. */
    static void faults(int fault, String marked) {
        Due.fault(ofAllSorts(), fault, marked);
    }

    private static int answer(ElevatorLedger ledger, int which, int question) {
        return which == 0 ? ledger.ask(question) : ledger.scan(question);
    }

    /** Asks and scans; the rows that are due. */
    static void answers(ElevatorLedger ledger, String text, long[]... rows) {
        int q = Due.read(ledger, text);
        for (int which = 0; which <= 1; which++) {
            Due.is(text + ": rows", answer(ledger, which, q), rows.length);
            Due.is(text + ": outcome 0", ledger.outcome(which, 0), rows.length);
            Due.is(text + ": no FAILURE", ledger.outcome(which, 2), 0);
            Due.is(text + ": none behind the last row", ledger.isMissing(which, rows.length, 0), BAD);
            for (int r = 0; r < rows.length; r++) {
                Due.is(text + ": items", ledger.outcome(which, 6), rows[r].length);
                for (int c = 0; c < rows[r].length; c++) {
                    String at = text + ": " + which + " at " + r + ", " + c;
                    Due.is(at, ledger.cell(which, r, c), rows[r][c] == GAP ? NO : rows[r][c]);
                    Due.is(at + " is MISSING", ledger.isMissing(which, r, c), rows[r][c] == GAP ? 1 : 0);
                }
            }
        }
    }

    static void fails(ElevatorLedger ledger, String text, int failure, int row, int item) {
        ends(ledger, text, FAILED, failure, row, item);
    }

    static void isTooMany(ElevatorLedger ledger, String text) {
        ends(ledger, text, TOO_MANY, 0, NONE, NONE);
    }

    private static void ends(ElevatorLedger ledger, String text, int how, int failure, int row, int item) {
        int q = Due.read(ledger, text);
        for (int which = 0; which <= 1; which++) {
            Due.is(text, answer(ledger, which, q), how);
            Due.is(text + ": outcome 0", ledger.outcome(which, 0), how);
            Due.is(text + ": FAILURE", ledger.outcome(which, 2), failure);
            Due.is(text + ": ROW", ledger.outcome(which, 3), row);
            Due.is(text + ": item", ledger.outcome(which, 4), item);
            Due.is(text + ": no rows", ledger.cell(which, 0, 0), NO);
            Due.is(text + ": no rows", ledger.isMissing(which, 0, 0), BAD);
        }
    }

    /** How many PAIRS are looked at by CODE, and by the scan. */
    static void looksAt(ElevatorLedger ledger, String text, int byCode, int byScan) {
        int q = Due.read(ledger, text);
        ledger.ask(q);
        ledger.scan(q);
        Due.is(text + ": VISITED by CODE", ledger.outcome(0, 5), byCode);
        Due.is(text + ": VISITED by scan", ledger.outcome(1, 5), byScan);
    }
}
