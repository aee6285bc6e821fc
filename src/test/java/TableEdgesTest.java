/**
 * Section 1 and promises 1 to 9: each sentence that names an edge, at the last input that is allowed and at the first
 * that is not.
 */
public final class TableEdgesTest extends LedgerTest {
    private static final int INT = 0, LONG = 1, REAL = 2, TRUTH = 3, CODE = 4, TEXT = 5, DAY = 6;
    /** Numbers that no TABLE, ROW, COLUMN, LOOK-UP, place can have. */
    private static final int[] WILD = {Integer.MIN_VALUE, -1, 40, 256, 65536, Integer.MAX_VALUE};

    public static void main(String[] args) {
        Due.by("used for at most 512 calls", TableEdgesTest::call512);
        Due.by("1 TABLES (3 at most)", TableEdgesTest::threeTables);
        Due.by("COLUMNS (8 at most", TableEdgesTest::eightColumns);
        Due.by("also those that are gone", TableEdgesTest::goneColumnsCount);
        Due.by("SORTS: 0 .. 6", TableEdgesTest::sevenSorts);
        Due.by("0 INT (32 bits)", () -> range(INT, Integer.MIN_VALUE, Integer.MAX_VALUE));
        Due.by("1 LONG", TableEdgesTest::longs);
        Due.by("2 REAL: 8 times it, -2^40 .. 2^40", () -> range(REAL, -1099511627776L, 1099511627776L));
        Due.by("it is that by 8", TableEdgesTest::realsByEight);
        Due.by("3 TRUTH (0, 1)", () -> range(TRUTH, 0, 1));
        Due.by("4 CODE (-128 .. 127)", () -> range(CODE, -128, 127));
        Due.by("6 DAY (-400000 .. 400000", () -> range(DAY, -400000, 400000));
        Due.by("0 being January 1, 2000", TableEdgesTest::dayZero);
        Due.by("5 TEXT (up to 5 letters a to z", TableEdgesTest::upToFiveLetters);
        Due.by("1 .. 26", TableEdgesTest::letters);
        Due.by("0 behind the last one", TableEdgesTest::noLetterBehindTheLast);
        Due.by("by A DICTIONARY of 40", TableEdgesTest::fortyTexts);
        Due.by("A DICTIONARY: one for all", TableEdgesTest::oneDictionary);
        Due.by("a TEXT that would be the 41st of A DICTIONARY", TableEdgesTest::textsStayInTheDictionary);
        Due.by("TEXTS are less by their letters, from the first on, none being the least", TableEdgesTest::textsAreLess);
        Due.by("ROWS (40 at most)", TableEdgesTest::fortyRows);
        Due.by("all MISSING at first", TableEdgesTest::allMissingAtFirst);
        Due.by("LOOK-UPS 0 .. 2 are rows of ten", TableEdgesTest::threeLookUpsOfTen);
        Due.by("whole numbers (64 bits), 0 at first", TableEdgesTest::lookUpNumbers);
        Due.by("Promise 1: Nothing is there", TableEdgesTest::nothingIsThere);
        Due.by("Promise 2: its number", TableEdgesTest::objectsShareNothing);
        Due.by("Promise 3: BAD; STATE: it has ROWS; FULL", TableEdgesTest::columnIsRefused);
        Due.by("Promise 4: BAD; FULL", TableEdgesTest::rowIsRefused);
        Due.by("Promise 5: BAD (no such VALUE; no ROW, COLUMN, or it is gone); FULL", TableEdgesTest::putIsRefused);
        Due.by("Promise 6: A VALUE is MISSING: 1, it was there, 0", TableEdgesTest::missingTells);
        Due.by("Promise 6: BAD", TableEdgesTest::missingIsRefused);
        Due.by("Promise 7: NO: MISSING, or there is none such", TableEdgesTest::noValue);
        Due.by("Promise 8: a place (0 .. 9); BAD", TableEdgesTest::lookIsRefused);
        Due.by("Promise 9: its number is not told anew", TableEdgesTest::numbersAreNotToldAnew);
        Due.by("Promise 9: how many FORMS are RETIRED by that", TableEdgesTest::dropTellsForms);
        Due.by("Promise 9: BAD", TableEdgesTest::dropIsRefused);
        Due.end();
    }

    private static void call512() {
        ElevatorLedger ledger = new ElevatorLedger();
        for (int call = 1; call <= 510; call++) {
            Due.is("call " + call, ledger.count(0), 0);
        }
        Due.is("call 511", ledger.table(), 0);
        Due.is("call 512", ledger.count(0), 1);
    }

    private static void threeTables() {
        ElevatorLedger ledger = new ElevatorLedger();
        Due.is("the first", ledger.table(), 0);
        Due.is("the second", ledger.table(), 1);
        Due.is("the third", ledger.table(), 2);
        Due.is("the fourth", ledger.table(), FULL);
        Due.is("there are", ledger.count(0), 3);
        Due.is("a COLUMN of the third", ledger.column(2, INT), 0);
        Due.is("a COLUMN of the fourth", ledger.column(3, INT), BAD);
    }

    private static void eightColumns() {
        ElevatorLedger ledger = new ElevatorLedger();
        ledger.table();
        ledger.table();
        for (int i = 0; i < 8; i++) {
            Due.is("COLUMN " + i, ledger.column(0, INT), i);
        }
        Due.is("the ninth", ledger.column(0, INT), FULL);
        Due.is("of another TABLE", ledger.column(1, INT), 0);
        ledger.row(0);
        Due.is("the eighth has VALUES", ledger.put(0, 0, 7, 77), 1);
        Due.is("the eighth's VALUE", ledger.value(0, 0, 7), 77);
        Due.is("the ninth has none", ledger.put(0, 0, 8, 77), BAD);
        answers(ledger, "from t0 give c7", of(77));
        Due.fault(ledger, 2, "from t0 give |c8");
    }

    private static void goneColumnsCount() {
        ElevatorLedger ledger = new ElevatorLedger();
        ledger.table();
        for (int i = 0; i < 7; i++) {
            ledger.column(0, INT);
            Due.is("it is gone", ledger.drop(0, i), 0);
        }
        Due.is("the eighth, when seven are gone", ledger.column(0, INT), 7);
        Due.is("the ninth, when seven are gone", ledger.column(0, INT), FULL);
        ledger.drop(0, 7);
        Due.is("the ninth, when all are gone", ledger.column(0, INT), FULL);
    }

    private static void sevenSorts() {
        ElevatorLedger ledger = new ElevatorLedger();
        ledger.table();
        Due.is("SORT -1", ledger.column(0, -1), BAD);
        Due.is("SORT 0", ledger.column(0, INT), 0);
        Due.is("SORT 6", ledger.column(0, DAY), 1);
        Due.is("SORT 7", ledger.column(0, 7), BAD);
        for (int wild : WILD) {
            Due.is("SORT " + wild, ledger.column(0, wild), BAD);
        }
        Due.is("no number is told to those", ledger.column(0, REAL), 2);
    }

    private static void allows(int sort, long v) {
        ElevatorLedger ledger = ledger(sorts(sort), of(GAP));
        Due.is("put of " + v, ledger.put(0, 0, 0, v), 1);
        Due.is("value of " + v, ledger.value(0, 0, 0), v);
        Due.is(v + " was there", ledger.missing(0, 0, 0), 1);
    }

    private static void forbids(int sort, long v, long allowed) {
        ElevatorLedger ledger = ledger(sorts(sort), of(GAP), of(allowed));
        Due.is("put of " + v, ledger.put(0, 0, 0, v), BAD);
        Due.is(v + " was not there", ledger.missing(0, 0, 0), 0);
        Due.is("put of " + v + " in place of another", ledger.put(0, 1, 0, v), BAD);
        Due.is("the other one stays", ledger.value(0, 1, 0), allowed);
        Due.is("TEXTS", ledger.count(7), sort == TEXT ? 1 : 0);
    }

    private static void range(int sort, long least, long most) {
        allows(sort, least);
        allows(sort, most);
        allows(sort, 0);
        forbids(sort, least - 1, 0);
        forbids(sort, most + 1, 0);
        forbids(sort, Long.MIN_VALUE, 0);
        forbids(sort, Long.MAX_VALUE, 0);
        // What would fit, if just the lower bits were looked at.
        forbids(sort, 1L << 48, 1);
    }

    private static void longs() {
        allows(LONG, Long.MAX_VALUE);
        allows(LONG, Long.MIN_VALUE + 1);
        allows(LONG, Long.MIN_VALUE);
        ElevatorLedger ledger = ledger(sorts(LONG), of(Long.MIN_VALUE));
        answers(ledger, "from t0 where not c0 is missing give c0", of(Long.MIN_VALUE));
    }

    private static void realsByEight() {
        ElevatorLedger ledger = ledger(sorts(REAL), of(1L << 40), of(-(1L << 40)), of(1), of(-1), of(0));
        answers(ledger, "from t0 give c0", of(Due.bits(137438953472.0)), of(Due.bits(-137438953472.0)),
                of(Due.bits(0.125)), of(Due.bits(-0.125)), of(0));
    }

    private static void dayZero() {
        ElevatorLedger ledger = ledger(sorts(DAY), of(0), of(-1));
        answers(ledger, "from t0 give year(c0), month(c0), weekday(c0)", of(2000, 1, 5), of(1999, 12, 4));
    }

    private static void upToFiveLetters() {
        allows(TEXT, 0);
        allows(TEXT, Due.text("a"));
        allows(TEXT, Due.text("abcde"));
        allows(TEXT, Due.text("zzzzz"));
        forbids(TEXT, Due.text("zzzzz") + 1, 0);
        // A sixth letter ahead of five.
        forbids(TEXT, 1L << 25 | Due.text("abcde"), 0);
        forbids(TEXT, 1L << 25, 0);
        forbids(TEXT, 1L << 32 | Due.text("abcde"), 0);
        forbids(TEXT, 1L << 63 | Due.text("abcde"), 0);
        forbids(TEXT, -1, 0);
    }

    private static void letters() {
        for (int place = 0; place < 5; place++) {
            long before = Due.text("aaaaa".substring(0, place));
            int shift = 20 - 5 * place;
            allows(TEXT, before | 1L << shift);
            allows(TEXT, before | 26L << shift);
            forbids(TEXT, before | 27L << shift, 0);
            forbids(TEXT, before | 31L << shift, 0);
        }
    }

    private static void noLetterBehindTheLast() {
        for (int gap = 0; gap < 4; gap++) {
            for (int letter = gap + 1; letter < 5; letter++) {
                long ahead = Due.text("aaaaa".substring(0, gap));
                forbids(TEXT, ahead | 1L << 20 - 5 * letter, 0);
            }
        }
    }

    /** TEXTS that differ: aa, ab, .. */
    private static long text(int i) {
        return (long) (i / 20 + 1) << 20 | (long) (i % 20 + 1) << 15;
    }

    private static void fortyTexts() {
        ElevatorLedger ledger = ledger(sorts(TEXT, INT), of(GAP, GAP), of(GAP, GAP));
        for (int i = 0; i < 40; i++) {
            Due.is("TEXT " + i, ledger.put(0, 0, 0, text(i)), 1);
            Due.is("TEXTS", ledger.count(7), i + 1);
        }
        Due.is("the 41st", ledger.put(0, 0, 0, text(40)), FULL);
        Due.is("FULL changes nothing", ledger.value(0, 0, 0), text(39));
        Due.is("the 41st where none was", ledger.put(0, 1, 0, text(40)), FULL);
        Due.is("it is MISSING", ledger.missing(0, 1, 0), 0);
        Due.is("the text of no letters as the 41st", ledger.put(0, 1, 0, 0), FULL);
        Due.is("no TEXT is BAD, not FULL", ledger.put(0, 1, 0, 1), BAD);
        Due.is("TEXTS", ledger.count(7), 40);
        Due.is("the first is there", ledger.put(0, 1, 0, text(0)), 1);
        Due.is("the last is there", ledger.put(0, 1, 0, text(39)), 1);
        Due.is("another SORT", ledger.put(0, 1, 1, 5), 1);
    }

    private static void oneDictionary() {
        ElevatorLedger ledger = ledger(sorts(TEXT, TEXT), of(Due.text("a"), Due.text("b")));
        add(ledger, sorts(TEXT), of(Due.text("a")));
        Due.is("TEXTS of two COLUMNS and TABLES", ledger.count(7), 2);
        ledger.put(1, 0, 0, 0);
        Due.is("the text of no letters is one", ledger.count(7), 3);
        int q = Due.read(ledger, "from t0 give 'c'");
        ledger.constant(q, 0, Due.text("d"));
        Due.is("CONSTANTS are none", ledger.count(7), 3);
        Due.is("one of another object", ledger(sorts(TEXT), of(0)).count(7), 1);
    }

    private static void textsStayInTheDictionary() {
        ElevatorLedger ledger = ledger(sorts(TEXT, TEXT), of(GAP, GAP));
        for (int i = 0; i < 40; i++) {
            ledger.put(0, 0, i % 2, text(i));
        }
        ledger.missing(0, 0, 0);
        Due.is("when another one is MISSING", ledger.put(0, 0, 1, text(40)), FULL);
        ledger.drop(0, 0);
        Due.is("when their COLUMN is gone", ledger.put(0, 0, 1, text(40)), FULL);
        Due.is("TEXTS", ledger.count(7), 40);
        Due.is("one that is shown nowhere is there", ledger.put(0, 0, 1, text(0)), 1);
    }

    private static void textsAreLess() {
        String[] rising = {"", "a", "aa", "aaaaa", "aaaab", "ab", "abz", "ac", "az", "b", "ba", "y", "yzzzz", "z", "zzzzz"};
        ElevatorLedger ledger = new ElevatorLedger();
        ledger.table();
        ledger.column(0, TEXT);
        long[][] due = new long[rising.length][];
        for (int i = 0; i < rising.length; i++) {
            ledger.put(0, ledger.row(0), 0, Due.text(rising[rising.length - 1 - i]));
            due[i] = of(Due.text(rising[i]));
        }
        answers(ledger, "from t0 give c0 order 0", due);
        int q = Due.read(ledger, "from t0 where c0 < 'a' give count");
        for (int i = 0; i < rising.length; i++) {
            ledger.constant(q, 0, Due.text(rising[i]));
            ledger.ask(q);
            Due.is("those that are less than '" + rising[i] + "'", ledger.cell(0, 0, 0), i);
        }
    }

    private static void fortyRows() {
        ElevatorLedger ledger = ledger(sorts(INT));
        add(ledger, sorts(INT));
        for (int i = 0; i < 40; i++) {
            Due.is("ROW " + i, ledger.row(0), i);
        }
        Due.is("the 41st", ledger.row(0), FULL);
        Due.is("of another TABLE", ledger.row(1), 0);
        Due.is("the 40th has VALUES", ledger.put(0, 39, 0, 7), 1);
        Due.is("the 41st has none", ledger.put(0, 40, 0, 7), BAD);
        answers(ledger, "from t0 give count, sum(c0)", of(40, 7));
    }

    private static void allMissingAtFirst() {
        ElevatorLedger ledger = ledger(sorts(INT, LONG, REAL, TRUTH, CODE, TEXT, DAY), of(1, 1, 1, 1, 1, 0, 1));
        Due.is("a ROW behind one with VALUES", ledger.row(0), 1);
        for (int c = 0; c < 7; c++) {
            Due.is("VALUE of COLUMN " + c, ledger.value(0, 1, c), NO);
            answers(ledger, "from t0 where c" + c + " is missing give count", of(1));
            Due.is("it was there", ledger.missing(0, 1, c), 0);
        }
    }

    private static void threeLookUpsOfTen() {
        ElevatorLedger ledger = ledger(sorts(INT), of(0));
        for (int look = 0; look < 3; look++) {
            for (int place = 0; place < 10; place++) {
                Due.is("look(" + look + ", " + place + ")", ledger.look(look, place, 100 * look + place), 1);
            }
            Due.is("place 10", ledger.look(look, 10, 7), BAD);
            Due.is("place -1", ledger.look(look, -1, 7), BAD);
        }
        Due.is("LOOK-UP -1", ledger.look(-1, 0, 7), BAD);
        Due.is("LOOK-UP 3", ledger.look(3, 0, 7), BAD);
        for (int place = 0; place < 10; place++) {
            ledger.put(0, 0, 0, place);
            int q = Due.read(ledger, "from t0 give look(0, c0), look(1, c0), look(2, c0)");
            ledger.ask(q);
            for (int look = 0; look < 3; look++) {
                Due.is("LOOK-UP " + look + " at " + place, ledger.cell(0, 0, look), 100 * look + place);
            }
        }
    }

    private static void lookUpNumbers() {
        ElevatorLedger ledger = ledger(sorts(INT), of(0), of(9));
        answers(ledger, "from t0 give look(0, c0), look(1, c0), look(2, c0)", of(0, 0, 0), of(0, 0, 0));
        Due.is("the most", ledger.look(0, 9, Long.MAX_VALUE), 1);
        Due.is("the least", ledger.look(2, 0, Long.MIN_VALUE), 1);
        answers(ledger, "from t0 give look(2, c0), look(0, c0)", of(Long.MIN_VALUE, 0), of(0, Long.MAX_VALUE));
    }

    private static void nothingIsThere() {
        ElevatorLedger ledger = new ElevatorLedger();
        for (int what = 0; what <= 7; what++) {
            Due.is("count(" + what + ")", ledger.count(what), 0);
        }
        Due.is("no TABLE", ledger.row(0), BAD);
        Due.is("no VALUE", ledger.value(0, 0, 0), NO);
        Due.is("no question", ledger.about(0, 0), BAD);
        Due.is("no FORM", ledger.form(0, 0), BAD);
        Due.is("no ask", ledger.outcome(0, 0), BAD);
        Due.is("no scan", ledger.outcome(1, 0), BAD);
        Due.is("no VALUE of an answer", ledger.cell(0, 0, 0), NO);
        Due.is("no answer", ledger.isMissing(0, 0, 0), BAD);
        Due.is("none is RETIRED", ledger.retired(0), NONE);
        Due.is("no FAULT", ledger.fault(), 0);
        Due.is("none differs", ledger.audit(), 0);
        Due.is("THE TEXT is empty", ledger.say(' ', 1), 1);
    }

    private static void objectsShareNothing() {
        ElevatorLedger one = ledger(sorts(INT), of(5));
        one.look(0, 0, 9);
        one.say(' ', 1);
        ElevatorLedger other = ledger(sorts(INT), of(GAP));
        Due.is("a VALUE", other.value(0, 0, 0), NO);
        Due.is("THE TEXT", other.say(' ', 1), 1);
        answers(other, "from t0 give look(0, 0)", of(0));
    }

    private static void columnIsRefused() {
        ElevatorLedger ledger = ledger(sorts(0, 1, 2, 3, 4, 5, 6));
        for (int wild : WILD) {
            Due.is("TABLE " + wild, ledger.column(wild, 0), BAD);
        }
        Due.is("TABLE 1, which is not there", ledger.column(1, 0), BAD);
        Due.is("the eighth", ledger.column(0, 0), 7);
        Due.is("BAD ahead of FULL", ledger.column(0, 7), BAD);
        Due.is("FULL", ledger.column(0, 6), FULL);
        ledger.row(0);
        Due.is("STATE ahead of FULL", ledger.column(0, 6), STATE);
        Due.is("BAD ahead of STATE", ledger.column(0, -1), BAD);
        ElevatorLedger rows = ledger(sorts(0), of(GAP));
        Due.is("STATE: it has a ROW", rows.column(0, 0), STATE);
        rows.table();
        Due.is("another TABLE has none", rows.column(1, 0), 0);
    }

    private static void rowIsRefused() {
        ElevatorLedger ledger = ledger(sorts());
        for (int wild : WILD) {
            Due.is("TABLE " + wild, ledger.row(wild), BAD);
        }
        Due.is("TABLE 1, which is not there", ledger.row(1), BAD);
        Due.is("of a TABLE without COLUMNS", ledger.row(0), 0);
    }

    private static void putIsRefused() {
        ElevatorLedger ledger = ledger(sorts(INT, INT), of(1, 2), of(3, 4));
        for (int wild : WILD) {
            Due.is("TABLE " + wild, ledger.put(wild, 0, 0, 5), BAD);
            Due.is("ROW " + wild, ledger.put(0, wild, 0, 5), BAD);
            Due.is("COLUMN " + wild, ledger.put(0, 0, wild, 5), BAD);
        }
        Due.is("TABLE 1", ledger.put(1, 0, 0, 5), BAD);
        Due.is("ROW 2", ledger.put(0, 2, 0, 5), BAD);
        Due.is("COLUMN 2", ledger.put(0, 0, 2, 5), BAD);
        ledger.drop(0, 1);
        Due.is("COLUMN 1 is gone", ledger.put(0, 1, 1, 5), BAD);
        Due.is("COLUMN 0 is not", ledger.put(0, 1, 0, 5), 1);
        Due.is("the other ROW's stays", ledger.value(0, 0, 0), 1);
    }

    private static void missingTells() {
        ElevatorLedger ledger = ledger(sorts(INT, INT), of(0, 1), of(2, 3));
        Due.is("it was there", ledger.missing(0, 0, 0), 1);
        Due.is("it is MISSING", ledger.value(0, 0, 0), NO);
        Due.is("it was not", ledger.missing(0, 0, 0), 0);
        Due.is("it is MISSING still", ledger.value(0, 0, 0), NO);
        Due.is("its neighbour stays", ledger.value(0, 0, 1), 1);
        Due.is("the ROW behind stays", ledger.value(0, 1, 0), 2);
        ledger.put(0, 0, 0, 0);
        Due.is("it is there anew", ledger.missing(0, 0, 0), 1);
    }

    private static void missingIsRefused() {
        ElevatorLedger ledger = ledger(sorts(INT, INT), of(1, 2), of(3, 4));
        for (int wild : WILD) {
            Due.is("TABLE " + wild, ledger.missing(wild, 0, 0), BAD);
            Due.is("ROW " + wild, ledger.missing(0, wild, 0), BAD);
            Due.is("COLUMN " + wild, ledger.missing(0, 0, wild), BAD);
        }
        Due.is("TABLE 1", ledger.missing(1, 0, 0), BAD);
        Due.is("ROW 2", ledger.missing(0, 2, 0), BAD);
        Due.is("COLUMN 2", ledger.missing(0, 0, 2), BAD);
        Due.is("the last ROW and COLUMN", ledger.missing(0, 1, 1), 1);
        ledger.drop(0, 1);
        Due.is("COLUMN 1 is gone", ledger.missing(0, 0, 1), BAD);
    }

    private static void noValue() {
        ElevatorLedger ledger = ledger(sorts(INT, INT), of(1, 2), of(GAP, 4));
        for (int wild : WILD) {
            Due.is("TABLE " + wild, ledger.value(wild, 0, 0), NO);
            Due.is("ROW " + wild, ledger.value(0, wild, 0), NO);
            Due.is("COLUMN " + wild, ledger.value(0, 0, wild), NO);
        }
        Due.is("TABLE 1", ledger.value(1, 0, 0), NO);
        Due.is("ROW 2", ledger.value(0, 2, 0), NO);
        Due.is("COLUMN 2", ledger.value(0, 0, 2), NO);
        Due.is("MISSING", ledger.value(0, 1, 0), NO);
        Due.is("the last ROW and COLUMN", ledger.value(0, 1, 1), 4);
        ledger.drop(0, 1);
        Due.is("COLUMN 1 is gone", ledger.value(0, 1, 1), NO);
        Due.is("COLUMN 0 is not", ledger.value(0, 0, 0), 1);
    }

    private static void lookIsRefused() {
        ElevatorLedger ledger = ledger(sorts(INT), of(0), of(9));
        for (int wild : WILD) {
            Due.is("LOOK-UP " + wild, ledger.look(wild, 0, 5), BAD);
            Due.is("place " + wild, ledger.look(1, wild, 5), BAD);
        }
        Due.is("LOOK-UP 3", ledger.look(3, 0, 5), BAD);
        Due.is("place 10", ledger.look(0, 10, 5), BAD);
        Due.is("place -1 of the second", ledger.look(1, -1, 5), BAD);
        answers(ledger, "from t0 give look(0, c0), look(1, c0), look(2, c0)", of(0, 0, 0), of(0, 0, 0));
        Due.is("place 9", ledger.look(2, 9, 5), 1);
        Due.is("place 0", ledger.look(0, 0, 6), 1);
        answers(ledger, "from t0 give look(0, c0), look(1, c0), look(2, c0)", of(6, 0, 0), of(0, 0, 5));
    }

    private static void numbersAreNotToldAnew() {
        ElevatorLedger ledger = ledger(sorts(INT, TEXT));
        ledger.drop(0, 1);
        Due.is("behind the one that is gone", ledger.column(0, INT), 2);
        ledger.row(0);
        Due.is("it has VALUES", ledger.put(0, 0, 2, 5), 1);
        Due.is("the one that is gone has none", ledger.put(0, 0, 1, 0), BAD);
        answers(ledger, "from t0 give c2", of(5));
        Due.fault(ledger, 2, "from t0 give |c1");
    }

    private static void dropTellsForms() {
        ElevatorLedger ledger = ledger(sorts(INT, INT, INT), of(1, 2, 3));
        add(ledger, sorts(INT, INT, INT), of(1, 2, 3));
        String[] texts = {"from t0 give c1", "from t0 where c1 = 1 give c0", "from t0 group c1 give count",
            "from t0 join t1 on c1 = d0 give d0", "from t1 join t0 on c0 = d1 give c0", "from t1 join t0 on c0 = d0 give d1",
            "from t0 give sum(c1)", "from t0 join t1 on c0 = d1 give d1", "from t1 give c1", "from t0 give c0",
            "from t0 give count"};
        for (String text : texts) {
            Due.read(ledger, text);
        }
        Due.read(ledger, "from t0 where c1 = 2 give c0");
        Due.is("FORMS", ledger.count(2), 11);
        Due.is("of no FORM", ledger.drop(0, 2), 0);
        Due.is("those that tell COLUMN 1 of t0", ledger.drop(0, 1), 7);
        for (int f = 0; f < 11; f++) {
            Due.is("whether FORM " + f + " is RETIRED", ledger.form(f, 5), f < 7 ? 1 : 0);
        }
        Due.is("those that are RETIRED already are not told anew", ledger.drop(0, 0), 2);
        Due.is("the last ones", ledger.drop(1, 1), 1);
    }

    private static void dropIsRefused() {
        ElevatorLedger ledger = ledger(sorts(INT, INT), of(1, 2));
        for (int wild : WILD) {
            Due.is("TABLE " + wild, ledger.drop(wild, 0), BAD);
            Due.is("COLUMN " + wild, ledger.drop(0, wild), BAD);
        }
        Due.is("TABLE 1", ledger.drop(1, 0), BAD);
        Due.is("COLUMN 2", ledger.drop(0, 2), BAD);
        Due.is("the last COLUMN", ledger.drop(0, 1), 0);
        Due.is("it is gone already", ledger.drop(0, 1), BAD);
        Due.is("one that is never told", ledger.drop(0, 7), BAD);
        Due.is("the other one stays", ledger.value(0, 0, 0), 1);
    }
}
