/**
 * Section 4 and promises 16 to 25: CODE that is KEPT, DROPPED, FALLEN, RETIRED, what is VISITED, and what calls tell of
 * answers and FORMS; each sentence that names an edge, on both sides of it.
 */
public final class CodeEdgesTest extends LedgerTest {
    private static final int QUESTIONS = 0, KEPT = 1, MADE = 2, FAILED_STARTS = 3, FALLEN = 4, RETIRED = 5, NODES = 6;
    private static final int[] WILD = {Integer.MIN_VALUE, -1, 24, 256, Integer.MAX_VALUE};

    public static void main(String[] args) {
        Due.by("ask() of a question whose FORM's CODE is not KEPT MAKES it", CodeEdgesTest::askMakes);
        Due.by("if that fails the FORM is FALLEN, and nothing is KEPT", CodeEdgesTest::aStartThatFails);
        Due.by("4 at most are", CodeEdgesTest::fourAreKept);
        Due.by("4 at most are, of 24 FORMS", CodeEdgesTest::fourOf24);
        Due.by("ahead of a fifth the one whose FORM was asked longest ago is DROPPED", CodeEdgesTest::askedLongestAgo);
        Due.by("whose FORM was asked: by any of its questions, by no scan", CodeEdgesTest::whatIsAnAsk);
        Due.by("it was MADE before, and is MADE anew when it is asked", CodeEdgesTest::madeAnew);
        Due.by("ahead of a fifth, which is KEPT", CodeEdgesTest::aFifthThatFails);
        Due.by("A FALLEN FORM is answered by the scan (it FELL BACK), this time, too", CodeEdgesTest::fellBack);
        Due.by("when three asks were answered so, the next one MAKES it again", CodeEdgesTest::threeAsks);
        Due.by("three asks of the FORM, no scans", CodeEdgesTest::whatAreThreeAsks);
        Due.by("MAKES it again, which may fail again", CodeEdgesTest::failsAgain);
        Due.by("A question one of whose COLUMNS is gone since is GONE; its FORM is RETIRED", CodeEdgesTest::goneAndRetired);
        Due.by("no CODE of it is KEPT, it is not FALLEN", CodeEdgesTest::retiredIsNeither);
        Due.by("VISITED: the scan looks at all, up to where it ends", CodeEdgesTest::visitedByTheScan);
        Due.by("CODE not at the further ones of a ROW of the first TABLE", CodeEdgesTest::furtherOnes);
        Due.by("if where has no or outside of ( )", CodeEdgesTest::orOutside);
        Due.by("the first one in it (up to its first and, if there is one outside of ( ))", CodeEdgesTest::upToTheFirstAnd);
        Due.by("has no d", CodeEdgesTest::hasNoJoined);
        Due.by("and was false for the first PAIR of that ROW", CodeEdgesTest::wasFalse);
        Due.by("Promise 16: BAD", CodeEdgesTest::askIsRefused);
        Due.by("Promise 16: GONE (nothing is done, but that outcome() tells it)", CodeEdgesTest::askOfGone);
        Due.by("Promise 16: FAILED; TOO_MANY (these two: the answer has no rows)", CodeEdgesTest::noRows);
        Due.by("Promise 17: as ask(), but no FORM is asked", CodeEdgesTest::scanAsksNoForm);
        Due.by("Promise 18: of the latest ask() (0), scan() (1), BAD ones but", CodeEdgesTest::latest);
        Due.by("Promise 18: 0 .. 6", CodeEdgesTest::outcomes);
        Due.by("Promise 18: BAD: none yet, too", CodeEdgesTest::outcomeIsRefused);
        Due.by("Promise 19: NO: MISSING, or none such", CodeEdgesTest::noCell);
        Due.by("Promise 20: 1, 0. BAD: none such", CodeEdgesTest::isMissing);
        Due.by("Promise 21: 0 how many questions have it .. 6 its NODES. BAD", CodeEdgesTest::form);
        Due.by("Promise 22: the next n (0 .. 9) STARTS", CodeEdgesTest::zeroToNineStarts);
        Due.by("Promise 22: in place of what was told before", CodeEdgesTest::inPlace);
        Due.by("Promise 22: 0, if its CODE is KEPT (that goes on till it is DROPPED)", CodeEdgesTest::spoilOfKept);
        Due.by("Promise 22: BAD", CodeEdgesTest::spoilIsRefused);
        Due.by("Promise 23: the i-th FORM that the latest drop() RETIRED, by number; NONE", CodeEdgesTest::retired);
        Due.by("Promise 24: 0 .. 7. BAD", CodeEdgesTest::count);
        Due.by("Promise 24: 3 CODES that were MADE, 6 STARTS that failed", CodeEdgesTest::madeAndFailed);
        Due.by("Promise 24: 5 DROPPED (for a fifth)", CodeEdgesTest::droppedForAFifth);
        Due.by("Promise 25: all questions that are not GONE, by number", CodeEdgesTest::audit);
        Due.by("Promise 25: one behind the other", CodeEdgesTest::auditOneBehindTheOther);
        Due.end();
    }

    /** t0 with two INT COLUMNS and two ROWS, and so many questions, each of a FORM that bears its number. */
    private static ElevatorLedger forms(int questions) {
        ElevatorLedger ledger = ledger(sorts(0, 0), of(3, GAP), of(GAP, GAP));
        for (int i = 0; i < questions; i++) {
            Due.is("its FORM", ledger.about(Due.read(ledger, "from t0 give c0 top " + i), 1), i);
        }
        return ledger;
    }

    private static void asks(ElevatorLedger ledger, int... questions) {
        for (int question : questions) {
            ledger.ask(question);
        }
    }

    private static void has(ElevatorLedger ledger, int what, int... due) {
        for (int f = 0; f < due.length; f++) {
            Due.is("form(" + f + ", " + what + ")", ledger.form(f, what), due[f]);
        }
    }

    /** An ask of that question is answered so: 1, it FELL BACK. */
    private static void fallsBack(ElevatorLedger ledger, int question, int due) {
        Due.is("ask(" + question + ")", ledger.ask(question), Math.min(2, question));
        Due.is("FELL BACK", ledger.outcome(0, 1), due);
    }

    private static void askMakes() {
        ElevatorLedger ledger = forms(2);
        has(ledger, MADE, 0, 0);
        has(ledger, KEPT, 0, 0);
        fallsBack(ledger, 1, 0);
        has(ledger, MADE, 0, 1);
        has(ledger, KEPT, 0, 1);
        fallsBack(ledger, 1, 0);
        has(ledger, MADE, 0, 1);
        Due.is("CODES that were MADE", ledger.count(3), 1);
    }

    private static void aStartThatFails() {
        ElevatorLedger ledger = forms(2);
        ledger.spoil(1, 1);
        has(ledger, FALLEN, 0, 0);
        fallsBack(ledger, 1, 1);
        has(ledger, FALLEN, 0, 1);
        has(ledger, KEPT, 0, 0);
        has(ledger, MADE, 0, 0);
        has(ledger, FAILED_STARTS, 0, 1);
        Due.is("KEPT", ledger.count(4), 0);
    }

    private static void fourAreKept() {
        ElevatorLedger ledger = forms(6);
        for (int i = 0; i < 6; i++) {
            asks(ledger, i);
            Due.is("KEPT behind ask " + i, ledger.count(4), Math.min(i + 1, 4));
            Due.is("DROPPED behind ask " + i, ledger.count(5), Math.max(i - 3, 0));
        }
        has(ledger, KEPT, 0, 0, 1, 1, 1, 1);
    }

    private static void fourOf24() {
        ElevatorLedger ledger = forms(24);
        for (int i = 0; i < 24; i++) {
            asks(ledger, i);
        }
        Due.is("MADE", ledger.count(3), 24);
        Due.is("KEPT", ledger.count(4), 4);
        Due.is("DROPPED", ledger.count(5), 20);
        Due.is("the last four", ledger.form(20, KEPT), 1);
        Due.is("not the one ahead of them", ledger.form(19, KEPT), 0);
        Due.is("none differs", ledger.audit(), 0);
        Due.is("MADE", ledger.count(3), 48);
        Due.is("the last question's FORM", ledger.about(23, 1), 23);
        Due.is("the last FORM", ledger.form(23, KEPT), 1);
        Due.is("behind the last FORM", ledger.form(24, KEPT), BAD);
        Due.is("spoil of the last FORM", ledger.spoil(23, 1), 0);
        Due.is("spoil behind the last FORM", ledger.spoil(24, 1), BAD);
    }

    private static void askedLongestAgo() {
        for (int oldest = 0; oldest < 4; oldest++) {
            ElevatorLedger ledger = forms(5);
            asks(ledger, 3, 2, 1, 0);
            for (int i = 0; i < 4; i++) {
                asks(ledger, i == oldest ? (oldest + 1) % 4 : i);
            }
            asks(ledger, 4);
            for (int f = 0; f < 5; f++) {
                Due.is("whether " + f + " is KEPT, " + oldest + " being asked longest ago", ledger.form(f, KEPT),
                        f == oldest ? 0 : 1);
            }
        }
    }

    private static void whatIsAnAsk() {
        ElevatorLedger ledger = forms(5);
        int other = Due.read(ledger, "from t0 give c0 top 0");
        asks(ledger, 0, 1, 2, 3, other);
        ledger.scan(1);
        ledger.ask(99);
        asks(ledger, 4);
        has(ledger, KEPT, 1, 0, 1, 1, 1);
        // Asks of one that is KEPT, and of one that is not, let none be asked in their place.
        ledger.spoil(1, 1);
        asks(ledger, 2, 1, 1, 1, 1);
        has(ledger, KEPT, 1, 1, 1, 0, 1);
    }

    private static void madeAnew() {
        ElevatorLedger ledger = forms(5);
        asks(ledger, 0, 1, 2, 3, 4);
        has(ledger, MADE, 1, 1, 1, 1, 1);
        has(ledger, KEPT, 0, 1, 1, 1, 1);
        asks(ledger, 0);
        has(ledger, MADE, 2, 1, 1, 1, 1);
        has(ledger, KEPT, 1, 0, 1, 1, 1);
        Due.is("FELL BACK", ledger.outcome(0, 1), 0);
        Due.is("DROPPED", ledger.count(5), 2);
        has(ledger, FALLEN, 0, 0, 0, 0, 0);
    }

    private static void aFifthThatFails() {
        ElevatorLedger ledger = forms(5);
        asks(ledger, 0, 1, 2, 3);
        ledger.spoil(4, 1);
        asks(ledger, 4, 4, 4);
        has(ledger, KEPT, 1, 1, 1, 1, 0);
        Due.is("none is DROPPED", ledger.count(5), 0);
        asks(ledger, 4);
        has(ledger, KEPT, 0, 1, 1, 1, 1);
        Due.is("one is DROPPED", ledger.count(5), 1);
    }

    private static void fellBack() {
        ElevatorLedger ledger = ledger(sorts(0, 0), of(1, 1), of(1, 2), of(1, 3));
        int q = Due.read(ledger, "from t0 join t0 on c0 = d0 where c1 = 2 give d1");
        ledger.spoil(0, 1);
        for (int i = 0; i < 3; i++) {
            Due.is("rows", ledger.ask(q), 3);
            Due.is("FELL BACK", ledger.outcome(0, 1), 1);
            Due.is("VISITED as by the scan", ledger.outcome(0, 5), 9);
            Due.is("its last VALUE", ledger.cell(0, 2, 0), 3);
            has(ledger, FALLEN, 1);
        }
        Due.is("rows", ledger.ask(q), 3);
        Due.is("by CODE", ledger.outcome(0, 1), 0);
        Due.is("VISITED by CODE", ledger.outcome(0, 5), 5);
        ledger.scan(q);
        Due.is("the scan does not fall back", ledger.outcome(1, 1), 0);
    }

    private static void threeAsks() {
        ElevatorLedger ledger = forms(2);
        ledger.spoil(1, 1);
        for (int i = 1; i <= 3; i++) {
            fallsBack(ledger, 1, 1);
            has(ledger, FALLEN, 0, 1);
            has(ledger, FAILED_STARTS, 0, 1);
        }
        fallsBack(ledger, 1, 0);
        has(ledger, FALLEN, 0, 0);
        has(ledger, KEPT, 0, 1);
        has(ledger, MADE, 0, 1);
        has(ledger, FAILED_STARTS, 0, 1);
    }

    private static void whatAreThreeAsks() {
        ElevatorLedger ledger = forms(2);
        int other = Due.read(ledger, "from t0 give c0 top 1");
        ledger.spoil(1, 1);
        asks(ledger, 1);
        ledger.scan(1);
        ledger.scan(1);
        asks(ledger, 0);
        asks(ledger, other);
        has(ledger, FALLEN, 0, 1);
        fallsBack(ledger, 1, 1);
        asks(ledger, other);
        Due.is("the fourth, by another question", ledger.outcome(0, 1), 0);
        has(ledger, MADE, 1, 1);
    }

    private static void failsAgain() {
        ElevatorLedger ledger = forms(2);
        ledger.spoil(1, 9);
        for (int i = 1; i <= 27; i++) {
            fallsBack(ledger, 1, 1);
            has(ledger, FAILED_STARTS, 0, (i + 2) / 3);
            has(ledger, FALLEN, 0, 1);
        }
        fallsBack(ledger, 1, 0);
        has(ledger, FAILED_STARTS, 0, 9);
        has(ledger, MADE, 0, 1);
        Due.is("STARTS that failed", ledger.count(6), 9);
    }

    private static void goneAndRetired() {
        ElevatorLedger ledger = ledger(sorts(0, 0, 0), of(1, 2, 3));
        add(ledger, sorts(0, 0, 0), of(1, 2, 3));
        String[] texts = {"from t0 give c0", "from t0 give c1", "from t0 join t1 on c0 = d1 give c0", "from t1 give c1"};
        for (String text : texts) {
            Due.read(ledger, text);
        }
        int again = Due.read(ledger, "from t0 give c1");
        ledger.drop(0, 2);
        has(ledger, RETIRED, 0, 0, 0, 0);
        ledger.drop(0, 1);
        has(ledger, RETIRED, 0, 1, 0, 0);
        Due.is("each question of that FORM", ledger.ask(1), GONE);
        Due.is("each question of that FORM", ledger.ask(again), GONE);
        Due.is("by the scan, too", ledger.scan(again), GONE);
        Due.is("another one is not", ledger.ask(0), 1);
        ledger.drop(1, 1);
        has(ledger, RETIRED, 0, 1, 1, 1);
        Due.is("it is GONE", ledger.about(2, 2), 1);
        Due.is("it stays so", ledger.ask(1), GONE);
    }

    private static void retiredIsNeither() {
        ElevatorLedger ledger = forms(5);
        int stays = Due.read(ledger, "from t0 give c1");
        ledger.spoil(4, 2);
        asks(ledger, 0, 1, 2, 4, stays);
        has(ledger, KEPT, 1, 1, 1, 0, 0, 1);
        has(ledger, FALLEN, 0, 0, 0, 0, 1, 0);
        Due.is("five are RETIRED", ledger.drop(0, 0), 5);
        has(ledger, KEPT, 0, 0, 0, 0, 0, 1);
        has(ledger, FALLEN, 0, 0, 0, 0, 0, 0);
        has(ledger, RETIRED, 1, 1, 1, 1, 1, 0);
        has(ledger, MADE, 1, 1, 1, 0, 0, 1);
        has(ledger, FAILED_STARTS, 0, 0, 0, 0, 1, 0);
        Due.is("KEPT", ledger.count(4), 1);
        Due.is("none is DROPPED", ledger.count(5), 0);
        // There is room for three more.
        for (int i = 0; i < 3; i++) {
            asks(ledger, Due.read(ledger, "from t0 give c1 top " + i));
        }
        Due.is("KEPT", ledger.count(4), 4);
        Due.is("none is DROPPED", ledger.count(5), 0);
        asks(ledger, 0, 4);
        has(ledger, KEPT, 0, 0, 0, 0, 0, 1);
        has(ledger, FALLEN, 0, 0, 0, 0, 0, 0);
    }

    /** t0: three ROWS that are PAIRS of all three, with COLUMN 1 of 1, 2, MISSING. */
    private static ElevatorLedger nine() {
        return ledger(sorts(0, 0), of(1, 1), of(1, 2), of(1, GAP));
    }

    private static void looks(String where, int byCode) {
        looksAt(nine(), "from t0 join t0 on c0 = d0 where " + where + " give count", byCode, 9);
    }

    private static void visitedByTheScan() {
        ElevatorLedger ledger = nine();
        looksAt(ledger, "from t0 give c0", 3, 3);
        looksAt(ledger, "from t0 where c1 = 9 give c0", 3, 3);
        looksAt(ledger, "from t0 give 1 / {c1 - 2}", 2, 2);
        looksAt(ledger, "from t0 give 1 / {c1 - 1}", 1, 1);
        looksAt(ledger, "from t0 where 1 / {c1 - 2} = 5 give c0", 2, 2);
        looksAt(ledger, "from t0 join t0 on c0 = d0 give count", 9, 9);
        looksAt(ledger, "from t0 join t0 on c1 = d1 give count", 2, 2);
        looksAt(ledger, "from t0 join t0 on c1 = d0 give count", 3, 3);
        looksAt(ledger, "from t0 join t0 on c0 = d0 give c0 top 0", 9, 9);
        looksAt(ledger, "from t0 join t0 on c0 = d0 where c1 = 2 give 1 / {d1 - 2}", 1 + 2, 3 + 2);
        looksAt(ledger(sorts(0)), "from t0 give count", 0, 0);
    }

    private static void furtherOnes() {
        looks("c1 = 1", 3 + 1 + 3);
        looks("c1 = 9", 1 + 1 + 3);
        looks("c1 <> 9", 9);
        looks("c1 is missing", 1 + 1 + 3);
        looks("not c1 is missing", 3 + 3 + 1);
        looks("1 = 2", 3);
        looks("1 = 1", 9);
        // Without join there are no further ones.
        looksAt(nine(), "from t0 where c1 = 9 give count", 3, 3);
        // The first PAIR is not always that of the first ROW.
        ElevatorLedger ledger = ledger(sorts(0, 0), of(2, 1), of(1, 1));
        add(ledger, sorts(0), of(1), of(2), of(1), of(2), of(2));
        looksAt(ledger, "from t0 join t1 on c0 = d0 where c1 = 9 give count", 2, 5);
        looksAt(ledger, "from t0 join t1 on c0 = d0 where c0 = 2 give count", 3 + 1, 5);
    }

    private static void orOutside() {
        looks("c1 = 9 or c1 = 8", 9);
        looks("(c1 = 9 or c1 = 8)", 1 + 1 + 3);
        looks("c1 = 9 and d1 = 1 or c1 = 8", 9);
        looks("c1 = 9 and (d1 = 1 or c1 = 8)", 1 + 1 + 3);
        looks("not (c1 = 1 or c1 = 2)", 1 + 1 + 3);
        looks("not c1 = 1 or c1 = 9", 9);
        looks("(c1 = 9 or c1 = 8) or c1 = 7", 9);
        looks("(c1 = 9 or c1 = 8) and c1 = 7", 1 + 1 + 3);
        looks("c1 = 9 and c1 = 8 and (c1 = 7) or 1 = 2", 9);
        // Of that question's where, whatever was read before.
        ElevatorLedger ledger = nine();
        String join = "from t0 join t0 on c0 = d0 ";
        looksAt(ledger, join + "where c1 = 9 or c1 = 8 give count", 9, 9);
        looksAt(ledger, join + "where c1 = 9 give count", 1 + 1 + 3, 9);
        looksAt(ledger, join + "where c1 = 9 and d1 = 1 give count", 1 + 1 + 3, 9);
        looksAt(ledger, join + "where 1 = 1 and c1 = 9 give count", 9, 9);
        looksAt(ledger, join + "where c1 = 8 give count, count", 1 + 1 + 3, 9);
    }

    private static void upToTheFirstAnd() {
        looks("c1 = 9 and d1 = 1", 1 + 1 + 3);
        looks("1 = 1 and 1 = 2", 9);
        looks("c1 = 1 and c1 = 9 and d1 = 1", 3 + 1 + 3);
        looks("(c1 = 9 and c0 = 1) and d1 = 1", 1 + 1 + 3);
        looks("(c1 = 1 and c1 = 9) and d1 = 1", 1 + 1 + 3);
        looks("(c1 = 1 and c1 = 9)", 1 + 1 + 3);
        looks("(1 = 1 and 1 = 2)", 3);
        looks("not c1 = 1 and d1 = 1", 1 + 3 + 3);
        looks("not (c1 = 1 and c0 = 1) and d1 = 1", 1 + 3 + 3);
        looks("c1 = 9 and c1 = 8 and c1 = 7", 1 + 1 + 3);
    }

    private static void hasNoJoined() {
        looks("d1 = 9", 9);
        looks("c1 + d0 = 9", 9);
        looks("c1 = d0 + 9", 9);
        looks("d1 = 9 and c1 = 9", 9);
        looks("(c1 = 9 and d1 = 9)", 9);
        looks("(c1 = 9 and d1 = 9) and c1 = 9", 9);
        looks("not d1 = 9 and c1 = 9", 9);
        looks("not not d0 is missing", 9);
        looks("c1 = 9 and d1 = 9", 1 + 1 + 3);
        looks("look(0, d0) = 9", 9);
        looks("look(0, c0) = 9", 3);
        // What is told ahead of where, or behind it, is no matter.
        looksAt(nine(), "from t0 join t0 on c0 = d0 where c1 = 9 group d1 give d1, sum(d0)", 1 + 1 + 3, 9);
    }

    private static void wasFalse() {
        // For the third ROW it is neither, which is not false.
        looks("c1 > 9", 1 + 1 + 3);
        looks("c1 > 9 and 1 = 2", 1 + 1 + 3);
        looks("not c1 <= 9", 1 + 1 + 3);
        // true, though what is behind is false.
        looks("c1 < 9 and d1 > 9", 9);
        looks("c1 = 1 and d1 = 9", 3 + 1 + 3);
        // A FAILURE ends it.
        ElevatorLedger ledger = nine();
        looksAt(ledger, "from t0 join t0 on c0 = d0 where 1 / {c1 - 2} > 5 give count", 2, 4);
    }

    private static void askIsRefused() {
        ElevatorLedger ledger = forms(2);
        Due.is("question 2", ledger.ask(2), BAD);
        Due.is("question 2 by the scan", ledger.scan(2), BAD);
        for (int wild : WILD) {
            Due.is("question " + wild, ledger.ask(wild), BAD);
            Due.is("question " + wild + " by the scan", ledger.scan(wild), BAD);
        }
        Due.is("no ask yet", ledger.outcome(0, 0), BAD);
        Due.is("no scan yet", ledger.outcome(1, 0), BAD);
        Due.is("the last question", ledger.ask(1), 1);
        Due.is("the last question by the scan", ledger.scan(1), 1);
    }

    private static void askOfGone() {
        ElevatorLedger ledger = forms(3);
        int stays = Due.read(ledger, "from t0 give c1, c1");
        asks(ledger, 2, stays);
        ledger.scan(stays);
        ledger.drop(0, 0);
        int[] before = new int[8];
        for (int what = 0; what < 8; what++) {
            before[what] = ledger.count(what);
        }
        Due.is("ask", ledger.ask(2), GONE);
        Due.is("scan", ledger.scan(2), GONE);
        int[] due = {GONE, 0, 0, NONE, NONE, 0, 1};
        for (int which = 0; which <= 1; which++) {
            for (int what = 0; what <= 6; what++) {
                Due.is("outcome(" + which + ", " + what + ")", ledger.outcome(which, what), due[what]);
            }
            Due.is("no VALUE", ledger.cell(which, 0, 0), NO);
            Due.is("no row", ledger.isMissing(which, 0, 0), BAD);
        }
        for (int what = 0; what < 8; what++) {
            Due.is("count(" + what + ")", ledger.count(what), before[what]);
        }
        has(ledger, MADE, 0, 0, 1, 1);
        Due.is("one that was never asked", ledger.ask(0), GONE);
        ElevatorLedger fallen = forms(2);
        Due.read(fallen, "from t0 give c1");
        fallen.drop(0, 1);
        fallen.spoil(1, 1);
        fallsBack(fallen, 1, 1);
        Due.is("behind one that FELL BACK", fallen.ask(2), GONE);
        Due.is("it did not", fallen.outcome(0, 1), 0);
        has(ledger, MADE, 0, 0, 1, 1);
    }

    private static void noRows() {
        ElevatorLedger ledger = ledger(sorts(0), of(1), of(0));
        for (int i = 2; i < 11; i++) {
            ledger.row(0);
            ledger.put(0, i, 0, 1);
        }
        int failing = Due.read(ledger, "from t0 give 1 / c0, c0");
        int many = Due.read(ledger, "from t0 join t0 on c0 = d0 give c0, d0");
        int fine = Due.read(ledger, "from t0 give c0");
        asks(ledger, fine);
        Due.is("FAILED", ledger.ask(failing), FAILED);
        Due.is("its first row was there, but is not", ledger.isMissing(0, 0, 0), BAD);
        Due.is("its VALUE", ledger.cell(0, 0, 0), NO);
        Due.is("its items", ledger.outcome(0, 6), 2);
        Due.is("101 PAIRS", ledger.ask(many), TOO_MANY);
        Due.is("its first row was there, but is not", ledger.isMissing(0, 0, 0), BAD);
        Due.is("its VALUE", ledger.cell(0, 0, 0), NO);
        Due.is("its items", ledger.outcome(0, 6), 2);
        Due.is("its FAILURE", ledger.outcome(0, 2), 0);
        Due.is("rows of another", ledger.ask(fine), 11);
        Due.is("FAILED leaves nothing", ledger.outcome(0, 2), 0);
        Due.is("FAILED leaves nothing", ledger.outcome(0, 3), NONE);
    }

    private static void scanAsksNoForm() {
        ElevatorLedger ledger = forms(5);
        asks(ledger, 1, 2, 3, 4);
        Due.is("scan", ledger.scan(1), 1);
        ledger.scan(0);
        has(ledger, MADE, 0, 1, 1, 1, 1);
        has(ledger, KEPT, 0, 1, 1, 1, 1);
        Due.is("no ask", ledger.outcome(0, 0), 2);
        asks(ledger, 0);
        has(ledger, KEPT, 1, 0, 1, 1, 1);
        ledger.spoil(1, 1);
        ledger.scan(1);
        has(ledger, FAILED_STARTS, 0, 0, 0, 0, 0);
    }

    private static void latest() {
        ElevatorLedger ledger = forms(3);
        asks(ledger, 1);
        Due.is("the ask", ledger.outcome(0, 0), 1);
        Due.is("no scan yet", ledger.outcome(1, 0), BAD);
        ledger.scan(2);
        Due.is("the scan", ledger.outcome(1, 0), 2);
        Due.is("the ask", ledger.outcome(0, 0), 1);
        asks(ledger, 2);
        ledger.scan(0);
        Due.is("the later ask", ledger.outcome(0, 0), 2);
        Due.is("the later scan", ledger.outcome(1, 0), 0);
        ledger.ask(3);
        ledger.scan(-1);
        Due.is("BAD ones but", ledger.outcome(0, 0), 2);
        Due.is("BAD ones but", ledger.outcome(1, 0), 0);
        int failing = Due.read(ledger, "from t0 give c0, 1 / {c0 - 3}");
        asks(ledger, failing);
        ledger.scan(failing);
        ledger.ask(99);
        ledger.scan(99);
        int[] due = {FAILED, 0, ZERO, 0, 1, 1, 2};
        for (int what = 0; what <= 6; what++) {
            Due.is("BAD ones but, outcome(0, " + what + ")", ledger.outcome(0, what), due[what]);
            Due.is("BAD ones but, outcome(1, " + what + ")", ledger.outcome(1, what), due[what]);
        }
    }

    private static void outcomes() {
        ElevatorLedger ledger = ledger(sorts(0), of(4), of(0));
        int fine = Due.read(ledger, "from t0 give 1, 2, 3, 4, 5, c0");
        int item = Due.read(ledger, "from t0 give 1, 2, 3, 4, 8 / c0");
        int condition = Due.read(ledger, "from t0 where 8 / c0 = 2 give c0");
        int[][] due = {{2, 0, 0, NONE, NONE, 2, 6}, {FAILED, 0, 1, 1, 4, 2, 5}, {FAILED, 0, 1, 1, NONE, 2, 1}};
        int[] questions = {fine, item, condition};
        for (int i = 0; i < 3; i++) {
            ledger.ask(questions[i]);
            ledger.scan(questions[i]);
            for (int what = 0; what <= 6; what++) {
                Due.is("outcome(0, " + what + ") of " + i, ledger.outcome(0, what), due[i][what]);
                Due.is("outcome(1, " + what + ") of " + i, ledger.outcome(1, what), due[i][what]);
            }
        }
        ledger.put(0, 0, 0, 0);
        ledger.ask(item);
        Due.is("ROW 0", ledger.outcome(0, 3), 0);
    }

    private static void outcomeIsRefused() {
        ElevatorLedger ledger = forms(2);
        for (int what = 0; what <= 6; what++) {
            Due.is("none yet", ledger.outcome(0, what), BAD);
            Due.is("none yet", ledger.outcome(1, what), BAD);
        }
        ledger.scan(1);
        Due.is("a scan is no ask", ledger.outcome(0, 0), BAD);
        asks(ledger, 1);
        Due.is("what 7", ledger.outcome(0, 7), BAD);
        Due.is("which 2", ledger.outcome(2, 0), BAD);
        for (int wild : WILD) {
            Due.is("what " + wild, ledger.outcome(1, wild), BAD);
            Due.is("which " + wild, ledger.outcome(wild, 0), BAD);
        }
    }

    private static ElevatorLedger twoByTwo() {
        ElevatorLedger ledger = ledger(sorts(0, 0), of(5, GAP), of(6, 7));
        int q = Due.read(ledger, "from t0 give c0, c1");
        Due.is("no ask yet", ledger.cell(0, 0, 0), NO);
        Due.is("no ask yet", ledger.isMissing(0, 0, 0), BAD);
        asks(ledger, q);
        Due.is("no scan yet", ledger.cell(1, 0, 0), NO);
        Due.is("no scan yet", ledger.isMissing(1, 0, 0), BAD);
        ledger.scan(q);
        return ledger;
    }

    private static void noCell() {
        ElevatorLedger ledger = twoByTwo();
        for (int which = 0; which <= 1; which++) {
            Due.is("the first", ledger.cell(which, 0, 0), 5);
            Due.is("the last", ledger.cell(which, 1, 1), 7);
            Due.is("MISSING", ledger.cell(which, 0, 1), NO);
            Due.is("row 2", ledger.cell(which, 2, 0), NO);
            Due.is("item 2", ledger.cell(which, 0, 2), NO);
            for (int wild : WILD) {
                Due.is("row " + wild, ledger.cell(which, wild, 0), NO);
                Due.is("item " + wild, ledger.cell(which, 0, wild), NO);
                Due.is("which " + wild, ledger.cell(wild, 0, 0), NO);
            }
        }
        Due.is("which 2", ledger.cell(2, 0, 0), NO);
    }

    private static void isMissing() {
        ElevatorLedger ledger = twoByTwo();
        for (int which = 0; which <= 1; which++) {
            Due.is("the first", ledger.isMissing(which, 0, 0), 0);
            Due.is("the last", ledger.isMissing(which, 1, 1), 0);
            Due.is("MISSING", ledger.isMissing(which, 0, 1), 1);
            Due.is("row 2", ledger.isMissing(which, 2, 0), BAD);
            Due.is("item 2", ledger.isMissing(which, 0, 2), BAD);
            for (int wild : WILD) {
                Due.is("row " + wild, ledger.isMissing(which, wild, 0), BAD);
                Due.is("item " + wild, ledger.isMissing(which, 0, wild), BAD);
                Due.is("which " + wild, ledger.isMissing(wild, 0, 0), BAD);
            }
        }
        Due.is("which 2", ledger.isMissing(2, 0, 0), BAD);
    }

    private static void form() {
        ElevatorLedger ledger = forms(2);
        Due.read(ledger, "from t0 give c0 top 1");
        has(ledger, QUESTIONS, 1, 2);
        has(ledger, NODES, 1, 1);
        int[] fresh = {2, 0, 0, 0, 0, 0, 1};
        for (int what = 0; what <= 6; what++) {
            Due.is("form(1, " + what + ")", ledger.form(1, what), fresh[what]);
        }
        ledger.spoil(1, 1);
        asks(ledger, 1, 1, 1);
        int[] fallen = {2, 0, 0, 1, 1, 0, 1};
        for (int what = 0; what <= 6; what++) {
            Due.is("form(1, " + what + ")", ledger.form(1, what), fallen[what]);
        }
        asks(ledger, 1);
        int[] kept = {2, 1, 1, 1, 0, 0, 1};
        for (int what = 0; what <= 6; what++) {
            Due.is("form(1, " + what + ")", ledger.form(1, what), kept[what]);
        }
        ledger.drop(0, 0);
        int[] gone = {2, 0, 1, 1, 0, 1, 1};
        for (int what = 0; what <= 6; what++) {
            Due.is("form(1, " + what + ")", ledger.form(1, what), gone[what]);
        }
        Due.is("what 7", ledger.form(1, 7), BAD);
        Due.is("FORM 2", ledger.form(2, 0), BAD);
        for (int wild : WILD) {
            Due.is("what " + wild, ledger.form(1, wild), BAD);
            Due.is("FORM " + wild, ledger.form(wild, 0), BAD);
        }
    }

    private static void zeroToNineStarts() {
        for (int n = 0; n <= 9; n++) {
            ElevatorLedger ledger = forms(2);
            Due.is("spoil(1, " + n + ")", ledger.spoil(1, n), 1);
            for (int i = 0; i < 3 * n; i++) {
                fallsBack(ledger, 1, 1);
            }
            has(ledger, FAILED_STARTS, 0, n);
            fallsBack(ledger, 1, 0);
            has(ledger, FAILED_STARTS, 0, n);
        }
        ElevatorLedger ledger = forms(2);
        Due.is("ten", ledger.spoil(1, 10), BAD);
        Due.is("less than none", ledger.spoil(1, -1), BAD);
        fallsBack(ledger, 1, 0);
    }

    private static void inPlace() {
        ElevatorLedger ledger = forms(2);
        ledger.spoil(1, 9);
        ledger.spoil(1, 0);
        fallsBack(ledger, 1, 0);
        ElevatorLedger more = forms(2);
        more.spoil(1, 2);
        more.spoil(1, 1);
        fallsBack(more, 1, 1);
        // While it is FALLEN, too: the next START is that of the fourth ask.
        Due.is("of one that is FALLEN", more.spoil(1, 1), 1);
        fallsBack(more, 1, 1);
        fallsBack(more, 1, 1);
        has(more, FAILED_STARTS, 0, 1);
        fallsBack(more, 1, 1);
        has(more, FAILED_STARTS, 0, 2);
        Due.is("none any more", more.spoil(1, 0), 1);
        fallsBack(more, 1, 1);
        fallsBack(more, 1, 1);
        fallsBack(more, 1, 0);
        // Of that FORM alone.
        ElevatorLedger others = forms(3);
        others.spoil(1, 1);
        fallsBack(others, 2, 0);
        fallsBack(others, 1, 1);
    }

    private static void spoilOfKept() {
        ElevatorLedger ledger = forms(6);
        asks(ledger, 1);
        Due.is("it is KEPT", ledger.spoil(1, 1), 0);
        Due.is("it is KEPT, and n is 0", ledger.spoil(1, 0), 0);
        Due.is("it is KEPT, and n is 9", ledger.spoil(1, 9), 0);
        Due.is("BAD ahead of that", ledger.spoil(1, 10), BAD);
        Due.is("in place of that", ledger.spoil(1, 1), 0);
        fallsBack(ledger, 1, 0);
        has(ledger, KEPT, 0, 1);
        asks(ledger, 2, 3, 4, 5);
        has(ledger, KEPT, 0, 0, 1, 1, 1, 1);
        has(ledger, FALLEN, 0, 0);
        fallsBack(ledger, 1, 1);
        has(ledger, FAILED_STARTS, 0, 1);
        fallsBack(ledger, 1, 1);
        fallsBack(ledger, 1, 1);
        fallsBack(ledger, 1, 0);
        Due.is("of one that was DROPPED", ledger.spoil(2, 1), 1);
    }

    private static void spoilIsRefused() {
        ElevatorLedger ledger = forms(2);
        Due.is("FORM 2", ledger.spoil(2, 1), BAD);
        Due.is("n = 9", ledger.spoil(0, 9), 1);
        Due.is("n = 10", ledger.spoil(0, 10), BAD);
        Due.is("n = 0", ledger.spoil(0, 0), 1);
        for (int wild : WILD) {
            Due.is("FORM " + wild, ledger.spoil(wild, 1), BAD);
            Due.is("n = " + wild, ledger.spoil(1, wild), BAD);
        }
        ledger.drop(0, 0);
        Due.is("of one that is RETIRED", ledger.spoil(1, 1), 1);
    }

    private static void retired() {
        ElevatorLedger ledger = forms(2);
        Due.read(ledger, "from t0 give c1");
        Due.read(ledger, "from t0 give c0 + c1");
        Due.is("no drop yet", ledger.retired(0), NONE);
        Due.is("three", ledger.drop(0, 0), 3);
        int[] due = {0, 1, 3};
        for (int i = 0; i < 3; i++) {
            Due.is("retired(" + i + ")", ledger.retired(i), due[i]);
        }
        Due.is("behind the last", ledger.retired(3), NONE);
        for (int wild : WILD) {
            Due.is("retired(" + wild + ")", ledger.retired(wild), NONE);
        }
        ledger.drop(0, 0);
        Due.is("a refused drop leaves them", ledger.retired(2), 3);
        Due.is("one", ledger.drop(0, 1), 1);
        Due.is("the latest", ledger.retired(0), 2);
        Due.is("that one alone", ledger.retired(1), NONE);
        ElevatorLedger none = forms(1);
        none.drop(0, 0);
        Due.is("none by the latest", none.drop(0, 1), 0);
        Due.is("none by the latest", none.retired(0), NONE);
        ElevatorLedger all = new ElevatorLedger();
        all.table();
        all.column(0, 0);
        for (int i = 0; i < 24; i++) {
            Due.read(all, "from t0 give c0 top " + i);
        }
        Due.is("all 24", all.drop(0, 0), 24);
        Due.is("the last of all", all.retired(23), 23);
        Due.is("behind it", all.retired(24), NONE);
    }

    private static void count() {
        ElevatorLedger ledger = forms(5);
        Due.read(ledger, "from t0 give c0 top 4");
        add(ledger, sorts(5), of(Due.text("a")), of(Due.text("b")), of(Due.text("a")));
        ledger.spoil(0, 1);
        asks(ledger, 0, 0, 0, 0, 1, 2, 3, 4);
        int[] due = {2, 6, 5, 5, 4, 1, 1, 2};
        for (int what = 0; what <= 7; what++) {
            Due.is("count(" + what + ")", ledger.count(what), due[what]);
        }
        Due.is("what 8", ledger.count(8), BAD);
        for (int wild : WILD) {
            Due.is("what " + wild, ledger.count(wild), BAD);
        }
    }

    private static void madeAndFailed() {
        ElevatorLedger ledger = forms(3);
        ledger.spoil(0, 2);
        asks(ledger, 0, 0, 0, 0);
        ledger.spoil(1, 1);
        asks(ledger, 1, 2);
        Due.is("MADE are those that did START, as form(.., 2) tells them", ledger.count(3), 1);
        Due.is("STARTS that failed", ledger.count(6), 3);
        has(ledger, MADE, 0, 0, 1);
        has(ledger, FAILED_STARTS, 2, 1, 0);
        ledger.drop(0, 0);
        Due.is("also of those that are RETIRED", ledger.count(3), 1);
        Due.is("also of those that are RETIRED", ledger.count(6), 3);
    }

    private static void droppedForAFifth() {
        ElevatorLedger ledger = forms(4);
        asks(ledger, 0, 1, 2, 3);
        Due.is("four", ledger.count(5), 0);
        ledger.drop(0, 0);
        Due.is("RETIRED ones are not DROPPED", ledger.count(5), 0);
        Due.is("but not KEPT", ledger.count(4), 0);
        ElevatorLedger more = forms(5);
        asks(more, 0, 1, 2, 3, 4, 0, 1, 2, 3, 4);
        Due.is("each behind the fourth", more.count(5), 6);
        Due.is("each was MADE", more.count(3), 10);
    }

    private static void audit() {
        ElevatorLedger ledger = forms(3);
        Due.read(ledger, "from t0 give c1, c1");
        Due.read(ledger, "from t0 give 1 / {c0 - 3}");
        Due.is("none differs", ledger.audit(), 0);
        has(ledger, MADE, 1, 1, 1, 1, 1);
        Due.is("the latest ask", ledger.outcome(0, 0), FAILED);
        Due.is("the latest scan", ledger.outcome(1, 0), FAILED);
        Due.is("five, the first of which was DROPPED", ledger.form(0, KEPT), 0);
        ledger.drop(0, 0);
        Due.is("none differs", ledger.audit(), 0);
        Due.is("the latest ask is of the only one that is not GONE", ledger.outcome(0, 6), 2);
        Due.is("the latest scan, too", ledger.outcome(1, 6), 2);
        ledger.drop(0, 1);
        Due.is("all are GONE", ledger.audit(), 0);
        Due.is("none was asked", ledger.outcome(0, 0), 2);
        ElevatorLedger none = forms(0);
        Due.is("of no question", none.audit(), 0);
        Due.is("none was asked", none.outcome(0, 0), BAD);
        Due.is("none was scanned", none.outcome(1, 0), BAD);
    }

    private static void auditOneBehindTheOther() {
        ElevatorLedger ledger = forms(2);
        Due.read(ledger, "from t0 give c0 top 1");
        ledger.spoil(1, 1);
        Due.is("FELL BACK is no difference", ledger.audit(), 0);
        // Two of its asks fell back: the third does, the fourth does not.
        fallsBack(ledger, 1, 1);
        fallsBack(ledger, 1, 0);
        ElevatorLedger pairs = ledger(sorts(0, 0), of(1, 1), of(1, 2));
        Due.read(pairs, "from t0 join t0 on c0 = d0 where c1 = 9 give c1");
        Due.is("VISITED is no difference", pairs.audit(), 0);
        Due.is("VISITED by CODE", pairs.outcome(0, 5), 2);
        Due.is("VISITED by the scan", pairs.outcome(1, 5), 4);
        ElevatorLedger six = forms(6);
        six.audit();
        six.audit();
        Due.is("MADE twice each", six.count(3), 12);
        Due.is("DROPPED", six.count(5), 8);
    }
}
