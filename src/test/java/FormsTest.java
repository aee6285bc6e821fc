/** Promises 21 to 25: FORMS, their CODE, what is RETIRED, counts, and the audit. */
public final class FormsTest {
    private static final int NONE = -9;
    private static final int QUESTIONS = 0, KEPT = 1, MADE = 2, FAILED_STARTS = 3, FALLEN = 4, RETIRED = 5, NODES = 6;

    public static void main(String[] args) {
        form();
        nodes();
        keeping();
        dropsTheOneAskedLongestAgo();
        spoil();
        spoilAgain();
        spoilKept();
        spoilAndDrop();
        retired();
        retiredIsNotKept();
        count();
        audit();
        auditAsks();
        Due.end();
    }

    /** t0 with two INT COLUMNS and two ROWS, and that many questions, each of a FORM of its own. */
    private static ElevatorLedger ledger(int questions) {
        ElevatorLedger ledger = new ElevatorLedger();
        ledger.table();
        ledger.column(0, 0);
        ledger.column(0, 0);
        ledger.row(0);
        ledger.row(0);
        ledger.put(0, 0, 0, 3);
        for (int i = 0; i < questions; i++) {
            Due.is("its FORM", ledger.about(Due.read(ledger, "from t0 give c0 top " + i), 1), i);
        }
        return ledger;
    }

    private static void has(ElevatorLedger ledger, int form, int what, int due) {
        Due.is("21: form(" + form + ", " + what + ")", ledger.form(form, what), due);
    }

    private static void form() {
        ElevatorLedger ledger = ledger(2);
        Due.read(ledger, "from t0 give c0 top 1");
        has(ledger, 0, QUESTIONS, 1);
        has(ledger, 1, QUESTIONS, 2);
        for (int what = KEPT; what <= RETIRED; what++) {
            has(ledger, 0, what, 0);
        }
        has(ledger, 0, NODES, 1);
        has(ledger, -1, 0, -1);
        has(ledger, 2, 0, -1);
        has(ledger, 0, -1, -1);
        has(ledger, 0, 7, -1);
        ledger.scan(0);
        has(ledger, 0, MADE, 0);
        ledger.ask(0);
        has(ledger, 0, KEPT, 1);
        has(ledger, 0, MADE, 1);
        ledger.ask(0);
        has(ledger, 0, MADE, 1);
        ledger.ask(1);
        ledger.ask(2);
        has(ledger, 1, MADE, 1);
    }

    private static void nodes(ElevatorLedger ledger, String text, int due) {
        int q = Due.read(ledger, text);
        Due.is("21: NODES of \"" + text + "\"", ledger.form(ledger.about(q, 1), NODES), due);
    }

    private static void nodes() {
        ElevatorLedger ledger = ledger(0);
        nodes(ledger, "from t0 give c0", 1);
        nodes(ledger, "from t0 give {c0}", 1);
        nodes(ledger, "from t0 give -c0 + 1 or missing", 4);
        nodes(ledger, "from t0 give look(1, 2) order 0 down top 5", 2);
        nodes(ledger, "from t0 give count, sum(c0), least(2.5)", 5);
        nodes(ledger, "from t0 give int(c0 % 2), 1", 5);
        nodes(ledger, "from t0 group c0, c1 give c0, count", 2);
        nodes(ledger, "from t0 join t0 on c0 = d0 give d1", 1);
        nodes(ledger, "from t0 where c0 = 1 give c0", 4);
        nodes(ledger, "from t0 where not (c0 is missing) or 'a' < 'b' and c0 <> c1 give c0", 12);
    }

    private static void keeping() {
        ElevatorLedger ledger = ledger(6);
        for (int i = 0; i < 6; i++) {
            ledger.ask(i);
            Due.is("24: KEPT", ledger.count(4), Math.min(4, i + 1));
            Due.is("24: DROPPED", ledger.count(5), Math.max(0, i - 3));
        }
        for (int i = 0; i < 6; i++) {
            has(ledger, i, KEPT, i < 2 ? 0 : 1);
            has(ledger, i, MADE, 1);
        }
        ledger.ask(0);
        has(ledger, 0, MADE, 2);
        has(ledger, 2, KEPT, 0);
        Due.is("24: MADE", ledger.count(3), 7);
        Due.is("24: DROPPED", ledger.count(5), 3);
    }

    private static void dropsTheOneAskedLongestAgo() {
        ElevatorLedger ledger = ledger(5);
        int[] asks = {0, 1, 2, 3, 0, 2, 1};
        for (int each : asks) {
            ledger.ask(each);
        }
        ledger.scan(3);
        ledger.ask(4);
        has(ledger, 3, KEPT, 0);
        has(ledger, 0, KEPT, 1);
        ledger.ask(3);
        has(ledger, 0, KEPT, 0);
        ledger.ask(0);
        has(ledger, 2, KEPT, 0);
        has(ledger, 1, KEPT, 1);
    }

    private static void asks(ElevatorLedger ledger, int question, int fellBack) {
        Due.is("22: ask(" + question + ")", ledger.ask(question), question == 0 ? 0 : Math.min(2, question));
        Due.is("22: FELL BACK", ledger.outcome(0, 1), fellBack);
    }

    private static void spoil() {
        ElevatorLedger ledger = ledger(2);
        Due.is("22: form -1", ledger.spoil(-1, 1), -1);
        Due.is("22: form 2", ledger.spoil(2, 1), -1);
        Due.is("22: n -1", ledger.spoil(1, -1), -1);
        Due.is("22: n 10", ledger.spoil(1, 10), -1);
        Due.is("22: spoil", ledger.spoil(1, 2), 1);
        for (int i = 0; i < 6; i++) {
            asks(ledger, 1, 1);
            has(ledger, 1, FALLEN, 1);
            has(ledger, 1, KEPT, 0);
            has(ledger, 1, MADE, 0);
            has(ledger, 1, FAILED_STARTS, i < 3 ? 1 : 2);
        }
        Due.is("24: STARTS that failed", ledger.count(6), 2);
        Due.is("24: none is KEPT", ledger.count(4), 0);
        Due.is("24: none was MADE", ledger.count(3), 0);
        asks(ledger, 1, 0);
        has(ledger, 1, FALLEN, 0);
        has(ledger, 1, KEPT, 1);
        has(ledger, 1, MADE, 1);
        has(ledger, 1, FAILED_STARTS, 2);
        has(ledger, 0, FAILED_STARTS, 0);
    }

    private static void spoilAgain() {
        ElevatorLedger ledger = ledger(2);
        Due.is("22: nine", ledger.spoil(1, 9), 1);
        Due.is("22: in place of what was told", ledger.spoil(1, 1), 1);
        asks(ledger, 1, 1);
        Due.is("22: also while it is FALLEN", ledger.spoil(1, 1), 1);
        asks(ledger, 1, 1);
        asks(ledger, 1, 1);
        asks(ledger, 1, 1);
        has(ledger, 1, FAILED_STARTS, 2);
        Due.is("22: none", ledger.spoil(1, 0), 1);
        asks(ledger, 1, 1);
        asks(ledger, 1, 1);
        asks(ledger, 1, 0);
        has(ledger, 1, FAILED_STARTS, 2);
        ElevatorLedger never = ledger(2);
        never.spoil(1, 3);
        never.spoil(1, 0);
        asks(never, 1, 0);
    }

    private static void spoilKept() {
        ElevatorLedger ledger = ledger(5);
        ledger.ask(1);
        Due.is("22: it is KEPT", ledger.spoil(1, 1), 0);
        asks(ledger, 1, 0);
        int[] others = {0, 2, 3, 4};
        for (int each : others) {
            ledger.ask(each);
        }
        has(ledger, 1, KEPT, 0);
        has(ledger, 1, FALLEN, 0);
        asks(ledger, 1, 1);
        has(ledger, 1, FALLEN, 1);
        has(ledger, 0, KEPT, 1);
        Due.is("24: a START that failed DROPS none", ledger.count(5), 1);
        Due.is("24: KEPT", ledger.count(4), 4);
    }

    private static void spoilAndDrop() {
        ElevatorLedger ledger = ledger(2);
        ledger.spoil(1, 1);
        ledger.ask(1);
        has(ledger, 1, FALLEN, 1);
        ledger.drop(0, 0);
        has(ledger, 1, FALLEN, 0);
        has(ledger, 1, RETIRED, 1);
        has(ledger, 1, FAILED_STARTS, 1);
    }

    private static void retired() {
        ElevatorLedger ledger = ledger(2);
        Due.read(ledger, "from t0 give c1");
        Due.is("23: no drop yet", ledger.retired(0), NONE);
        ledger.drop(0, 0);
        Due.is("23: the first", ledger.retired(0), 0);
        Due.is("23: the second", ledger.retired(1), 1);
        Due.is("23: no third", ledger.retired(2), NONE);
        Due.is("23: -1", ledger.retired(-1), NONE);
        has(ledger, 2, RETIRED, 0);
        ledger.drop(0, 1);
        Due.is("23: the latest drop's", ledger.retired(0), 2);
        Due.is("23: that alone", ledger.retired(1), NONE);
        ElevatorLedger none = ledger(1);
        none.drop(0, 0);
        none.drop(0, 1);
        Due.is("23: the latest drop RETIRED none", none.retired(0), NONE);
    }

    private static void retiredIsNotKept() {
        ElevatorLedger ledger = ledger(4);
        for (int i = 0; i < 3; i++) {
            ledger.ask(i);
        }
        Due.read(ledger, "from t0 give c1 top 1");
        ledger.ask(4);
        ledger.drop(0, 0);
        Due.is("24: KEPT", ledger.count(4), 1);
        Due.is("24: not DROPPED for a fifth", ledger.count(5), 0);
        Due.is("24: MADE", ledger.count(3), 4);
        has(ledger, 0, KEPT, 0);
        has(ledger, 4, KEPT, 1);
        ledger.ask(0);
        has(ledger, 0, MADE, 1);
        Due.is("22: of one that is RETIRED", ledger.spoil(0, 1), 1);
    }

    private static void count() {
        ElevatorLedger ledger = ledger(3);
        Due.is("24: what -1", ledger.count(-1), -1);
        Due.is("24: what 8", ledger.count(8), -1);
        ledger.table();
        ledger.column(1, 5);
        ledger.row(1);
        ledger.put(1, 0, 0, Due.text("x"));
        ledger.put(1, 0, 0, Due.text("y"));
        ledger.missing(1, 0, 0);
        Due.read(ledger, "from t0 give c0 top 0");
        ledger.spoil(0, 1);
        ledger.ask(0);
        ledger.ask(1);
        ledger.ask(2);
        int[] due = {2, 4, 3, 2, 2, 0, 1, 2};
        for (int what = 0; what <= 7; what++) {
            Due.is("24: count(" + what + ")", ledger.count(what), due[what]);
        }
    }

    private static void audit() {
        ElevatorLedger ledger = ledger(3);
        Due.read(ledger, "from t0 give 1 / {c0 - 3}");
        Due.read(ledger, "from t0 give c1");
        Due.read(ledger, "from t0 join t0 on c0 = d0 where c0 = 1 give c0");
        ledger.spoil(1, 1);
        Due.is("25: none differ", ledger.audit(), 0);
        Due.is("25: the latest ask", ledger.outcome(0, 5), 1);
        Due.is("25: the latest scan", ledger.outcome(1, 5), 1);
        Due.is("25: FELL BACK is no difference", ledger.form(1, FAILED_STARTS), 1);
        ledger.drop(0, 1);
        Due.is("25: without those that are GONE", ledger.audit(), 0);
        Due.is("25: of none", new ElevatorLedger().audit(), 0);
    }

    private static void auditAsks() {
        ElevatorLedger ledger = ledger(6);
        ledger.audit();
        Due.is("25: all were asked", ledger.count(3), 6);
        Due.is("25: and DROPPED for a fifth", ledger.count(5), 2);
        has(ledger, 1, KEPT, 0);
        has(ledger, 2, KEPT, 1);
        Due.is("25: the last one's rows by ask", ledger.outcome(0, 0), 2);
        Due.is("25: the last one's rows by scan", ledger.outcome(1, 0), 2);
        Due.is("25: its VALUE", ledger.cell(1, 0, 0), 3);
        ledger.drop(0, 0);
        ledger.audit();
        Due.is("25: those that are GONE are not asked", ledger.outcome(0, 0), 2);
    }
}
