import java.util.Random;

/**
 * Runs of calls, always the same ones, each answer held against the Oracle's. A run ends with its 512th call: what later
 * ones answer is free.
 */
public final class OracleTest {
    private static final int RUNS = 3000;
    private static final int CALLS = 512;
    private static int shown = 0;

    private final Random random;
    private final ElevatorLedger ledger = new ElevatorLedger();
    private final Oracle oracle = new Oracle();
    private final Texts texts;
    private final StringBuilder log = new StringBuilder();
    private boolean isRight = true;
    private int calls = 0;
    /** Of short texts and few VALUES, so that 512 calls let CODE be DROPPED, FALLEN and MADE anew. */
    private final boolean isOfCode;

    private OracleTest(long seed) {
        random = new Random(seed);
        isOfCode = seed % 3 == 0;
        texts = new Texts(random, oracle);
    }

    public static void main(String[] args) {
        int runs = args.length > 0 ? Integer.parseInt(args[0]) : RUNS;
        long seed = args.length > 1 ? Long.parseLong(args[1]) : 1;
        for (int i = 0; i < runs; i++) {
            OracleTest run = new OracleTest(seed + i);
            run.build();
            while (run.calls < CALLS && run.isRight) {
                if (run.isOfCode) {
                    run.callOfCode();
                } else {
                    run.call();
                }
            }
            Due.holds("run " + (seed + i), run.isRight);
        }
        Due.end();
    }

    private void same(String call, long got, long want) {
        calls++;
        if (calls > CALLS) {
            return;
        }
        log.append(call).append(' ').append(want).append('\n');
        if (got != want && isRight) {
            isRight = false;
            if (shown++ < 5) {
                System.out.println(log + "the last one answered " + got);
            }
        }
    }

    private int upTo(int most) {
        return random.nextInt(most + 1);
    }

    private boolean chance(int percent) {
        return random.nextInt(100) < percent;
    }

    private int oneBeyond(int count) {
        return random.nextInt(count + 2) - (chance(10) ? 1 : 0);
    }

    private void build() {
        int tables = 1 + upTo(2);
        for (int t = 0; t < tables; t++) {
            same("table()", ledger.table(), oracle.table());
            boolean isLong = chance(8);
            int columns = isLong ? 1 + upTo(2) : 1 + upTo(chance(10) ? 9 : 4);
            for (int c = 0; c < columns; c++) {
                column(t, c == 0 ? 0 : upTo(6));
            }
            int rows = isOfCode ? upTo(2) : isLong ? 38 + upTo(4) : upTo(6);
            for (int r = 0; r < rows; r++) {
                same("row(" + t + ")", ledger.row(t), oracle.row(t));
                for (int c = 0; c < columns; c++) {
                    if (chance(isLong ? 60 : 85)) {
                        put(t, r, c);
                    }
                }
            }
        }
        for (int i = 0; i < 5; i++) {
            look(upTo(2), upTo(9));
        }
    }

    private void column(int t, int sort) {
        same("column(" + t + ", " + sort + ")", ledger.column(t, sort), oracle.column(t, sort));
    }

    private void put(int t, int r, int c) {
        long v = valueFor(oracle.tab(t) != null && oracle.tab(t).has(c) ? oracle.tab(t).sorts.get(c) : 0);
        same("put(" + t + ", " + r + ", " + c + ", " + v + ")", ledger.put(t, r, c, v), oracle.put(t, r, c, v));
    }

    private void look(int l, int p) {
        long v = chance(80) ? upTo(12) - 2 : random.nextLong();
        same("look(" + l + ", " + p + ", " + v + ")", ledger.look(l, p, v), oracle.look(l, p, v));
    }

    private long valueFor(int sort) {
        if (chance(3)) {
            return random.nextLong() >> upTo(63);
        }
        if (chance(60)) {
            return sort == 5 ? Due.text(new String[] {"", "a", "b", "ab", "ba", "abcde"}[upTo(5)])
                    : sort == 3 ? upTo(1) : upTo(6) - 2;
        }
        switch (sort) {
            case 0: return random.nextInt() >> upTo(31);
            case 1: return random.nextLong() >> upTo(63);
            case 2: return random.nextLong() >> 23 + upTo(40);
            case 4: return (byte) random.nextInt();
            case 5: return Due.text(letters());
            case 6: return upTo(800002) - 400001;
            default: return upTo(2);
        }
    }

    private String letters() {
        StringBuilder letters = new StringBuilder();
        int n = upTo(5);
        for (int i = 0; i < n; i++) {
            letters.append((char) ('a' + upTo(25)));
        }
        return letters.toString();
    }

    private void call() {
        int t = oneBeyond(oracle.tables.size());
        int q = oneBeyond(oracle.questions.size());
        int f = oneBeyond(oracle.formList.size());
        int kind = upTo(99);
        if (kind < 12) {
            ask();
        } else if (kind < 20) {
            change(t, q);
        } else if (kind < 34) {
            question();
        } else if (kind < 62) {
            answer(q, true);
        } else if (kind < 72) {
            answer(q, false);
        } else if (kind < 80) {
            constant(q);
        } else if (kind < 86) {
            forms(f);
        } else if (kind < 92) {
            int n = upTo(10) - (chance(10) ? 1 : 0);
            same("spoil(" + f + ", " + n + ")", ledger.spoil(f, n), oracle.spoil(f, n));
        } else if (kind < 94) {
            same("audit()", ledger.audit(), oracle.audit());
            replies(0);
            replies(1);
        } else if (kind == 94 && chance(50)) {
            int c = upTo(7);
            same("drop(" + t + ", " + c + ")", ledger.drop(t, c), oracle.drop(t, c));
            for (int i = -1; i < 4; i++) {
                same("retired(" + i + ")", ledger.retired(i), oracle.retired(i));
            }
        } else {
            int what = upTo(10) - 1;
            same("count(" + what + ")", ledger.count(what), oracle.count(what));
        }
    }

    private void callOfCode() {
        int f = oneBeyond(oracle.formList.size());
        int kind = upTo(99);
        if (kind < 15 || oracle.questions.size() < 4) {
            question();
        } else if (kind < 70) {
            ask();
        } else if (kind < 82) {
            int n = upTo(chance(90) ? 2 : 10);
            same("spoil(" + f + ", " + n + ")", ledger.spoil(f, n), oracle.spoil(f, n));
        } else if (kind < 90) {
            forms(f);
        } else if (kind < 97) {
            int what = upTo(7);
            same("count(" + what + ")", ledger.count(what), oracle.count(what));
        } else if (kind < 99) {
            same("audit()", ledger.audit(), oracle.audit());
        } else {
            int t = upTo(2);
            int c = upTo(3);
            same("drop(" + t + ", " + c + ")", ledger.drop(t, c), oracle.drop(t, c));
            same("retired(0)", ledger.retired(0), oracle.retired(0));
        }
    }

    private String shortText() {
        String column = "c" + upTo(2);
        return "from t" + upTo(1) + (chance(30) ? " where " + column + " = " + column : "") + " give "
                + (chance(50) ? column : "count") + (chance(60) ? " top " + upTo(3) : "");
    }

    private void ask() {
        int q = oracle.questions.isEmpty() ? 0 : upTo(oracle.questions.size() - 1);
        answer(q, chance(isOfCode ? 95 : 70));
    }

    private void change(int t, int q) {
        int r = oracle.tab(t) == null ? 0 : oneBeyond(oracle.tab(t).rows.size());
        int c = oracle.tab(t) == null ? 0 : oneBeyond(oracle.tab(t).sorts.size());
        switch (upTo(7)) {
            case 0:
                column(t, upTo(8) - 1);
                break;
            case 1:
                same("row(" + t + ")", ledger.row(t), oracle.row(t));
                break;
            case 2:
                same("missing(" + t + ", " + r + ", " + c + ")", ledger.missing(t, r, c), oracle.missing(t, r, c));
                break;
            case 3:
                look(upTo(4) - 1, upTo(11) - 1);
                break;
            case 4:
                if (chance(20)) {
                    same("table()", ledger.table(), oracle.table());
                }
                break;
            default:
                put(t, r, c);
        }
        same("value(" + t + ", " + r + ", " + c + ")", ledger.value(t, r, c), oracle.value(t, r, c));
    }

    private void question() {
        String text = isOfCode ? shortText() : texts.next();
        log.append("the text \"").append(text.replace("\n", "\\n")).append("\"\n");
        for (int i = 0; i < text.length();) {
            int n = Math.min(text.length() - i, isOfCode ? 8 : 1 + upTo(7));
            long bytes = random.nextLong();
            for (int k = 0; k < n; k++) {
                bytes = bytes << 8 | text.charAt(i + k);
            }
            i += n;
            same("say(" + bytes + ", " + n + ")", ledger.say(bytes, n), oracle.say(bytes, n));
        }
        if (chance(3)) {
            int n = upTo(20) - 5;
            same("say(0, " + n + ")", ledger.say(0, n), oracle.say(0, n));
        }
        same("question()", ledger.question(), oracle.question());
        same("fault()", ledger.fault(), oracle.fault);
        int q = oracle.questions.size() - 1;
        for (int what = chance(10) ? -1 : 0; what < 3; what++) {
            same("about(" + q + ", " + what + ")", ledger.about(q, what), oracle.about(q, what));
        }
        if (q >= 0) {
            forms(oracle.questions.get(q).form.number);
            answer(q, true);
        }
    }

    private void answer(int q, boolean byAsk) {
        if (byAsk) {
            same("ask(" + q + ")", ledger.ask(q), oracle.ask(q));
        } else {
            same("scan(" + q + ")", ledger.scan(q), oracle.scan(q));
        }
        replies(byAsk ? 0 : 1);
        if (byAsk && q >= 0 && q < oracle.questions.size()) {
            forms(oracle.questions.get(q).form.number);
        }
    }

    private void replies(int which) {
        int from = chance(10) ? -1 : 0;
        int to = chance(10) ? 8 : 7;
        for (int what = from; what < to; what++) {
            if (chance(isOfCode ? 30 : 60)) {
                same("outcome(" + which + ", " + what + ")", ledger.outcome(which, what), oracle.outcome(which, what));
            }
        }
        int rows = oracle.replies[which] == null ? 0 : oracle.replies[which].rows.size();
        int items = oracle.replies[which] == null ? 0 : oracle.replies[which].items;
        int shownRows = chance(90) ? Math.min(rows, 3) : rows + 1;
        for (int r = chance(5) ? -1 : 0; r < shownRows; r++) {
            for (int c = chance(5) ? -1 : 0; c <= items; c++) {
                if (chance(40)) {
                    continue;
                }
                same("cell(" + which + ", " + r + ", " + c + ")", ledger.cell(which, r, c), oracle.cell(which, r, c));
                same("isMissing(" + which + ", " + r + ", " + c + ")", ledger.isMissing(which, r, c),
                        oracle.isMissing(which, r, c));
            }
        }
    }

    private void constant(int q) {
        int i = upTo(4) - 1;
        int sort = (int) Math.max(0, oracle.constantOf(q, i, 0));
        long v = valueFor(sort == 0 ? upTo(1) : sort == 1 ? 2 : 5);
        same("constant(" + q + ", " + i + ", " + v + ")", ledger.constant(q, i, v), oracle.constant(q, i, v));
        for (int what = -1; what < 3; what++) {
            same("constantOf(" + q + ", " + i + ", " + what + ")", ledger.constantOf(q, i, what),
                    oracle.constantOf(q, i, what));
        }
    }

    private void forms(int f) {
        int to = chance(10) ? 8 : 7;
        for (int what = chance(10) ? -1 : 0; what < to; what++) {
            if (chance(40)) {
                continue;
            }
            same("form(" + f + ", " + what + ")", ledger.form(f, what), oracle.form(f, what));
        }
    }
}
