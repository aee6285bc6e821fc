/**
 * Section 2 up to the limits, and promises 10 to 12: texts, TOKENS, and what may be of one text; each sentence that names
 * an edge, at the last input that is allowed and at the first that is not.
 */
public final class TokenEdgesTest extends LedgerTest {
    public static void main(String[] args) {
        Due.by("2 QUESTIONS (24 at most", TokenEdgesTest::questions24);
        Due.by("those that are read without a FAULT", TokenEdgesTest::faultsAreNoQuestions);
        Due.by("texts of at most 240 bytes", TokenEdgesTest::bytes240);
        Due.by("texts of at most 240 bytes, each of them a TOKEN", TokenEdgesTest::tokens240);
        Due.by("TOKENS, as long as can be", TokenEdgesTest::asLongAsCanBe);
        Due.by("blanks (32, 10) between", TokenEdgesTest::blanks);
        Due.by("WORDS of letters a to z", TokenEdgesTest::words);
        Due.by("NAMES: c, d or t and one digit", TokenEdgesTest::names);
        Due.by("c, d, t with a digit right behind is a NAME; else all letters from one on are a WORD",
                TokenEdgesTest::namesOrWords);
        Due.by("NUMBERS of 1 to 15 digits", TokenEdgesTest::numbers);
        Due.by("REALS: 1 to 9 digits, a point, 1 to 3 digits", TokenEdgesTest::reals);
        Due.by("TEXTS: ' up to 5 letters ' (none, too)", TokenEdgesTest::texts);
        Due.by("all digits, letters that stand there are taken: more than so many are no TOKEN", TokenEdgesTest::allAreTaken);
        Due.by("signs", TokenEdgesTest::signs);
        Due.by("At most 6 items", TokenEdgesTest::items6);
        Due.by("12 CONSTANTS", TokenEdgesTest::constants12);
        Due.by("80 NODES (in items)", TokenEdgesTest::nodes80InItems);
        Due.by("80 NODES (in conditions)", TokenEdgesTest::nodes80InConditions);
        Due.by("NUMBER (but of look, order, top), COLUMN (but of on, group)", TokenEdgesTest::whatIsNoNode);
        Due.by("12 of these in one another (in items)", TokenEdgesTest::twelveInItems);
        Due.by("12 of these in one another (in conditions)", TokenEdgesTest::twelveInConditions);
        Due.by("in one another, not beside one another", TokenEdgesTest::besideOneAnother);
        Due.by("of count none", TokenEdgesTest::countIsNotWithin);
        Due.by("Promise 10: n (1 .. 8) bytes", TokenEdgesTest::oneToEightBytes);
        Due.by("the highest one of the n lowest first", TokenEdgesTest::highestOfTheLowestFirst);
        Due.by("Promise 10: BAD; FULL: above 240", TokenEdgesTest::sayIsRefused);
        Due.by("Promise 11: is empty then (also by a FAULT, but not by FULL)", TokenEdgesTest::emptyThen);
        Due.by("Promise 11: nothing of an earlier text is left", TokenEdgesTest::nothingIsLeft);
        Due.by("Promise 11: nothing of a FAULT is left", TokenEdgesTest::nothingOfAFaultIsLeft);
        Due.by("Promise 11: -100 less the place of the first FAULT", TokenEdgesTest::firstAndLastPlace);
        Due.by("Promise 12: 0: none; FULL leaves it", TokenEdgesTest::faultOfTheLatest);
        Due.end();
    }

    private static void questions24() {
        ElevatorLedger ledger = ofAllSorts();
        for (int i = 0; i < 24; i++) {
            Due.is("question " + i, Due.question(ledger, "from t0 give count top " + i), i);
        }
        Due.is("the 25th", Due.question(ledger, "from t0 give count"), FULL);
        Due.is("questions", ledger.count(1), 24);
        Due.is("FORMS (24 at most, as questions)", ledger.count(2), 24);
        Due.is("the 24th's FORM", ledger.about(23, 1), 23);
        Due.is("the 25th is none", ledger.about(24, 1), BAD);
        Due.is("the 24th is answered", ledger.ask(23), 1);
        Due.is("the 25th is not", ledger.ask(24), BAD);
    }

    private static void faultsAreNoQuestions() {
        ElevatorLedger ledger = ofAllSorts();
        for (int i = 0; i < 24; i++) {
            Due.is("a FAULT", Due.question(ledger, "from"), -104);
        }
        Due.is("questions", ledger.count(1), 0);
        for (int i = 0; i < 24; i++) {
            Due.is("question " + i, Due.question(ledger, "from t0 give c0"), i);
        }
        Due.is("FULL ahead of a FAULT", Due.question(ledger, "from"), FULL);
    }

    private static void bytes240() {
        String text = "from t0 give count";
        ElevatorLedger ledger = ofAllSorts();
        Due.is("240 bytes", Due.question(ledger, text + " ".repeat(240 - text.length())), 0);
        Due.is("240 bytes, the last ones being told", Due.question(ledger, " ".repeat(240 - text.length()) + text), 1);
        for (int i = 0; i < 30; i++) {
            Due.is("say", ledger.say(0x2020202020202020L, 8), 8 * i + 8);
        }
        Due.is("the 241st byte", ledger.say(' ', 1), FULL);
        Due.is("its end", ledger.question(), -340);
    }

    private static void tokens240() {
        for (char sign : "+-*/%(),{}=<>".toCharArray()) {
            ElevatorLedger ledger = ofAllSorts();
            Due.is("240 of " + sign, Due.question(ledger, String.valueOf(sign).repeat(240)), -100);
            Due.is("its FAULT", ledger.fault(), 1);
        }
        faults(1, "from t0 give c0,|" + ",".repeat(224));
        faults(4, "from t0 give " + "-".repeat(12) + "|" + "-".repeat(215));
    }

    private static void asLongAsCanBe() {
        reads("from t0 where c0<=1 give c0");
        reads("from t0 where c0>=1 give c0");
        reads("from t0 where c0<>1 give c0");
        faults(1, "from t0 where c0< |=1 give c0");
        faults(1, "from t0 where c0> |=1 give c0");
        faults(1, "from t0 where c0< |>1 give c0");
        faults(1, "from t0 where c0=|<1 give c0");
        faults(1, "from t0 where c0=|>1 give c0");
        faults(1, "from t0 where c0>|<1 give c0");
        faults(1, "from t0 where c0<>|=1 give c0");
        faults(1, "from t0 where c0<=|>1 give c0");
        faults(1, "from t0 where c0<=|");
        faults(1, "from t0 where c0>=|");
        faults(1, "from t0 where c0<>|");
        faults(1, "from t0 where c0<|");
        faults(1, "from t0 give |countc0");
        faults(1, "from t0 give 12 |3");
        ElevatorLedger ledger = ofAllSorts();
        int q = Due.read(ledger, "from t0 give 123,1.25");
        Due.is("all its digits", ledger.constantOf(q, 0, 1), 123);
        Due.is("all its digits", ledger.constantOf(q, 1, 1), 1250);
        Due.is("CONSTANTS", ledger.about(q, 0), 2);
    }

    private static void blanks() {
        reads(" \n from \n\n t0 \n give\nc0 \n");
        reads("from t0give c0+1,c0");
        for (int b = 0; b < 256; b++) {
            if (b != 32 && b != 10) {
                ElevatorLedger ledger = ofAllSorts();
                Due.say(ledger, "from");
                ledger.say(b, 1);
                Due.say(ledger, "t0 give c0");
                boolean isLetter = b >= 'a' && b <= 'z';
                Due.is("byte " + b + " as a blank", ledger.question(), isLetter ? -100 : -104);
                Due.is("its FAULT", ledger.fault(), 1);
            }
        }
        faults(1, "from t0 give c0|\u0000");
        faults(1, " \n |");
    }

    private static void words() {
        faults(1, "|a");
        faults(1, "|z");
        faults(1, "|From t0 give c0");
        faults(1, "|FROM t0 give c0");
        faults(1, "|fro t0 give c0");
        faults(1, "|fromm t0 give c0");
        faults(1, "from|_t0 give c0");
        faults(1, "from|`t0 give c0");
        faults(1, "from t0 |wherez c0 = 1 give c0");
        faults(1, "from t0 give c0 |tops 1");
    }

    private static void names() {
        faults(2, "from |t9 give c0");
        faults(2, "from t0 give |c9");
        faults(2, "from t0 join t1 on c0 = d0 give |d9");
        reads("from t0 join t1 on c0 = d0 give c0, d0");
        reads("from t0 join t1 on c6 = d6 give c6, d6");
        faults(1, "from |t give c0");
        faults(1, "from t0 give |c");
        faults(1, "from t0 give |c 0");
        faults(1, "from t0 give |d");
        faults(1, "from t0 give |e0");
        faults(1, "from t0 give |b0");
        faults(1, "from t0 give |s0");
        faults(1, "from t0 give |u0");
        faults(1, "from t0 give |C0");
        // The bytes on both sides of the digits.
        faults(1, "from t0 give |c/");
        faults(1, "from t0 give |c:");
        faults(1, "from t0 give c0|0");
        faults(1, "from t0 give c1|2");
        faults(1, "from t0|0 give c0");
        faults(1, "from t0 join t1 on c0 = d0|0 give c0");
    }

    private static void namesOrWords() {
        reads("from t0where c0=1give c0order 0");
        reads("from t0 join t1on c0=d0where d0=1or d1=1give c0or missing");
        faults(1, "from t0 give |cc0");
        faults(1, "from t0 give |dc0");
        faults(1, "|fromt0 give c0");
        faults(1, "from t0 |givec0");
        faults(1, "from t0 give c0|c0");
        faults(1, "from t0 give c0|d0");
        faults(1, "from t0 give c0|x0");
    }

    private static void numbers() {
        ElevatorLedger ledger = ofAllSorts();
        int q = Due.read(ledger, "from t0 give 0, 9, 999999999999999, 000000000000001, 100000000000000");
        long[] due = {0, 9, 999999999999999L, 1, 100000000000000L};
        for (int i = 0; i < due.length; i++) {
            Due.is("NUMBER " + i, ledger.constantOf(q, i, 1), due[i]);
            Due.is("its SORT", ledger.constantOf(q, i, 0), 0);
        }
        faults(1, "from t0 give |1234567890123456");
        faults(1, "from t0 give |0000000000000001");
        faults(1, "from t0 give |1000000000000000 + 1");
        faults(1, "from t0 give c0 top |1000000000000000");
        reads("from t0 give c0 top 999999999999999");
        reads("from t0 give look(000000000000002, c0) order 000000000000000");
        faults(1, "from t0 give c0 order |0000000000000000");
        faults(1, "from t0 give look(|0000000000000000, c0)");
    }

    private static void reals() {
        ElevatorLedger ledger = ofAllSorts();
        int q = Due.read(ledger, "from t0 give 0.0, 999999999.999, 000000001.001, 1.5, 2.25, 0.001");
        long[] due = {0, 999999999999L, 1001, 1500, 2250, 1};
        for (int i = 0; i < due.length; i++) {
            Due.is("REAL " + i, ledger.constantOf(q, i, 1), due[i]);
            Due.is("its SORT", ledger.constantOf(q, i, 0), 1);
        }
        faults(1, "from t0 give |1234567890.5");
        faults(1, "from t0 give |0000000000.5");
        faults(1, "from t0 give |1.2345");
        faults(1, "from t0 give |1.0000");
        faults(1, "from t0 give |123456789.0000");
        faults(1, "from t0 give |1234567890.125");
        // Without a digit on both sides the point is no part of a TOKEN.
        faults(1, "from t0 give 1|.");
        faults(1, "from t0 give 1|. 5");
        faults(1, "from t0 give 1 |.5");
        faults(1, "from t0 give |.5");
        faults(1, "from t0 give 1|.+ 2");
        faults(1, "from t0 give 1|..5");
        faults(1, "from t0 give 1.5|.5");
        faults(1, "from t0 give 1.5|.");
        faults(1, "from t0 give 123456789012345|.");
        faults(1, "from t0 give c0 top |1.5");
    }

    private static void texts() {
        ElevatorLedger ledger = ofAllSorts();
        int q = Due.read(ledger, "from t0 give '', 'a', 'z', 'abcde', 'zzzzz'");
        long[] due = {0, Due.text("a"), Due.text("z"), Due.text("abcde"), Due.text("zzzzz")};
        for (int i = 0; i < due.length; i++) {
            Due.is("TEXT " + i, ledger.constantOf(q, i, 1), due[i]);
            Due.is("its SORT", ledger.constantOf(q, i, 0), 2);
        }
        faults(1, "from t0 give |'abcdef'");
        faults(1, "from t0 give |'abcdefghijkl'");
        faults(1, "from t0 give |'");
        faults(1, "from t0 give |'abcde");
        faults(1, "from t0 give ''|'");
        faults(1, "from t0 give 'ab'|'cd'");
        for (char c : "A1 _`{\n\u0000\u00e9".toCharArray()) {
            faults(1, "from t0 give |'a" + c + "b'");
        }
    }

    private static void allAreTaken() {
        // No shorter TOKEN is cut out of them: the FAULT is at their first byte, and no TOKEN follows from their middle.
        faults(1, "from t0 give c0 + |1234567890123456 + 1");
        faults(1, "from t0 give c0 + |9999999999.9 + 1");
        faults(1, "from t0 give c0 + |9.9999 + 1");
        faults(1, "from t0 where c5 = |'abcdef' give c0");
        faults(1, "from t0 give c0 |1234567890123456");
        // A NUMBER may have more digits than a REAL ahead of its point.
        reads("from t0 give 1234567890");
    }

    private static void signs() {
        reads("from t0 where (c0+1-1*1/1%1=1or c0<>1or c0<1or c0<=1or c0>1or c0>=1) give {c0},c1");
        String none = "!\"#$&.:;?@[\\]^_`~\u007f\u0080\u00ff";
        for (char c : none.toCharArray()) {
            faults(1, "from t0 give c0|" + c + "c0");
        }
        Due.is("byte 124, which is the tests' mark", Due.question(ofAllSorts(), "from t0 give c0|c0"), -115);
        String fitting = "+-*/%,";
        for (char c : fitting.toCharArray()) {
            reads("from t0 give c0" + c + "c0");
        }
    }

    private static void items6() {
        reads("from t0 give c0,c0,c0,c0,c0,c0");
        reads("from t0 give count,count,count,count,count,count");
        reads("from t0 group c0 give c0,count,c0,count,c0,count");
        faults(1, "from t0 give c0,c0,c0,c0,c0,c0,|");
        String[] items = {"count", "sum(c0)", "least(c0)", "most(c0)", "c0", "d0", "0", "0.5", "''", "-c0", "{c0}",
            "int(c0)", "whole(c2)", "real(c0)", "year(c0)", "month(c0)", "weekday(c0)", "look(0,c0)", "c9"};
        for (String item : items) {
            faults(4, "from t0 give c0,c0,c0,c0,c0,c0,|" + item);
        }
        String[] none = {"t0", "not", "(", "missing", "give", "down", "+", ",", "}", "'abcdef'", "#", "frm"};
        for (String each : none) {
            faults(1, "from t0 give c0,c0,c0,c0,c0,c0,|" + each);
        }
    }

    private static void constants12() {
        ElevatorLedger ledger = ofAllSorts();
        int q = Due.read(ledger, "from t0 where 1=1 and 2.0=2 and ''='a' give 7,8+9,1.5,'b',11 order 0 top 99");
        Due.is("twelve", ledger.about(q, 0), 12);
        Due.is("the last", ledger.constantOf(q, 11, 1), 11);
        Due.is("behind the last", ledger.constantOf(q, 12, 1), NO);
        String twelve = "from t0 where 1=1 and 2.0=2 and ''='a' give 7,8+9,1.5,'b',11";
        faults(4, twelve + "+|1");
        faults(4, twelve + "+|1.5");
        faults(4, twelve + "+|'a'");
        faults(4, "from t0 where 1+1+1+1+1+1+1+1+1+1+1=1 and |1=c0 give c0");
        faults(1, twelve + "+|1234567890123456");
        // Those of look, order, top are none.
        reads("from t0 give 1+1+1+1+1+1+1+1+1+1+1+look(1,1)+look(2,c0) order 0 top 1");
        faults(4, "from t0 give 1+1+1+1+1+1+1+1+1+1+1+look(1,1)+look(2,|1)");
    }

    /** A sum of so many NODES. */
    private static String sum(int nodes) {
        return nodes % 2 == 0 ? "-" + sum(nodes - 1) : "c0" + "+c0".repeat(nodes / 2);
    }

    /** What is marked is a NODE, with so many ahead of it in that text, and so many in all of it. */
    private static void node(String begin, String marked, int ahead, int all) {
        ElevatorLedger ledger = ofAllSorts();
        String text = marked.replace("|", "");
        int q = Due.read(ledger, "from t0 " + begin + sum(80 - all) + text);
        Due.is("NODES with " + text, ledger.form(ledger.about(q, 1), 6), 80);
        faults(4, "from t0 " + begin + sum(80 - ahead) + marked);
    }

    private static void nodes80InItems() {
        String[] signs = {"+", "-", "*", "/", "%"};
        for (String sign : signs) {
            node("give ", "|" + sign + "c0", 0, 2);
        }
        node("give ", ",c0+|c0", 2, 3);
        node("give ", ",|-c0", 0, 2);
        node("give ", ",-|-c0", 1, 3);
        node("give ", ",|1", 0, 1);
        node("give ", ",|1.5", 0, 1);
        node("give ", ",|'a'", 0, 1);
        node("give ", ",|c6", 0, 1);
        node("give ", ",{|c6}", 0, 1);
        String[] words = {"int", "real", "year", "month", "weekday"};
        for (String word : words) {
            node("give ", ",|" + word + "(c0)", 0, 2);
        }
        node("give ", ",|whole(c2)", 0, 2);
        node("give ", ",|look(0,c0)", 0, 2);
        node("give count,sum(", "),|count", 2, 3);
        node("give count,sum(", "),|sum(c0)", 2, 4);
        node("give count,sum(", "),|least(c0)", 2, 4);
        node("give count,sum(", "),|most(c0)", 2, 4);
    }

    private static void nodes80InConditions() {
        String[] signs = {"=", "<>", "<", "<=", ">", ">="};
        for (String sign : signs) {
            node("where ", "|" + sign + "c0 give c0", 0, 3);
        }
        node("where ", " |is missing give c0", 0, 2);
        node("where ", "=c0 |and c0=c0 give c0", 2, 7);
        node("where ", "=c0 |or c0=c0 give c0", 2, 7);
        node("where ", "=c0 and |not c0=c0 give c0", 3, 8);
        node("where ", "=c0 and (|not c0=c0) give c0", 3, 8);
        node("where ", "=c0 give |c0", 2, 3);
    }

    private static void whatIsNoNode() {
        ElevatorLedger ledger = ofAllSorts();
        String[] texts = {"from t0 give " + sum(78) + ",look(2,c0)",
            "from t0 give " + sum(80) + " order 0 down top 5", "from t0 join t1 on c0=d0 give " + sum(80),
            "from t0 group c0,c1 give least(" + sum(79) + ")", "from t0 give {{" + sum(80) + "}} or missing",
            "from t0 where ((" + sum(77) + "=c0)) give c0"};
        for (String text : texts) {
            int q = Due.read(ledger, text);
            Due.is("NODES", ledger.form(ledger.about(q, 1), 6), 80);
        }
    }

    private static void twelveInItems() {
        String[] kinds = {"{", "-", "int(", "real(", "year(", "month(", "weekday(", "look(0,"};
        for (String kind : kinds) {
            String close = kind.equals("{") ? "}" : kind.equals("-") ? "" : ")";
            String last = kind + "c0" + close;
            reads("from t0 give " + "{".repeat(11) + last + "}".repeat(11));
            faults(4, "from t0 give " + "{".repeat(12) + "|" + last + "}".repeat(12));
            faults(4, "from t0 give " + "-".repeat(12) + "|" + last);
            if (!kind.equals("real(")) {
                reads("from t0 give " + kind.repeat(12) + "c0" + close.repeat(12));
                faults(4, "from t0 give " + kind.repeat(12) + "|" + kind + "c0" + close.repeat(13));
            }
        }
        reads("from t0 give " + "{".repeat(11) + "whole(c2)" + "}".repeat(11));
        faults(4, "from t0 give " + "{".repeat(12) + "|whole(c2)" + "}".repeat(12));
        String[] together = {"sum(", "least(", "most("};
        for (String each : together) {
            reads("from t0 give " + each + "{".repeat(11) + "c0" + "}".repeat(11) + ")");
            faults(4, "from t0 give " + each + "{".repeat(11) + "|{c0" + "}".repeat(12) + ")");
        }
    }

    private static void twelveInConditions() {
        String[] kinds = {"(", "not "};
        for (String kind : kinds) {
            String close = kind.equals("(") ? ")" : "";
            reads("from t0 where " + kind.repeat(12) + "c0=c0" + close.repeat(12) + " give c0");
            faults(4, "from t0 where " + kind.repeat(12) + "|" + kind + "c0=c0" + close.repeat(13) + " give c0");
            faults(4, "from t0 where " + kind.repeat(12) + "|{c0}=c0" + close.repeat(12) + " give c0");
            faults(4, "from t0 where " + kind.repeat(12) + "|-c0=c0" + close.repeat(12) + " give c0");
            faults(4, "from t0 where " + kind.repeat(12) + "c0=|int(c0)" + close.repeat(12) + " give c0");
            reads("from t0 where " + kind.repeat(11) + "c0={c0}" + close.repeat(11) + " give c0");
        }
        faults(4, "from t0 where " + "not (".repeat(6) + "|not c0=c0" + ")".repeat(6) + " give c0");
        faults(4, "from t0 where " + "(not ".repeat(6) + "|(c0=c0)" + ")".repeat(6) + " give c0");
    }

    private static void besideOneAnother() {
        String twelve = "{".repeat(12) + "c0" + "}".repeat(12);
        reads("from t0 give " + twelve + "+" + twelve + "," + twelve);
        faults(4, "from t0 give " + twelve + "+" + "{".repeat(12) + "|{c0}" + "}".repeat(12));
        // Each kind ends where it ends: thirteen stand beside one another, and twelve within one another behind them.
        String[] kinds = {"{c0}", "-c0", "int(c0)", "look(0,c0)"};
        for (String kind : kinds) {
            reads("from t0 give " + (kind + "+").repeat(13) + twelve);
        }
        reads("from t0 where " + "not c0=c0 and ".repeat(8) + "(".repeat(12) + "c0=c0" + ")".repeat(12) + " give c0");
        reads("from t0 where " + "(c0=c0)or ".repeat(8) + "(".repeat(12) + "c0=c0" + ")".repeat(12) + " give c0");
        reads("from t0 give sum(c0),least(c0),most(c0),sum(c0),sum({{{{{{{{{{{c0}}}}}}}}}}})");
    }

    private static void countIsNotWithin() {
        reads("from t0 give count,count,count,least(" + "{".repeat(11) + "c0" + "}".repeat(11) + ")");
        faults(1, "from t0 give count|(c0)");
        faults(1, "from t0 give count|(");
    }

    private static void oneToEightBytes() {
        ElevatorLedger ledger = ofAllSorts();
        int length = 0;
        for (int n = 1; n <= 8; n++) {
            length += n;
            Due.is("n = " + n, ledger.say(0, n), length);
        }
        int[] bad = {0, 9, -1, Integer.MIN_VALUE, Integer.MAX_VALUE};
        for (int n : bad) {
            Due.is("n = " + n, ledger.say(0, n), BAD);
        }
        Due.is("they are there still", ledger.say(0, 1), length + 1);
    }

    private static void highestOfTheLowestFirst() {
        ElevatorLedger ledger = ofAllSorts();
        // The bytes above the n lowest do not come: here they are all ones.
        ledger.say(0xffffffff_66726f6dL, 4);
        ledger.say(0xffffffff_ff207430L, 3);
        ledger.say(0x2067697665206330L, 8);
        Due.is("from t0 give c0", ledger.question(), 0);
        Due.is("no FAULT", ledger.fault(), 0);
        ledger.say(-1L, 8);
        Due.is("255 is no TOKEN", ledger.question(), -100);
        ledger.say(0x20202020202020ffL, 8);
        Due.is("the last of eight is the lowest", ledger.question(), -107);
        ledger.say(0xff20202020202020L, 8);
        Due.is("the first of eight is the highest", ledger.question(), -100);
    }

    private static void sayIsRefused() {
        for (int n = 1; n <= 8; n++) {
            ElevatorLedger ledger = ofAllSorts();
            for (int i = 0; i < 29; i++) {
                ledger.say(0x2020202020202020L, 8);
            }
            Due.is("232 and 8 - n", n == 8 ? 232 : ledger.say(0x2020202020202020L, 8 - n), 240 - n);
            Due.is("240", ledger.say(0x2020202020202020L, n), 240);
            Due.is("above 240", ledger.say(0, n), FULL);
            Due.is("BAD ahead of FULL", ledger.say(0, 9), BAD);
            Due.is("BAD ahead of FULL", ledger.say(0, 0), BAD);
        }
        ElevatorLedger ledger = ofAllSorts();
        for (int i = 0; i < 29; i++) {
            ledger.say(0x2020202020202020L, 8);
        }
        ledger.say(' ', 1);
        Due.is("eight to 233", ledger.say(0, 8), FULL);
        Due.is("none of them came", ledger.say(0x20202020202020L, 7), 240);
        Due.is("blanks alone", ledger.question(), -340);
    }

    private static void emptyThen() {
        ElevatorLedger ledger = ofAllSorts();
        Due.read(ledger, "from t0 give c0");
        Due.is("by a question", ledger.say(' ', 1), 1);
        int[] faults = {1, 2, 3, 4};
        String[] texts = {"from", "from t0 give c9", "from t0 give -c5", "from t0 give c0,c0,c0,c0,c0,c0,c0"};
        for (int i = 0; i < 4; i++) {
            Due.question(ledger, texts[i]);
            Due.is("the FAULT", ledger.fault(), faults[i]);
            Due.is("by a FAULT", ledger.say(' ', 1), 1);
        }
        for (int i = 1; i < 24; i++) {
            Due.read(ledger, "from t0 give c0");
        }
        Due.say(ledger, "from t0");
        Due.is("FULL", ledger.question(), FULL);
        Due.is("not by FULL", ledger.say(' ', 1), 8);
        Due.is("FULL", ledger.question(), FULL);
        Due.is("not by FULL", ledger.say(' ', 1), 9);
    }

    /** Behind a longer text each beginning of it is read as on a new object. */
    private static void nothingIsLeft() {
        String[] texts = {"from t0 join t1 on c0=d0 where c5='abc' and c0<=12 or c0<>1.25 give c0,d12",
            "from t0 where c0>=123456 group c0,c1 give sum(c0),count order 10 down top 12"};
        for (String text : texts) {
            for (int length = 0; length < text.length(); length++) {
                ElevatorLedger used = ofAllSorts();
                Due.question(used, text);
                ElevatorLedger fresh = ofAllSorts();
                String begin = text.substring(0, length);
                int due = Due.question(fresh, begin);
                Due.is("question() of \"" + begin + "\"", Due.question(used, begin), due);
                Due.is("its FAULT", used.fault(), fresh.fault());
            }
        }
    }

    private static void nothingOfAFaultIsLeft() {
        String[] faults = {"from t9 join t8 on c0 = d0 give count", "from t0 give 1+2+3+4+5+6+7+8+9+10+11+12 give", "from t0 where not (not (not (c0 = {- int(c0 give",
            "from t0 where c0 = 1 or c0 = 2 give c9", "from t0 join t1 on c0 = d0 group d0, c0 give c5 order 0 down top 0",
            "from t0 give c0, c0, c0, c0, c0, c0, c0", "from t0 give c0+c0*{c0+c0*{c0+c0*{c0+c0*{c0+c0*{c0+c0*{-c5}}}}}}"};
        for (String fault : faults) {
            ElevatorLedger ledger = ofAllSorts();
            for (int i = 0; i < 12; i++) {
                Due.holds("a FAULT", Due.question(ledger, fault) <= -100);
            }
            ledger.row(0);
            String twelve = "{".repeat(12) + "7" + "}".repeat(12);
            int q = Due.read(ledger, "from t0 give " + twelve + ", 8 + {c0 + {c0 + {c0 + 9}}}, 10, 11, 12, 13");
            Due.is("CONSTANTS", ledger.about(q, 0), 7);
            Due.is("the first", ledger.constantOf(q, 0, 1), 7);
            Due.is("the last", ledger.constantOf(q, 6, 1), 13);
            Due.is("NODES", ledger.form(0, 6), 14);
            Due.is("rows", ledger.ask(q), 1);
            Due.is("a VALUE", ledger.cell(0, 0, 0), 7);
            Due.is("another one", ledger.cell(0, 0, 5), 13);
        }
    }

    private static void firstAndLastPlace() {
        ElevatorLedger ledger = ofAllSorts();
        Due.is("the end of no text", ledger.question(), -100);
        Due.is("its FAULT", ledger.fault(), 1);
        Due.is("the first byte", Due.question(ledger, "give"), -100);
        String text = "from t0 give " + "c0+".repeat(20);
        Due.is("the last byte", Due.question(ledger, text + " ".repeat(239 - text.length()) + "+"), -339);
        Due.is("the end of 240 bytes", Due.question(ledger, text + " ".repeat(240 - text.length())), -340);
        Due.is("blanks at the end", Due.question(ledger, "from t0 give c0 +  "), -119);
    }

    private static void faultOfTheLatest() {
        ElevatorLedger ledger = ofAllSorts();
        Due.is("none yet", ledger.fault(), 0);
        Due.question(ledger, "from t0 give c9");
        Due.is("a FAULT", ledger.fault(), 2);
        Due.is("it stays", ledger.fault(), 2);
        for (int i = 0; i < 23; i++) {
            Due.read(ledger, "from t0 give c0");
        }
        Due.is("none", ledger.fault(), 0);
        Due.question(ledger, "from t0 give -c5");
        Due.read(ledger, "from t0 give c0");
        Due.is("none again", ledger.fault(), 0);
        Due.question(ledger, "from t0 give -c5");
        Due.is("FULL leaves it", ledger.fault(), 0);
    }
}
