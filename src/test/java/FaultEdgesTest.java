/**
 * Section 2 from the grammar on, and promises 13 to 15: what may stand, SORTS, FAULTS with their places, CONSTANTS and
 * FORMS; each sentence that names an edge, on both sides of it.
 */
public final class FaultEdgesTest extends LedgerTest {
    /** A sum of each SORT: WHOLE, REAL, TEXT. */
    private static final String[] SUMS = {"c0", "c2", "c5"};
    private static final int WHOLE = 0, REAL = 1, TEXT = 2;
    private static final int[] WILD = {Integer.MIN_VALUE, -1, 24, 256, Integer.MAX_VALUE};

    public static void main(String[] args) {
        Due.by("question: from .. top (what may be left out)", FaultEdgesTest::whatMayBeLeftOut);
        Due.by("question: from .. top (each TOKEN, and the end, at its place)", FaultEdgesTest::tokensInOrder);
        Due.by("TABLE: a NAME with t; COLUMN: one with c, d", FaultEdgesTest::namesByTheirLetters);
        Due.by("group COLUMN [ , COLUMN ]", FaultEdgesTest::oneOrTwoGroups);
        Due.by("item: count, or sum ( sum ) .., or sum [ or missing ]", FaultEdgesTest::itemsOfTheGrammar);
        Due.by("one: not one, or ( condition ), if ( stands there, or comparison", FaultEdgesTest::ones);
        Due.by("comparison: just one sign, or sum is missing", FaultEdgesTest::justOneSign);
        Due.by("factor", FaultEdgesTest::factors);
        Due.by("WHOLE (INT, LONG, TRUTH, CODE, DAY, NUMBERS), REAL, TEXT", FaultEdgesTest::sortsOfColumns);
        Due.by("+ - * / of a WHOLE and a REAL, or two REALS, are REAL", FaultEdgesTest::arithmetic);
        Due.by("% is of WHOLES alone", FaultEdgesTest::restOfWholes);
        Due.by("- of WHOLE, REAL", FaultEdgesTest::negation);
        Due.by("comparisons are of two TEXTS, or of none", FaultEdgesTest::comparisons);
        Due.by("int, year, month, weekday want a WHOLE; whole a REAL, real a WHOLE; look a WHOLE", FaultEdgesTest::calls);
        Due.by("look a LOOK-UP's number", FaultEdgesTest::lookUpNumbers);
        Due.by("sum is of WHOLE or REAL", FaultEdgesTest::sumOfText);
        Due.by("COLUMNS in on: of one SORT, no REAL", FaultEdgesTest::sortsOfOn);
        Due.by("With group, items are count, sum, least, most, or just a grouped COLUMN", FaultEdgesTest::itemsOfGroups);
        Due.by("without group either all are count, sum, least, most, or none", FaultEdgesTest::itemsOfOneKind);
        Due.by("order's NUMBER is an item's (from 0 on)", FaultEdgesTest::orderNumbers);
        Due.by("1 a TOKEN that cannot stand there (also what is none; the end)", FaultEdgesTest::cannotStand);
        Due.by("1 a TOKEN that cannot stand there (each TOKEN)", FaultEdgesTest::eachTokenThatCannotStand);
        Due.by("4 a TOKEN that could, but ..", FaultEdgesTest::couldStandBut);
        Due.by("Both are looked for first, in all the text", FaultEdgesTest::lookedForFirst);
        Due.by("2 a TABLE, COLUMN that is not there, or gone", FaultEdgesTest::notThere);
        Due.by("COLUMNS of a TABLE that is not told: d without join", FaultEdgesTest::joinedWithoutJoin);
        Due.by("from the left", FaultEdgesTest::fromTheLeft);
        Due.by("what is within ahead of what it is within", FaultEdgesTest::withinFirst);
        Due.by("a sign, WORD at its own place, behind all that it is for (on: =)", FaultEdgesTest::atItsOwnPlace);
        Due.by("an item at its first TOKEN, behind all of it", FaultEdgesTest::itemsAtTheirFirstToken);
        Due.by("CONSTANTS in the order of the text", FaultEdgesTest::constantsInOrder);
        Due.by("two questions have one FORM, if their TOKENS are the same", FaultEdgesTest::sameForms);
        Due.by("FORMS are numbered as they come", FaultEdgesTest::formsAsTheyCome);
        Due.by("Promise 13: NO: BAD", FaultEdgesTest::constantOfIsRefused);
        Due.by("Promise 13: 1000 times it, as it was told, or 125 times what constant() told", FaultEdgesTest::thousandths);
        Due.by("Promise 14: WHOLES any, REALS and TEXTS as put() is told them", FaultEdgesTest::constantRanges);
        Due.by("Promise 14: BAD", FaultEdgesTest::constantIsRefused);
        Due.by("Promise 15: CONSTANTS (0), its FORM (1), whether it is GONE (2); BAD", FaultEdgesTest::about);
        Due.end();
    }

    private static void whatMayBeLeftOut() {
        String[] joins = {"", "join t1 on c0 = d0 "};
        String[] wheres = {"", "where c0 = 1 "};
        String[] groups = {"", "group c0 ", "group c0, c1 "};
        String[] orders = {"", "order 0 ", "order 0 down "};
        String[] tops = {"", "top 1"};
        for (String join : joins) {
            for (String where : wheres) {
                for (String group : groups) {
                    for (String order : orders) {
                        for (String top : tops) {
                            reads("from t0 " + join + where + group + "give count " + order + top);
                        }
                    }
                }
            }
        }
        faults(1, "from t0 where c0 = 1 |join t1 on c0 = d0 give count");
        faults(1, "from t0 group c0 |where c0 = 1 give count");
        faults(1, "from t0 give count |group c0");
        faults(1, "from t0 give count |where c0 = 1");
        faults(1, "from t0 give count top 1 |order 0");
        faults(1, "from t0 give count |down");
        faults(1, "from t0 give count order 0 top 1 |down");
        faults(1, "from t0 give count top 1 |top 1");
        faults(1, "from t0 give count |give count");
        faults(1, "from t0 join t1 on c0 = d0 |join t1 on c0 = d0 give count");
        faults(1, "from t0 where c0 = 1 |where c0 = 1 give count");
    }

    /**
     * Each beginning of a text, and behind it another ending: behind so many TOKENS as are told it can stand, behind all
     * others its first TOKEN (or the end) is the FAULT.
     */
    private static void endings(String text, String ending, String canStandBehind) {
        StringBuilder begin = new StringBuilder();
        String[] tokens = text.split(" ");
        for (int i = 0; i <= tokens.length; i++) {
            if ((" " + canStandBehind + " ").contains(" " + i + " ")) {
                reads(begin + ending);
            } else {
                faults(1, begin + "|" + ending);
            }
            begin.append(i < tokens.length ? tokens[i] + " " : "");
        }
    }

    private static void tokensInOrder() {
        String text = "from t0 join t1 on c0 = d0 where c0 = 1 group c0 , c1 give count , count order 0 down top 1";
        endings(text, "", "18 20 22 23 25");
        endings(text, "give count", "2 8 12 14 16");
        endings(text, "where c0 = 1 give count", "2 8");
        endings(text, "group c0 give count", "2 8 12");
        endings(text, "join t1 on c0 = d0 give count", "2");
        endings(text, "order 0", "18 20");
        endings(text, "top 1", "18 20 22 23");
        endings(text, "from t0 give count", "0");
        endings(text, "or c0 = 1 give count", "12");
        endings(text, "and c0 = 1 give count", "12");
        String deep = "from t0 where not ( c0 + 1 = - { c1 } or int ( c1 ) is missing ) give c0 * look ( 0 , c0 ) or missing , c1";
        endings(deep, "", "23 30 32 34");
        endings(deep, "give c0", "2 21");
        endings(deep, "group c0 give count", "2 21");
        endings(deep, "order 0", "23 30 32 34");
        String calls = "from t0 where c0 = int ( look ( 0 , c1 ) ) and c0 = 1";
        endings(calls, "give c0", "2 14 18");
        endings(calls, "and c0 = 1 give c0", "14 18");
        endings("from t0 give c0 or missing", ", c0", "4 6");
        endings("from t0 give - c0 / 2", ", c0", "5 7");
        endings("from t0 give sum ( c0 )", ", count", "7");
        endings("from t0 give look ( 0", ", c0 )", "6");
    }

    private static void namesByTheirLetters() {
        faults(1, "from |c0 give count");
        faults(1, "from |d0 give count");
        faults(1, "from |0 give count");
        faults(1, "from t0 join |c1 on c0 = d0 give count");
        faults(1, "from t0 join t1 on |d0 = d0 give count");
        faults(1, "from t0 join t1 on |t0 = d0 give count");
        faults(1, "from t0 join t1 on c0 = |c0 give count");
        faults(1, "from t0 join t1 on c0 = |0 give count");
        faults(1, "from t0 join t1 on c0 |<> d0 give count");
        faults(1, "from t0 join t1 on c0 |<= d0 give count");
        faults(1, "from t0 group |t0 give count");
        faults(1, "from t0 give |t0");
        reads("from t0 join t1 on c0 = d0 group d1, c1 give count");
        reads("from t0 join t0 on c0 = d0 give c1, d1");
    }

    private static void oneOrTwoGroups() {
        faults(1, "from t0 group |give count");
        reads("from t0 group c0 give count");
        reads("from t0 group c0, c1 give count");
        reads("from t0 group c0, c0 give count");
        faults(1, "from t0 group c0, c1|, c2 give count");
        faults(1, "from t0 group c0 |c1 give count");
        faults(1, "from t0 group c0, |give count");
        faults(1, "from t0 group |{c0} give count");
        faults(1, "from t0 group c0 |+ 1 give count");
    }

    private static void itemsOfTheGrammar() {
        faults(1, "from t0 give |");
        faults(1, "from t0 give |, c0");
        faults(1, "from t0 give c0, |, c0");
        faults(1, "from t0 give count |+ 1");
        faults(1, "from t0 give sum(c0) |+ 1");
        faults(1, "from t0 give count |or missing");
        faults(1, "from t0 give sum(c0) |or missing");
        faults(1, "from t0 give least(c0 |or missing)");
        faults(1, "from t0 give c0 or |give");
        faults(1, "from t0 give c0 or missing |or missing");
        faults(1, "from t0 give c0 |missing");
        faults(1, "from t0 give c0 |is missing");
        faults(1, "from t0 give c0 |= 1");
        faults(1, "from t0 give c0 |and c0");
        faults(1, "from t0 give |not c0");
        faults(1, "from t0 give |(c0)");
        faults(1, "from t0 give sum(|count)");
        faults(1, "from t0 give sum(|sum(c0))");
        faults(1, "from t0 give sum(|)");
        faults(1, "from t0 give sum(c0|, c1)");
        faults(1, "from t0 give sum|{c0}");
        faults(1, "from t0 give 1 + |least(c0)");
        reads("from t0 give c0 or missing, c1, -c0 or missing");
    }

    private static void ones() {
        reads("from t0 where not not c0 = 1 and (not (c0 = 1)) or not (c0 = 1 or c0 = 2) give c0");
        faults(1, "from t0 where (c0|) = 1 give c0");
        faults(1, "from t0 where (c0 + 1|) * 2 = 1 give c0");
        faults(1, "from t0 where (c0 = 1) |= 1 give c0");
        faults(1, "from t0 where (c0 = 1) |+ 1 give c0");
        faults(1, "from t0 where not |give c0");
        faults(1, "from t0 where c0 = 1 |not c0 = 1 give c0");
        faults(1, "from t0 where c0 = |not 1 give c0");
        faults(1, "from t0 where c0 = |(1) give c0");
        faults(1, "from t0 where (|) give c0");
        faults(1, "from t0 where (c0 = 1|} give c0");
        faults(1, "from t0 where (c0 = 1 |give c0");
        faults(1, "from t0 where c0 = 1|) give c0");
        faults(1, "from t0 where |and c0 = 1 give c0");
        faults(1, "from t0 where c0 = 1 and |or c0 = 1 give c0");
        faults(1, "from t0 where c0 = 1 or |give c0");
        reads("from t0 where {c0 + 1} * 2 = 1 give c0");
    }

    private static void justOneSign() {
        String[] signs = {"=", "<>", "<", "<=", ">", ">="};
        for (String sign : signs) {
            reads("from t0 where c0 " + sign + " 1 give c0");
            faults(1, "from t0 where c0 " + sign + " 1 |" + sign + " 1 give c0");
            faults(1, "from t0 where c0 " + sign + " 1 |is missing give c0");
            faults(1, "from t0 where c0 " + sign + " |" + sign + " 1 give c0");
            faults(1, "from t0 where |" + sign + " 1 give c0");
        }
        faults(1, "from t0 where c0 |give c0");
        faults(1, "from t0 where c0 |missing give c0");
        faults(1, "from t0 where c0 is |give c0");
        faults(1, "from t0 where c0 is |not missing give c0");
        faults(1, "from t0 where c0 is missing |= 1 give c0");
        faults(1, "from t0 where c0 is missing |is missing give c0");
        reads("from t0 where c0 + c1 is missing give c0");
    }

    private static void factors() {
        reads("from t0 give - - c0, {{c0}}, -{c0}, {-c0}, look(1, look(2, c0)), c0 - -c0");
        faults(1, "from t0 give |+c0");
        faults(1, "from t0 give c0 + |+ c0");
        faults(1, "from t0 give c0 * |/ c0");
        faults(1, "from t0 give {|}");
        faults(1, "from t0 give {c0|");
        faults(1, "from t0 give {c0|)");
        faults(1, "from t0 give c0|}");
        faults(1, "from t0 give -|");
        faults(1, "from t0 give int |c0");
        faults(1, "from t0 give int|{c0}");
        faults(1, "from t0 give int(|)");
        faults(1, "from t0 give int(c0|, c0)");
        faults(1, "from t0 give int(c0|");
        faults(1, "from t0 give look(|c0, c0)");
        faults(1, "from t0 give look(|-1, c0)");
        faults(1, "from t0 give look(|1.0, c0)");
        faults(1, "from t0 give look(|'a', c0)");
        faults(1, "from t0 give look(1|)");
        faults(1, "from t0 give look(1 |+ 1, c0)");
        faults(1, "from t0 give look(1, |)");
        faults(1, "from t0 give look(1, c0|, c0)");
    }

    /** A sum is of that SORT, and of no other one. */
    private static void isOf(int sort, String sum) {
        if (sort == WHOLE) {
            reads("from t0 give int(" + sum + ")");
            faults(3, "from t0 give |whole(" + sum + ")");
        } else if (sort == REAL) {
            reads("from t0 give whole(" + sum + ")");
            faults(3, "from t0 give |int(" + sum + ")");
        } else {
            reads("from t0 where 'a' = " + sum + " give c0");
            faults(3, "from t0 where 1 |= " + sum + " give c0");
        }
    }

    private static void sortsOfColumns() {
        int[] due = {WHOLE, WHOLE, REAL, WHOLE, WHOLE, TEXT, WHOLE};
        for (int c = 0; c < 7; c++) {
            isOf(due[c], "c" + c);
        }
        isOf(WHOLE, "0");
        isOf(REAL, "0.0");
        isOf(TEXT, "''");
        isOf(REAL, "{c2}");
    }

    private static void arithmetic() {
        String[] signs = {"+", "-", "*", "/"};
        for (String sign : signs) {
            for (int left = WHOLE; left <= TEXT; left++) {
                for (int right = WHOLE; right <= TEXT; right++) {
                    if (left == TEXT || right == TEXT) {
                        faults(3, "from t0 give " + SUMS[left] + " |" + sign + " " + SUMS[right]);
                    } else {
                        isOf(Math.max(left, right), SUMS[left] + " " + sign + " " + SUMS[right]);
                    }
                }
            }
        }
    }

    private static void restOfWholes() {
        for (int left = WHOLE; left <= TEXT; left++) {
            for (int right = WHOLE; right <= TEXT; right++) {
                if (left == WHOLE && right == WHOLE) {
                    isOf(WHOLE, "c0 % c0");
                } else {
                    faults(3, "from t0 give " + SUMS[left] + " |% " + SUMS[right]);
                }
            }
        }
    }

    private static void negation() {
        isOf(WHOLE, "-c0");
        isOf(REAL, "-c2");
        isOf(WHOLE, "-3");
        isOf(REAL, "-3.0");
        faults(3, "from t0 give |-c5");
        faults(3, "from t0 give |-'a'");
        faults(3, "from t0 give -|-''");
    }

    private static void comparisons() {
        String[] signs = {"=", "<>", "<", "<=", ">", ">="};
        for (String sign : signs) {
            for (int left = WHOLE; left <= TEXT; left++) {
                for (int right = WHOLE; right <= TEXT; right++) {
                    if ((left == TEXT) == (right == TEXT)) {
                        reads("from t0 where " + SUMS[left] + " " + sign + " " + SUMS[right] + " give c0");
                    } else {
                        faults(3, "from t0 where " + SUMS[left] + " |" + sign + " " + SUMS[right] + " give c0");
                    }
                }
            }
        }
        for (String sum : SUMS) {
            reads("from t0 where " + sum + " is missing give c0");
        }
    }

    private static void calls() {
        String[] words = {"int(", "year(", "month(", "weekday(", "whole(", "real(", "look(0, "};
        for (String word : words) {
            int wanted = word.equals("whole(") ? REAL : WHOLE;
            for (int sort = WHOLE; sort <= TEXT; sort++) {
                if (sort == wanted) {
                    isOf(word.equals("real(") ? REAL : WHOLE, word + SUMS[sort] + ")");
                } else {
                    faults(3, "from t0 give |" + word + SUMS[sort] + ")");
                }
            }
        }
    }

    private static void lookUpNumbers() {
        reads("from t0 give look(0, c0)");
        reads("from t0 give look(2, c0)");
        faults(2, "from t0 give look(|3, c0)");
        faults(2, "from t0 give look(|10, c0)");
        faults(2, "from t0 give look(|4294967296, c0)");
        faults(2, "from t0 give look(|999999999999999, c0)");
        reads("from t0 give look(000002, c0)");
    }

    private static void sumOfText() {
        reads("from t0 give sum(c0), sum(c2), least(c0), least(c2), least(c5), most(c5)");
        faults(3, "from t0 give |sum(c5)");
        faults(3, "from t0 give count, |sum('a')");
        faults(3, "from t0 group c5 give |sum(c5)");
    }

    private static void sortsOfOn() {
        for (int left = 0; left < 7; left++) {
            for (int right = 0; right < 7; right++) {
                String begin = "from t0 join t1 on c" + left + " ";
                if (left == right && left != 2) {
                    reads(begin + "= d" + right + " give c0");
                } else {
                    faults(3, begin + "|= d" + right + " give c0");
                }
            }
        }
    }

    private static void itemsOfGroups() {
        reads("from t0 group c0, c5 give c5, c0, count, sum(c1), least(c5), most(c2)");
        reads("from t0 group c0 give c0");
        reads("from t0 group c2, c5 give c5");
        reads("from t0 join t1 on c0 = d0 group d0 give d0");
        String[] items = {"c1", "c0 or missing", "{c0}", "-c0", "c0 + 0", "1", "''", "int(c0)", "c5"};
        for (String item : items) {
            faults(3, "from t0 group c0 give c0, |" + item);
        }
        faults(3, "from t0 join t1 on c0 = d0 group d0 give |c0");
        faults(3, "from t0 join t1 on c0 = d0 group c0 give |d0");
        faults(3, "from t0 group c0, c1 give c0, c1, |c2");
    }

    private static void itemsOfOneKind() {
        String[] together = {"count", "sum(c0)", "least(c0)", "most(c0)"};
        String[] plain = {"c0", "c0 or missing", "1", "-c0", "{c0}", "int(c0)"};
        for (String one : together) {
            for (String other : plain) {
                faults(3, "from t0 give " + one + ", |" + other);
                faults(3, "from t0 give " + other + ", |" + one);
                faults(3, "from t0 give " + one + ", " + one + ", |" + other + ", " + one);
                faults(3, "from t0 give " + other + ", " + other + ", |" + one + ", " + other);
            }
            for (String other : together) {
                reads("from t0 give " + one + ", " + other);
            }
        }
        for (String one : plain) {
            for (String other : plain) {
                reads("from t0 give " + one + ", " + other);
            }
        }
    }

    private static void orderNumbers() {
        String items = "c0";
        for (int n = 1; n <= 6; n++) {
            reads("from t0 give " + items + " order 0");
            reads("from t0 give " + items + " order " + (n - 1) + " down");
            faults(3, "from t0 give " + items + " order |" + n);
            faults(3, "from t0 give " + items + " order |" + n + " down top 0");
            items = items + ", c0";
        }
        faults(3, "from t0 give c0 order |4294967296");
        faults(3, "from t0 give c0 order |999999999999999");
        faults(1, "from t0 give c0 order |-1");
        faults(1, "from t0 give c0 order|");
        faults(1, "from t0 give c0 order |0.0");
    }

    private static void cannotStand() {
        faults(1, "|");
        faults(1, "|#");
        faults(1, "|t0");
        faults(1, "from t0 give c0|#");
        faults(1, "from t0 give c0 |'abcdef'");
        faults(1, "from t0 give c0 +|");
        faults(1, "from t0 give c0 + |frm");
        // The first of two.
        faults(1, "from t0 give |# #");
        faults(1, "from |give #");
    }

    /** Of all TOKENS just these can stand behind that beginning; the others are the FAULT. */
    private static void canStand(String begin, String these) {
        String all = "from join on where group give order top down count sum least most or and not is missing int whole real "
                + "year month weekday look c0 d0 t0 1 1.5 'a' + - * / % ( ) , = <> < <= > >= { }";
        for (String token : all.split(" ")) {
            boolean can = (" " + these + " ").contains(" " + token + " ");
            ElevatorLedger ledger = ofAllSorts();
            int answer = Due.question(ledger, begin + " " + token + " ( c0 ) give c0");
            boolean isFault = answer == -101 - begin.length() && ledger.fault() == 1;
            Due.holds("\"" + token + "\" behind \"" + begin + "\", whether it can stand there: " + can, isFault != can);
        }
    }

    private static void eachTokenThatCannotStand() {
        String factors = "int whole real year month weekday look c0 d0 1 1.5 'a' - {";
        String signs = "+ - * / %";
        String comparing = "= <> < <= > >= is";
        canStand("", "from");
        canStand("from", "t0");
        canStand("from t0", "join where group give");
        canStand("from t0 join", "t0");
        canStand("from t0 join t1", "on");
        canStand("from t0 join t1 on", "c0");
        canStand("from t0 join t1 on c0", "=");
        canStand("from t0 join t1 on c0 =", "d0");
        canStand("from t0 join t1 on c0 = d0", "where group give");
        canStand("from t0 where", factors + " not (");
        canStand("from t0 where not", factors + " not (");
        canStand("from t0 where (", factors + " not (");
        canStand("from t0 where c0", signs + " " + comparing);
        canStand("from t0 where c0 =", factors);
        canStand("from t0 where c0 = 1", signs + " and or group give");
        canStand("from t0 where ( c0 = 1", signs + " and or )");
        canStand("from t0 where c0 is", "missing");
        canStand("from t0 where c0 is missing", "and or group give");
        canStand("from t0 where c0 = 1 and", factors + " not (");
        canStand("from t0 where c0 = 1 or", factors + " not (");
        canStand("from t0 group", "c0 d0");
        canStand("from t0 group c0", ", give");
        canStand("from t0 group c0 ,", "c0 d0");
        canStand("from t0 group c0 , c1", "give");
        canStand("from t0 give", factors + " count sum least most");
        canStand("from t0 give c0", signs + " , or order top");
        canStand("from t0 give c0 or", "missing");
        canStand("from t0 give c0 or missing", ", order top");
        canStand("from t0 give c0 ,", factors + " count sum least most");
        canStand("from t0 give count", ", order top");
        canStand("from t0 give sum", "(");
        canStand("from t0 give sum (", factors);
        canStand("from t0 give sum ( c0", signs + " )");
        canStand("from t0 give sum ( c0 )", ", order top");
        canStand("from t0 give -", factors);
        canStand("from t0 give {", factors);
        canStand("from t0 give { c0", signs + " }");
        canStand("from t0 give c0 +", factors);
        canStand("from t0 give c0 *", factors);
        canStand("from t0 give int", "(");
        canStand("from t0 give int (", factors);
        canStand("from t0 give int ( c0", signs + " )");
        canStand("from t0 give look (", "1");
        canStand("from t0 give look ( 1", ",");
        canStand("from t0 give look ( 1 ,", factors);
        canStand("from t0 give c0 order", "1");
        canStand("from t0 give c0 order 0", "down top");
        canStand("from t0 give c0 order 0 down", "top");
        canStand("from t0 give c0 top", "1");
        canStand("from t0 give c0 top 1", "");
    }

    private static void couldStandBut() {
        String items = "from t0 give c0, c0, c0, c0, c0, c0, ";
        faults(4, items + "|c0 #");
        faults(4, items + "|c0 + count");
        faults(1, items + "|# c0");
        faults(1, items.substring(0, items.length() - 6) + " |# , c0, c0");
        // A TOKEN that could not stand there is FAULT 1, however many are ahead of it.
        String constants = "from t0 give 1+1+1+1+1+1+1+1+1+1+1+1";
        faults(4, constants + "+|1");
        faults(1, constants + " |1");
        faults(1, constants + " |'a'");
        String nodes = "from t0 give " + "c0+".repeat(39) + "-c0";
        faults(4, nodes + "|+c0");
        faults(1, nodes + " |c0");
        faults(1, nodes + " |=");
        faults(1, nodes + " |and c0 = 1");
        faults(1, nodes + " |is missing");
        String within = "from t0 give " + "{".repeat(12);
        faults(4, within + "|{c0");
        faults(1, within + "c0|{");
        faults(1, within + "|(c0");
        faults(1, within + "|not c0");
        faults(1, within + "|sum(c0)");
        // Which of two is the first one in the text.
        faults(4, constants + "+|1 #");
        faults(1, constants + " |# + 1");
        faults(4, "from t0 where " + "(".repeat(12) + "|(c0 # = 1");
        faults(1, "from t0 where " + "(".repeat(12) + "c0 |# = 1 and (c0 = 1)");
    }

    private static void lookedForFirst() {
        faults(1, "from t2 give c0 + c5 +|");
        faults(1, "from t0 give c9, -c5, sum(c5) |#");
        faults(1, "from t0 join t2 on c2 = d9 where c0 = 'a' group d9 give c0 order 9 top|");
        faults(4, "from t2 give c9, -c5, c0, c0, c0, c0, |c0");
        faults(4, "from t2 give c9 + 1+1+1+1+1+1+1+1+1+1+1+1+|1");
        faults(4, "from t2 give -c5 + " + "{".repeat(12) + "|{c0");
        faults(4, "from t0 give c9 + " + "c0+".repeat(39) + "|c0");
        faults(2, "from |t2 give c0 + c5");
    }

    private static void notThere() {
        faults(2, "from |t2 give count");
        faults(2, "from |t3 give count");
        faults(2, "from |t9 give count");
        faults(2, "from t0 join |t2 on c0 = d0 give count");
        faults(2, "from t0 join t1 on |c7 = d0 give count");
        faults(2, "from t0 join t1 on c0 = |d7 give count");
        faults(2, "from t0 where |c7 = 1 give count");
        faults(2, "from t0 group |c7 give count");
        faults(2, "from t0 group c0, |c7 give count");
        faults(2, "from t0 give |c7");
        faults(2, "from t0 join t1 on c0 = d0 give |d7");
        reads("from t0 join t1 on c6 = d6 where c6 = 1 and d6 = 1 group c6, d6 give c6, d6");
        ElevatorLedger ledger = ofAllSorts();
        ledger.drop(1, 6);
        Due.read(ledger, "from t0 give c6");
        Due.fault(ledger, 2, "from t1 give |c6");
        Due.fault(ledger, 2, "from t0 join t1 on c0 = d0 give |d6");
        Due.fault(ledger, 2, "from t0 join t1 on c6 = |d6 give count");
        Due.fault(ledger, 2, "from t1 group |c6 give count");
        ElevatorLedger third = ofAllSorts();
        Due.fault(third, 2, "from |t2 give count");
        third.table();
        Due.read(third, "from t2 give count");
        Due.fault(third, 2, "from t2 give |c0");
        Due.fault(new ElevatorLedger(), 2, "from |t0 give count");
    }

    private static void joinedWithoutJoin() {
        faults(2, "from t0 give |d0");
        faults(2, "from t0 where |d0 = 1 give c0");
        faults(2, "from t0 group |d0 give count");
        faults(2, "from t0 group c0, |d0 give count");
        faults(2, "from t0 give sum(|d0)");
        reads("from t0 join t1 on c0 = d0 group d0 give sum(d0)");
    }

    private static void fromTheLeft() {
        faults(2, "from |t2 join t3 on c9 = d9 give c9");
        faults(2, "from t0 join |t2 on c9 = d9 give c9");
        faults(2, "from t0 join t1 on |c9 = d9 give c9");
        faults(2, "from t0 join t1 on c0 = |d9 give c9");
        faults(3, "from t0 join t1 on c2 |= d2 where c9 = 1 give c9");
        faults(3, "from t0 where c0 |= 'a' group c9 give c9");
        faults(2, "from t0 where |c9 = 1 and c0 = 'a' give c0");
        faults(3, "from t0 where c0 |= 'a' and c9 = 1 give c0");
        faults(2, "from t0 group |c9 give -c5");
        faults(3, "from t0 give c0 |+ c5, c9");
        faults(2, "from t0 give |c9, c0 + c5");
        faults(3, "from t0 give c0, |-c5 order 9");
        faults(3, "from t0 give c0, |count order 9");
        faults(3, "from t0 give c5 |+ 1 + c9");
        faults(3, "from t0 give c0 |% 1.5 % c9");
    }

    private static void withinFirst() {
        faults(2, "from t0 give c5 + c0 * |c9");
        faults(3, "from t0 give c5 + c0 |* c5");
        faults(3, "from t0 give c5 |+ c0 + c9");
        faults(3, "from t0 give c5 + {c0 |- c5}");
        faults(2, "from t0 give -{c5 + |c9}");
        faults(3, "from t0 give -{c5 |+ c0}");
        faults(2, "from t0 where 'a' + |c9 = c5 give c0");
        faults(3, "from t0 where 'a' = c5 |+ 1 give c0");
        faults(3, "from t0 where c0 = |-c5 give c0");
        faults(3, "from t0 give int(|real(c5))");
        faults(3, "from t0 give int(c2 |+ c5)");
        faults(2, "from t0 give look(|3, -c5)");
        faults(3, "from t0 give look(0, |-c5)");
        faults(3, "from t0 give |look(0, c5)");
        faults(2, "from t0 give sum(c5 + |c9)");
        faults(3, "from t0 give sum(c5 |+ 1)");
        faults(3, "from t0 give |sum(c5), c9");
    }

    private static void atItsOwnPlace() {
        faults(3, "from t0 give c0 + c1   |/   c5");
        faults(3, "from t0 where c0 + 1   |>=   c5 give c0");
        faults(3, "from t0 join t1 on c2   |=   d2 give c0");
        faults(2, "from t0 join t1 on c2 = |d9 give c0");
        faults(3, "from t0 give c0 - |year ( c5 )");
        faults(3, "from t0 give c0 - |whole ( 1 )");
        faults(3, "from t0 give c0 - |- c5");
    }

    private static void itemsAtTheirFirstToken() {
        faults(3, "from t0 give count, |c0 + c1 * 2 or missing, c9");
        faults(2, "from t0 give count, c0 + |c9");
        faults(3, "from t0 give count, c0 |+ c5");
        faults(3, "from t0 give c0, |least(c0 + 1)");
        faults(2, "from t0 give c0, least(c0 + |c9)");
        faults(3, "from t0 group c0 give |{c0 + 1} * 2");
        faults(2, "from t0 group c0 give {c0 + |c9} * 2");
        faults(3, "from t0 give c0 order |1");
    }

    private static void constantsInOrder() {
        ElevatorLedger ledger = ofAllSorts();
        int q = Due.read(ledger, "from t0 where 1 < c0 and 'b' = c5 give 2.5 * 3, look(1, 4 + 5) - 6, 'c' order 0 top 7");
        long[] sorts = {0, 2, 1, 0, 0, 0, 0, 2};
        long[] values = {1, Due.text("b"), 2500, 3, 4, 5, 6, Due.text("c")};
        Due.is("CONSTANTS", ledger.about(q, 0), 8);
        for (int i = 0; i < 8; i++) {
            Due.is("SORT of " + i, ledger.constantOf(q, i, 0), sorts[i]);
            Due.is("VALUE of " + i, ledger.constantOf(q, i, 1), values[i]);
        }
        Due.is("behind the last", ledger.constantOf(q, 8, 0), NO);
        int none = Due.read(ledger, "from t0 join t1 on c0 = d0 group c0 give c0 order 0 top 1");
        Due.is("no CONSTANTS", ledger.about(none, 0), 0);
        int one = Due.read(ledger, "from t0 give look(1, c0), - 1");
        Due.is("one CONSTANT", ledger.about(one, 0), 1);
        Due.is("its sign is none of it", ledger.constantOf(one, 0, 1), 1);
    }

    private static void alike(boolean are, String text, String other) {
        ElevatorLedger ledger = ofAllSorts();
        Due.read(ledger, text);
        int q = Due.read(ledger, other);
        Due.is("the FORM of \"" + other + "\" beside \"" + text + "\"", ledger.about(q, 1), are ? 0 : 1);
        Due.is("FORMS", ledger.count(2), are ? 1 : 2);
        Due.is("questions of the first", ledger.form(0, 0), are ? 2 : 1);
    }

    private static void sameForms() {
        alike(true, "from t0 give c0", "from\nt0   give\n c0 ");
        alike(true, "from t0 give c0+1", "from t0 give c0 + 999999999999999");
        alike(true, "from t0 give 1.5", "from t0 give 000.001");
        alike(true, "from t0 give ''", "from t0 give 'abcde'");
        alike(true, "from t0 give look(1, 2)", "from t0 give look(0001, 3)");
        alike(true, "from t0 give c0 order 0 top 5", "from t0 give c0 order 00 top 005");
        alike(false, "from t0 give 1", "from t0 give 1.0");
        alike(false, "from t0 give 1", "from t0 give ''");
        alike(false, "from t0 give 1.0", "from t0 give ''");
        alike(false, "from t0 give look(1, 2)", "from t0 give look(2, 2)");
        alike(false, "from t0 give c0 top 5", "from t0 give c0 top 6");
        alike(false, "from t0 give c0 top 5", "from t0 give c0");
        // Beyond what any answer can have they are two NUMBERS still.
        alike(false, "from t0 give c0 top 2000", "from t0 give c0 top 2001");
        alike(false, "from t0 give c0 top 4294967296", "from t0 give c0 top 0");
        alike(false, "from t0 give c0, c1 order 0", "from t0 give c0, c1 order 1");
        alike(false, "from t0 give c0 order 0", "from t0 give c0 order 0 down");
        alike(false, "from t0 give c0", "from t0 give {c0}");
        alike(false, "from t0 give c0", "from t0 give c1");
        alike(false, "from t0 give c0", "from t1 give c0");
        alike(false, "from t0 join t1 on c0 = d0 give c1", "from t0 join t1 on c0 = d0 give d1");
        alike(false, "from t0 join t1 on c0 = d0 give c1", "from t0 join t0 on c0 = d0 give c1");
        alike(false, "from t0 give c0", "from t0 give c0 or missing");
        alike(false, "from t0 where c0 < 1 give c0", "from t0 where c0 <= 1 give c0");
        alike(false, "from t0 give 1", "from t0 give -1");
        alike(false, "from t0 give least(c0)", "from t0 give most(c0)");
    }

    private static void formsAsTheyCome() {
        ElevatorLedger ledger = ofAllSorts();
        String[] texts = {"from t0 give c0", "from t0 give c1", "from t0 give c0", "from t0 give c2", "from t0 give c1"};
        int[] forms = {0, 1, 0, 2, 1};
        for (int i = 0; i < texts.length; i++) {
            Due.is("FORM of question " + i, ledger.about(Due.read(ledger, texts[i]), 1), forms[i]);
        }
        Due.fault(ledger, 2, "from t0 give |c9");
        Due.is("a FAULT has no FORM", ledger.count(2), 3);
    }

    private static void constantOfIsRefused() {
        ElevatorLedger ledger = ofAllSorts();
        int q = Due.read(ledger, "from t0 give 5, 6");
        Due.is("what 0", ledger.constantOf(q, 1, 0), 0);
        Due.is("what 1", ledger.constantOf(q, 1, 1), 6);
        Due.is("what -1", ledger.constantOf(q, 1, -1), NO);
        Due.is("what 2", ledger.constantOf(q, 1, 2), NO);
        Due.is("CONSTANT -1", ledger.constantOf(q, -1, 1), NO);
        Due.is("CONSTANT 2", ledger.constantOf(q, 2, 1), NO);
        Due.is("question 1", ledger.constantOf(1, 0, 1), NO);
        for (int wild : WILD) {
            Due.is("what " + wild, ledger.constantOf(q, 0, wild), NO);
            Due.is("CONSTANT " + wild, ledger.constantOf(q, wild, 1), NO);
            Due.is("question " + wild, ledger.constantOf(wild, 0, 1), NO);
        }
    }

    private static void thousandths() {
        ElevatorLedger ledger = ledger(sorts(0), of(0));
        int q = Due.read(ledger, "from t0 give 1.5, 999999999.999");
        Due.is("as it was told", ledger.constantOf(q, 0, 1), 1500);
        Due.is("the most", ledger.constantOf(q, 1, 1), 999999999999L);
        long[] told = {1, -1, 0, 1L << 40, -(1L << 40)};
        for (long v : told) {
            ledger.constant(q, 0, v);
            Due.is("125 times " + v, ledger.constantOf(q, 0, 1), 125 * v);
            ledger.ask(q);
            Due.is("its REAL", ledger.cell(0, 0, 0), Due.bits(v / 8.0));
            Due.is("the other one", ledger.cell(0, 0, 1), Due.bits(999999999.999));
        }
    }

    private static void constantRanges() {
        ElevatorLedger ledger = ofAllSorts();
        int q = Due.read(ledger, "from t0 give 1, 2.5, 'a'");
        long[][] allowed = {of(Long.MIN_VALUE, Long.MAX_VALUE, 0), of(-(1L << 40), 1L << 40, 0),
            of(0, Due.text("zzzzz"), Due.text("b"))};
        long[][] forbidden = {of(), of(-(1L << 40) - 1, (1L << 40) + 1, Long.MIN_VALUE, Long.MAX_VALUE),
            of(-1, 1, Due.text("zzzzz") + 1, 1L << 25, 27L << 20, Long.MIN_VALUE)};
        for (int i = 0; i < 3; i++) {
            long held = 0;
            for (long v : allowed[i]) {
                Due.is("CONSTANT " + i + " becomes " + v, ledger.constant(q, i, v), 1);
                held = i == 1 ? 125 * v : v;
                Due.is("it is that", ledger.constantOf(q, i, 1), held);
            }
            for (long v : forbidden[i]) {
                Due.is("CONSTANT " + i + " does not become " + v, ledger.constant(q, i, v), BAD);
                Due.is("it stays", ledger.constantOf(q, i, 1), held);
            }
        }
    }

    private static void constantIsRefused() {
        ElevatorLedger ledger = ofAllSorts();
        int q = Due.read(ledger, "from t0 give 5, 6");
        int other = Due.read(ledger, "from t0 give 7, 8");
        Due.is("the last CONSTANT", ledger.constant(q, 1, 9), 1);
        Due.is("CONSTANT 2", ledger.constant(q, 2, 9), BAD);
        Due.is("question 2", ledger.constant(2, 0, 9), BAD);
        for (int wild : WILD) {
            Due.is("CONSTANT " + wild, ledger.constant(q, wild, 9), BAD);
            Due.is("question " + wild, ledger.constant(wild, 0, 9), BAD);
        }
        Due.is("the other question of that FORM", ledger.constantOf(other, 1, 1), 8);
        Due.is("the other CONSTANT", ledger.constantOf(q, 0, 1), 5);
    }

    private static void about() {
        ElevatorLedger ledger = ofAllSorts();
        int q = Due.read(ledger, "from t0 give c1");
        int other = Due.read(ledger, "from t0 give c0 + 1+1+1+1+1+1+1+1+1+1+1+1");
        Due.is("no CONSTANTS", ledger.about(q, 0), 0);
        Due.is("twelve CONSTANTS", ledger.about(other, 0), 12);
        Due.is("its FORM", ledger.about(other, 1), 1);
        Due.is("it is not GONE", ledger.about(other, 2), 0);
        ledger.drop(0, 0);
        Due.is("it is GONE", ledger.about(other, 2), 1);
        Due.is("its CONSTANTS stay", ledger.about(other, 0), 12);
        Due.is("the other one is not", ledger.about(q, 2), 0);
        Due.is("what 3", ledger.about(q, 3), BAD);
        Due.is("question 2", ledger.about(2, 0), BAD);
        for (int wild : WILD) {
            Due.is("what " + wild, ledger.about(q, wild), BAD);
            Due.is("question " + wild, ledger.about(wild, 0), BAD);
        }
    }
}
