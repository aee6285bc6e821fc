import java.util.ArrayList;
import java.util.List;
import java.util.Random;

/** Texts of questions for an Oracle's tables: most of them can be read, some are spoilt on purpose. */
final class Texts {
    private static final String[] PIECES = {"from", "join", "on", "where", "group", "give", "order", "top", "down",
        "count", "sum", "least", "most", "or", "and", "not", "is", "missing", "int", "whole", "real", "year", "month",
        "weekday", "look", "c0", "d0", "t0", "c9", "t7", "c1", "d1", "7", "0", "1.5", "'ab'", "''", "+", "-", "*", "/",
        "%", "(", ")", ",", "=", "<>", "<", "<=", ">", ">=", "{", "}", "'abcdef'", "12.", ".5", "1234567890.5", "1.2345",
        "1234567890123456", "123456789012345", "frm", "'a", "#", "c", "c12", "007", "\n", "\t"};
    private final Random random;
    private final Oracle oracle;
    private int first;
    private int joined;

    Texts(Random random, Oracle oracle) {
        this.random = random;
        this.oracle = oracle;
    }

    private int upTo(int most) {
        return random.nextInt(most + 1);
    }

    private boolean chance(int percent) {
        return random.nextInt(100) < percent;
    }

    private String of(String... all) {
        return all[random.nextInt(all.length)];
    }

    String next() {
        String text = chance(4) ? large() : plain();
        int spoils = chance(25) ? 1 + upTo(1) : 0;
        for (int i = 0; i < spoils; i++) {
            text = spoilt(text);
        }
        if (chance(20)) {
            text = text.replaceAll(" ?([-+*/%(),=<>{}]+) ?", "$1");
        }
        if (chance(5)) {
            text = text.replace(" ", " \n");
        }
        return text.length() > 240 ? text.substring(0, 240) : text;
    }

    private String spoilt(String text) {
        String[] parts = text.split(" ");
        int at = upTo(parts.length - 1);
        switch (upTo(4)) {
            case 0:
                parts[at] = "";
                break;
            case 1:
                parts[at] = of(PIECES);
                break;
            case 2:
                parts[at] = parts[at] + " " + of(PIECES);
                break;
            case 3:
                parts[at] = parts[at] + of(PIECES);
                break;
            default:
                return text.substring(0, upTo(text.length()));
        }
        return String.join(" ", parts);
    }

    private String plain() {
        int tables = oracle.tables.size();
        first = chance(97) ? upTo(Math.max(0, tables - 1)) : upTo(3);
        joined = -1;
        StringBuilder text = new StringBuilder("from t" + first);
        if (chance(45)) {
            joined = chance(97) ? upTo(Math.max(0, tables - 1)) : upTo(3);
            text.append(" join t").append(joined).append(" on ").append(on());
        }
        if (chance(60)) {
            text.append(" where ").append(condition(3));
        }
        String groups = "";
        if (chance(25)) {
            groups = column() + (chance(40) ? " , " + column() : "");
            text.append(" group ").append(groups);
        }
        text.append(" give ").append(items(groups));
        if (chance(35)) {
            text.append(" order ").append(upTo(chance(90) ? 1 : 6)).append(chance(50) ? " down" : "");
        }
        if (chance(20)) {
            text.append(" top ").append(of("0", "1", "2", "5", "100", "003", "999999999999999"));
        }
        return text.toString();
    }

    private String on() {
        List<String> fitting = new ArrayList<>();
        for (String left : columns(first, "c", "any")) {
            for (String right : columns(joined, "d", "any")) {
                int leftSort = oracle.tables.get(first).sorts.get(left.charAt(1) - '0');
                int rightSort = oracle.tables.get(joined).sorts.get(right.charAt(1) - '0');
                if (leftSort == rightSort && leftSort != 2) {
                    fitting.add(left + " = " + right);
                }
            }
        }
        return fitting.isEmpty() || chance(4) ? "c" + upTo(4) + " = d" + upTo(4)
                : fitting.get(upTo(fitting.size() - 1));
    }

    private List<String> columns(int table, String letter, String sort) {
        List<String> columns = new ArrayList<>();
        if (table < 0 || table >= oracle.tables.size()) {
            return columns;
        }
        Oracle.Tab tab = oracle.tables.get(table);
        for (int i = 0; i < tab.sorts.size(); i++) {
            int its = tab.sorts.get(i);
            String sortOfSum = its == 2 ? "REAL" : its == 5 ? "TEXT" : "WHOLE";
            if (tab.has(i) && (sort.equals("any") || sort.equals(sortOfSum) || sort.equals("DAY") && its == 6)) {
                columns.add(letter + i);
            }
        }
        return columns;
    }

    private String columnOf(String sort) {
        List<String> columns = columns(first, "c", sort);
        columns.addAll(columns(joined, "d", sort));
        return columns.isEmpty() ? null : columns.get(upTo(columns.size() - 1));
    }

    private String column() {
        String column = columnOf("any");
        return column == null || chance(2) ? of("c", "d") + upTo(8) : column;
    }

    private String items(String groups) {
        boolean together = chance(35);
        List<String> items = new ArrayList<>();
        int count = 1 + (chance(10) ? upTo(6) : upTo(2));
        for (int i = 0; i < count; i++) {
            boolean its = chance(2) != together;
            if (!groups.isEmpty()) {
                String[] grouped = groups.split(" , ");
                items.add(chance(45) ? of(grouped) : togetherItem());
            } else {
                items.add(its ? togetherItem() : sum(sort(), 3) + (chance(35) ? " or missing" : ""));
            }
        }
        return String.join(" , ", items);
    }

    private String togetherItem() {
        String sort = sort();
        return of("count", of("least", "most", sort.equals("TEXT") ? "least" : "sum") + " ( " + sum(sort, 2) + " )");
    }

    private String sort() {
        return of("WHOLE", "WHOLE", "REAL", "TEXT");
    }

    private String condition(int depth) {
        if (depth > 0 && chance(45)) {
            return condition(depth - 1) + of(" and ", " or ", " and ") + condition(depth - 1);
        }
        if (depth > 0 && chance(20)) {
            return chance(50) ? "not " + one(depth - 1) : "( " + condition(depth - 1) + " )";
        }
        return one(0);
    }

    private String one(int depth) {
        if (depth > 0 && chance(50)) {
            return chance(50) ? "not " + one(depth - 1) : "( " + condition(depth - 1) + " )";
        }
        if (chance(12)) {
            return sum(sort(), 1) + " is missing";
        }
        String sort = sort();
        String other = sort.equals("TEXT") ? "TEXT" : of("WHOLE", sort);
        return sum(sort, 1) + of(" = ", " <> ", " < ", " <= ", " > ", " >= ") + sum(other, 1);
    }

    private String sum(String sort, int depth) {
        if (chance(1)) {
            return sum(sort(), depth);
        }
        if (sort.equals("TEXT")) {
            return leaf(sort);
        }
        if (depth == 0 || chance(35)) {
            return leaf(sort);
        }
        switch (upTo(6)) {
            case 0:
            case 1:
                String other = sort.equals("REAL") ? of("WHOLE", "REAL") : "WHOLE";
                String both = sum(sort, depth - 1) + of(" + ", " - ", " * ", " / ") + sum(other, depth - 1);
                return chance(50) ? "{ " + both + " }" : both;
            case 2:
                return sort.equals("REAL") ? sum("WHOLE", depth - 1) + of(" * ", " / ", " - ", " + ") + sum("REAL", 0)
                        : "{ " + sum("WHOLE", depth - 1) + " } % " + sum("WHOLE", 0);
            case 3:
                return "- " + leaf(sort);
            case 4:
                return sort.equals("REAL") ? "real ( " + sum("WHOLE", depth - 1) + " )"
                        : of("whole ( " + sum("REAL", depth - 1) + " )", "int ( " + sum("WHOLE", depth - 1) + " )");
            case 5:
                return sort.equals("REAL") ? "- { " + sum("REAL", depth - 1) + " }"
                        : "look ( " + (chance(97) ? upTo(2) : 3) + " , " + sum("WHOLE", depth - 1) + " )";
            default:
                String day = columnOf("DAY");
                return sort.equals("REAL") ? leaf("REAL") : of("year ( ", "month ( ", "weekday ( ")
                        + (day == null || chance(30) ? sum("WHOLE", depth - 1) : day) + " )";
        }
    }

    private String leaf(String sort) {
        String column = columnOf(sort);
        if (column != null && chance(65)) {
            return column;
        }
        switch (sort) {
            case "TEXT":
                return of("''", "'a'", "'b'", "'ab'", "'abcde'", "'zzzzz'", "'ba'");
            case "REAL":
                return of("0.0", "0.5", "1.25", "2.125", "999999999.999", "0.001", "3.1", "1000000.0", "00.10");
            default:
                return of("0", "1", "2", "3", "9", "10", "59", "100", "007", "2147483647", "2147483648", "400000",
                        "400001", "999999999999999", "3037000500");
        }
    }

    /** Texts near the limits of NODES, CONSTANTS, items, and of what is in one another. */
    private String large() {
        switch (upTo(6)) {
            case 0:
                return "from t0 give " + "c0+".repeat(37 + upTo(5)) + "c0";
            case 1:
                return "from t0 give " + "{".repeat(11 + upTo(2)) + "c0" + "}".repeat(11 + upTo(2));
            case 2:
                return "from t0 give " + "1+".repeat(10 + upTo(3)) + "c0";
            case 3:
                return "from t0 give " + "c0,".repeat(4 + upTo(3)) + of("c0", "count", "%", "t0", "#");
            case 4:
                return "from t0 where " + "not ".repeat(5 + upTo(3)) + "(".repeat(5 + upTo(2)) + "c0=-c0"
                        + ")".repeat(5 + upTo(2)) + " give c0";
            case 5:
                return "from t0 where " + "c0=c0 or ".repeat(18 + upTo(3)) + "c0=c0 give c0";
            default:
                return "from t0 give " + of("sum", "least", "") + "(" + "-".repeat(10 + upTo(3)) + "c0)";
        }
    }
}
