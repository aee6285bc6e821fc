import java.math.BigDecimal;
import java.math.BigInteger;
import java.time.LocalDate;
import java.util.ArrayList;
import java.util.Arrays;
import java.util.HashSet;
import java.util.LinkedHashMap;
import java.util.LinkedHashSet;
import java.util.List;
import java.util.Map;
import java.util.Set;
import java.util.TreeMap;
import java.util.regex.Matcher;
import java.util.regex.Pattern;

/**
 * The document once more, written in another way and with the library: trees that are walked, exceptions for FAULTS and
 * FAILURES, BigInteger, LocalDate, and texts as Strings.
 */
final class Oracle {
    static final class Fault extends RuntimeException {
        final int code;
        final int place;

        Fault(int code, int place) {
            super(null, null, false, false);
            this.code = code;
            this.place = place;
        }
    }

    static final class Failure extends RuntimeException {
        final int code;

        Failure(int code) {
            super(null, null, false, false);
            this.code = code;
        }
    }

    record Token(String kind, String text, int place) {
    }

    static final class Node {
        final String op;
        final int place;
        final List<Node> kids = new ArrayList<>();
        int number;
        boolean orMissing;
        String sort;
        int tokens;

        Node(String op, int place) {
            this.op = op;
            this.place = place;
        }

        boolean hasJoined() {
            return op.equals("d") || kids.stream().anyMatch(Node::hasJoined);
        }

        boolean isTogether() {
            return Set.of("count", "sum", "least", "most").contains(op);
        }
    }

    static final class Parsed {
        Node first;
        Node joined;
        Node on;
        Node where;
        List<Node> groups = new ArrayList<>();
        List<Node> items = new ArrayList<>();
        Node order;
        boolean down;
        long top = -1;
        List<Token> constants = new ArrayList<>();
        int nodes;
        String key = "";
    }

    static final class Tab {
        final List<Integer> sorts = new ArrayList<>();
        final Set<Integer> gone = new HashSet<>();
        final List<Map<Integer, Long>> rows = new ArrayList<>();

        boolean has(int column) {
            return column >= 0 && column < sorts.size() && !gone.contains(column);
        }
    }

    static final class F {
        int number;
        Parsed parsed;
        int questions;
        boolean kept;
        int made;
        int failed;
        boolean fallen;
        int fellBacks;
        boolean retired;
        int spoilt;
    }

    static final class Q {
        F form;
        Parsed parsed;
        final List<Object> values = new ArrayList<>();
        final List<Long> told = new ArrayList<>();
    }

    static final class Reply {
        int result;
        int fellBack;
        int failure;
        int row = -9;
        int item = -9;
        int visited;
        int items;
        List<List<Object>> rows = new ArrayList<>();
    }

    final List<Tab> tables = new ArrayList<>();
    final long[][] looks = new long[3][10];
    final Set<Long> dictionary = new HashSet<>();
    String text = "";
    int fault;
    final List<Q> questions = new ArrayList<>();
    final Map<String, F> forms = new LinkedHashMap<>();
    final List<F> formList = new ArrayList<>();
    final LinkedHashSet<F> kept = new LinkedHashSet<>();
    int dropped;
    List<Integer> retired = new ArrayList<>();
    final Reply[] replies = new Reply[2];

    int table() {
        if (tables.size() == 3) {
            return -3;
        }
        tables.add(new Tab());
        return tables.size() - 1;
    }

    Tab tab(int t) {
        return t >= 0 && t < tables.size() ? tables.get(t) : null;
    }

    int column(int t, int sort) {
        Tab tab = tab(t);
        if (tab == null || sort < 0 || sort > 6) {
            return -1;
        }
        if (!tab.rows.isEmpty()) {
            return -2;
        }
        if (tab.sorts.size() == 8) {
            return -3;
        }
        tab.sorts.add(sort);
        return tab.sorts.size() - 1;
    }

    int row(int t) {
        Tab tab = tab(t);
        if (tab == null) {
            return -1;
        }
        if (tab.rows.size() == 40) {
            return -3;
        }
        tab.rows.add(new TreeMap<>());
        return tab.rows.size() - 1;
    }

    static String lettersOf(long v) {
        StringBuilder letters = new StringBuilder();
        for (int shift = 20; shift >= 0; shift -= 5) {
            letters.append("_abcdefghijklmnopqrstuvwxyz?????".charAt((int) (v >> shift & 31)));
        }
        return letters.toString();
    }

    static boolean fits(int sort, long v) {
        return switch (sort) {
            case 0 -> v >= Integer.MIN_VALUE && v <= Integer.MAX_VALUE;
            case 1 -> true;
            case 2 -> Math.abs((double) v) <= Math.pow(2, 40);
            case 3 -> v == 0 || v == 1;
            case 4 -> v >= -128 && v <= 127;
            case 5 -> v >= 0 && v < 1 << 25 && lettersOf(v).matches("[a-z]*_*");
            default -> v >= -400000 && v <= 400000;
        };
    }

    boolean isPlace(int t, int r, int c) {
        Tab tab = tab(t);
        return tab != null && r >= 0 && r < tab.rows.size() && tab.has(c);
    }

    int put(int t, int r, int c, long v) {
        if (!isPlace(t, r, c) || !fits(tab(t).sorts.get(c), v)) {
            return -1;
        }
        if (tab(t).sorts.get(c) == 5 && !dictionary.contains(v)) {
            if (dictionary.size() == 40) {
                return -3;
            }
            dictionary.add(v);
        }
        tab(t).rows.get(r).put(c, v);
        return 1;
    }

    int missing(int t, int r, int c) {
        return !isPlace(t, r, c) ? -1 : tab(t).rows.get(r).remove(c) != null ? 1 : 0;
    }

    long value(int t, int r, int c) {
        return !isPlace(t, r, c) ? Long.MIN_VALUE : tab(t).rows.get(r).getOrDefault(c, Long.MIN_VALUE);
    }

    int look(int l, int p, long v) {
        if (l < 0 || l > 2 || p < 0 || p > 9) {
            return -1;
        }
        looks[l][p] = v;
        return 1;
    }

    int drop(int t, int c) {
        Tab tab = tab(t);
        if (tab == null || !tab.has(c)) {
            return -1;
        }
        tab.gone.add(c);
        retired = new ArrayList<>();
        for (F form : formList) {
            boolean uses = usesOf(form.parsed).contains(t + "." + c);
            if (!form.retired && uses) {
                form.retired = true;
                form.kept = false;
                form.fallen = false;
                kept.remove(form);
                retired.add(form.number);
            }
        }
        return retired.size();
    }

    static Set<String> usesOf(Parsed parsed) {
        Set<String> uses = new HashSet<>();
        List<Node> all = new ArrayList<>(parsed.items);
        all.addAll(parsed.groups);
        if (parsed.on != null) {
            all.add(parsed.on);
        }
        if (parsed.where != null) {
            all.add(parsed.where);
        }
        for (int i = 0; i < all.size(); i++) {
            Node node = all.get(i);
            all.addAll(node.kids);
            if (node.op.equals("c")) {
                uses.add(parsed.first.number + "." + node.number);
            }
            if (node.op.equals("d")) {
                uses.add(parsed.joined.number + "." + node.number);
            }
        }
        return uses;
    }

    int say(long bytes, int n) {
        if (n < 1 || n > 8) {
            return -1;
        }
        if (text.length() + n > 240) {
            return -3;
        }
        for (int i = n; i > 0; i--) {
            text += (char) ((bytes >>> 8 * (i - 1)) % 256 + 256 & 255);
        }
        return text.length();
    }

    int question() {
        if (questions.size() == 24) {
            return -3;
        }
        String read = text;
        text = "";
        Parsed parsed;
        try {
            parsed = new Parser(read).parse();
            check(parsed);
        } catch (Fault met) {
            fault = met.code;
            return -100 - met.place;
        }
        fault = 0;
        F form = forms.get(parsed.key);
        if (form == null) {
            form = new F();
            form.number = formList.size();
            form.parsed = parsed;
            forms.put(parsed.key, form);
            formList.add(form);
        }
        form.questions++;
        Q q = new Q();
        q.form = form;
        q.parsed = parsed;
        for (Token token : parsed.constants) {
            switch (token.kind) {
                case "NUMBER" -> set(q, Long.parseLong(token.text), Long.parseLong(token.text));
                case "REAL" -> set(q, Double.parseDouble(token.text),
                        new BigDecimal(token.text).movePointRight(3).longValueExact());
                default -> set(q, token.text.replace("'", ""), Due.text(token.text.replace("'", "")));
            }
        }
        questions.add(q);
        return questions.size() - 1;
    }

    static void set(Q q, Object value, long told) {
        q.values.add(value);
        q.told.add(told);
    }

    Q q(int question) {
        return question >= 0 && question < questions.size() ? questions.get(question) : null;
    }

    long constantOf(int question, int i, int what) {
        Q q = q(question);
        if (q == null || i < 0 || i >= q.values.size() || what < 0 || what > 1) {
            return Long.MIN_VALUE;
        }
        Object value = q.values.get(i);
        return what == 1 ? q.told.get(i) : value instanceof Long ? 0 : value instanceof Double ? 1 : 2;
    }

    int constant(int question, int i, long v) {
        Q q = q(question);
        if (q == null || i < 0 || i >= q.values.size()) {
            return -1;
        }
        Object value = q.values.get(i);
        if (value instanceof Long) {
            q.values.set(i, v);
            q.told.set(i, v);
        } else if (value instanceof Double) {
            if (!fits(2, v)) {
                return -1;
            }
            q.values.set(i, v / 8.0);
            q.told.set(i, 125 * v);
        } else {
            if (!fits(5, v)) {
                return -1;
            }
            q.values.set(i, lettersOf(v).replace("_", ""));
            q.told.set(i, v);
        }
        return 1;
    }

    int about(int question, int what) {
        Q q = q(question);
        if (q == null || what < 0 || what > 2) {
            return -1;
        }
        return what == 0 ? q.values.size() : what == 1 ? q.form.number : q.form.retired ? 1 : 0;
    }

    int ask(int question) {
        Q q = q(question);
        if (q == null) {
            return -1;
        }
        boolean code = !q.form.retired && code(q.form);
        replies[0] = reply(q, code);
        replies[0].fellBack = q.form.retired || code ? 0 : 1;
        return replies[0].result;
    }

    boolean code(F form) {
        if (form.kept) {
            kept.remove(form);
            kept.add(form);
            return true;
        }
        if (form.fallen && form.fellBacks < 3) {
            form.fellBacks++;
            return false;
        }
        if (form.spoilt > 0) {
            form.spoilt--;
            form.failed++;
            form.fallen = true;
            form.fellBacks = 1;
            return false;
        }
        if (kept.size() == 4) {
            F oldest = kept.iterator().next();
            kept.remove(oldest);
            oldest.kept = false;
            dropped++;
        }
        kept.add(form);
        form.kept = true;
        form.fallen = false;
        form.made++;
        return true;
    }

    int scan(int question) {
        Q q = q(question);
        if (q == null) {
            return -1;
        }
        replies[1] = reply(q, false);
        return replies[1].result;
    }

    int outcome(int which, int what) {
        if (which < 0 || which > 1 || replies[which] == null || what < 0 || what > 6) {
            return -1;
        }
        Reply r = replies[which];
        return new int[] {r.result, r.fellBack, r.failure, r.row, r.item, r.visited, r.items}[what];
    }

    boolean isCell(int which, int r, int c) {
        return which >= 0 && which <= 1 && replies[which] != null && r >= 0 && r < replies[which].rows.size()
                && c >= 0 && c < replies[which].items;
    }

    long cell(int which, int r, int c) {
        Object value = isCell(which, r, c) ? replies[which].rows.get(r).get(c) : null;
        return value == null ? Long.MIN_VALUE : value instanceof Long whole ? whole
                : value instanceof Double real ? Double.doubleToRawLongBits(real) : Due.text((String) value);
    }

    int isMissing(int which, int r, int c) {
        return !isCell(which, r, c) ? -1 : replies[which].rows.get(r).get(c) == null ? 1 : 0;
    }

    int form(int form, int what) {
        if (form < 0 || form >= formList.size() || what < 0 || what > 6) {
            return -1;
        }
        F f = formList.get(form);
        return new int[] {f.questions, f.kept ? 1 : 0, f.made, f.failed, f.fallen ? 1 : 0, f.retired ? 1 : 0,
            f.parsed.nodes}[what];
    }

    int spoil(int form, int n) {
        if (form < 0 || form >= formList.size() || n < 0 || n > 9) {
            return -1;
        }
        formList.get(form).spoilt = n;
        return formList.get(form).kept ? 0 : 1;
    }

    int retired(int i) {
        return i < 0 || i >= retired.size() ? -9 : retired.get(i);
    }

    int count(int what) {
        return switch (what) {
            case 0 -> tables.size();
            case 1 -> questions.size();
            case 2 -> formList.size();
            case 3 -> formList.stream().mapToInt(f -> f.made).sum();
            case 4 -> kept.size();
            case 5 -> dropped;
            case 6 -> formList.stream().mapToInt(f -> f.failed).sum();
            case 7 -> dictionary.size();
            default -> -1;
        };
    }

    int audit() {
        for (int i = 0; i < questions.size(); i++) {
            if (!questions.get(i).form.retired) {
                ask(i);
                scan(i);
            }
        }
        return 0;
    }

    // ---- reading: FAULT 1 is looked for without limits first, then the limits by what was read, in its order.

    static final class Parser {
        private static final Pattern TOKEN = Pattern.compile("(?<NAME>[cdt][0-9])|(?<WORD>[a-z]+)"
                + "|(?<REAL>[0-9]+\\.[0-9]+)|(?<NUMBER>[0-9]+)|(?<TEXT>'[a-z]*')|(?<SIGN><>|<=|>=|[-+*/%(),={}<>])");
        private static final Set<String> WORDS = new HashSet<>(Arrays.asList(("from join on where group give order top"
                + " down count sum least most or and not is missing int whole real year month weekday look").split(" ")));
        private final List<Token> tokens = new ArrayList<>();
        private final Parsed parsed = new Parsed();
        private final List<Integer> nodePlaces = new ArrayList<>();
        private final List<Integer> deepPlaces = new ArrayList<>();
        private final List<Integer> itemPlaces = new ArrayList<>();
        private final List<Integer> constantPlaces = new ArrayList<>();
        private int at = 0;
        private int depth = 0;

        Parser(String text) {
            int place = 0;
            while (true) {
                while (place < text.length() && (text.charAt(place) == ' ' || text.charAt(place) == '\n')) {
                    place++;
                }
                if (place == text.length()) {
                    tokens.add(new Token("END", "", place));
                    return;
                }
                Matcher matcher = TOKEN.matcher(text).region(place, text.length());
                String kind = matcher.lookingAt() ? kindOf(matcher) : "NONE";
                String its = kind.equals("NONE") ? "" : matcher.group();
                if (!isAllowed(kind, its)) {
                    tokens.add(new Token("NONE", "", place));
                    return;
                }
                tokens.add(new Token(kind, its, place));
                place = matcher.end();
            }
        }

        private static String kindOf(Matcher matcher) {
            for (String kind : List.of("NAME", "WORD", "REAL", "NUMBER", "TEXT", "SIGN")) {
                if (matcher.group(kind) != null) {
                    return kind;
                }
            }
            return "NONE";
        }

        private static boolean isAllowed(String kind, String its) {
            return switch (kind) {
                case "NONE" -> false;
                case "WORD" -> WORDS.contains(its);
                case "REAL" -> its.matches("[0-9]{1,9}\\.[0-9]{1,3}");
                case "NUMBER" -> its.length() <= 15;
                case "TEXT" -> its.length() <= 7;
                default -> true;
            };
        }

        private Token now() {
            return tokens.get(at);
        }

        private boolean is(String text) {
            return (now().kind.equals("WORD") || now().kind.equals("SIGN")) && now().text.equals(text);
        }

        private Fault cannot() {
            return new Fault(1, now().place);
        }

        private Token take() {
            return tokens.get(at++);
        }

        private Token want(String text) {
            if (!is(text)) {
                throw cannot();
            }
            return take();
        }

        private boolean maybe(String text) {
            if (!is(text)) {
                return false;
            }
            take();
            return true;
        }

        private Node name(String letters) {
            if (!now().kind.equals("NAME") || letters.indexOf(now().text.charAt(0)) < 0) {
                throw cannot();
            }
            Token token = take();
            Node node = new Node(token.text.substring(0, 1), token.place);
            node.number = token.text.charAt(1) - '0';
            return node;
        }

        private Token number() {
            if (!now().kind.equals("NUMBER")) {
                throw cannot();
            }
            return take();
        }

        Parsed parse() {
            Fault first = null;
            try {
                question();
            } catch (Fault met) {
                first = met;
            }
            int limit = first == null ? Integer.MAX_VALUE : first.place;
            int over = Integer.MAX_VALUE;
            over = Math.min(over, nodePlaces.size() > 80 ? nodePlaces.get(80) : over);
            over = Math.min(over, deepPlaces.isEmpty() ? over : deepPlaces.get(0));
            over = Math.min(over, itemPlaces.size() > 6 ? itemPlaces.get(6) : over);
            over = Math.min(over, constantPlaces.size() > 12 ? constantPlaces.get(12) : over);
            if (over < limit) {
                throw new Fault(4, over);
            }
            if (first != null) {
                throw first;
            }
            parsed.nodes = nodePlaces.size();
            StringBuilder key = new StringBuilder();
            for (Token token : tokens) {
                boolean isConstant = constantPlaces.contains(token.place);
                key.append(token.kind).append(' ').append(isConstant ? "?" : token.kind.equals("NUMBER")
                        ? new BigInteger(token.text).toString() : token.text).append(' ');
            }
            parsed.key = key.toString();
            return parsed;
        }

        private void question() {
            want("from");
            parsed.first = name("t");
            if (maybe("join")) {
                parsed.joined = name("t");
                want("on");
                Node left = name("c");
                parsed.on = new Node("on", want("=").place);
                parsed.on.kids.add(left);
                parsed.on.kids.add(name("d"));
            }
            if (maybe("where")) {
                parsed.where = condition();
            }
            if (maybe("group")) {
                do {
                    parsed.groups.add(name("cd"));
                } while (parsed.groups.size() < 2 && maybe(","));
            }
            want("give");
            do {
                parsed.items.add(item());
            } while (maybe(","));
            if (maybe("order")) {
                Token token = number();
                parsed.order = new Node("order", token.place);
                parsed.order.number = (int) Math.min(1000L, Long.parseLong(token.text));
                parsed.down = maybe("down");
            }
            if (maybe("top")) {
                parsed.top = Long.parseLong(number().text);
            }
            if (!now().kind.equals("END")) {
                throw cannot();
            }
        }

        private void node() {
            nodePlaces.add(now().place);
        }

        private void in() {
            depth++;
            if (depth > 12) {
                deepPlaces.add(now().place);
            }
        }

        private boolean beginsFactor() {
            Token token = now();
            return switch (token.kind) {
                case "NUMBER", "REAL", "TEXT" -> true;
                case "NAME" -> token.text.charAt(0) != 't';
                default -> is("-") || is("{") || is("look") || isCall();
            };
        }

        private boolean isCall() {
            return is("int") || is("whole") || is("real") || is("year") || is("month") || is("weekday");
        }

        private Node item() {
            if (beginsFactor() || is("count") || is("sum") || is("least") || is("most")) {
                itemPlaces.add(now().place);
            }
            int begin = at;
            int place = now().place;
            Node item;
            if (is("count")) {
                node();
                take();
                return new Node("count", place);
            }
            if (is("sum") || is("least") || is("most")) {
                node();
                in();
                item = new Node(take().text, place);
                want("(");
                item.kids.add(sum());
                want(")");
                depth--;
                return item;
            }
            item = new Node("item", place);
            item.kids.add(sum());
            item.tokens = at - begin;
            if (maybe("or")) {
                want("missing");
                item.orMissing = true;
            }
            return item;
        }

        private Node condition() {
            Node all = new Node("or", now().place);
            all.kids.add(both());
            while (is("or")) {
                node();
                take();
                all.kids.add(both());
            }
            return all.kids.size() == 1 ? all.kids.get(0) : all;
        }

        private Node both() {
            Node all = new Node("and", now().place);
            all.kids.add(one());
            while (is("and")) {
                node();
                take();
                all.kids.add(one());
            }
            return all.kids.size() == 1 ? all.kids.get(0) : all;
        }

        private Node one() {
            Node one = new Node(is("not") ? "not" : "()", now().place);
            if (is("not")) {
                node();
                in();
                take();
                one.kids.add(one());
                depth--;
                return one;
            }
            if (is("(")) {
                in();
                take();
                one.kids.add(condition());
                want(")");
                depth--;
                return one;
            }
            Node left = sum();
            for (String sign : List.of("=", "<>", "<", "<=", ">", ">=")) {
                if (is(sign)) {
                    node();
                    Node comparison = new Node(sign, take().place);
                    comparison.kids.add(left);
                    comparison.kids.add(sum());
                    return comparison;
                }
            }
            if (is("is")) {
                node();
                Node comparison = new Node("is", take().place);
                want("missing");
                comparison.kids.add(left);
                return comparison;
            }
            throw cannot();
        }

        private Node sum() {
            Node left = product();
            while (is("+") || is("-")) {
                left = binary(left, false);
            }
            return left;
        }

        private Node binary(Node left, boolean ofFactors) {
            node();
            Token sign = take();
            Node both = new Node(sign.text, sign.place);
            both.kids.add(left);
            both.kids.add(ofFactors ? factor() : product());
            return both;
        }

        private Node product() {
            Node left = factor();
            while (is("*") || is("/") || is("%")) {
                left = binary(left, true);
            }
            return left;
        }

        private Node factor() {
            Token token = now();
            if (!beginsFactor()) {
                throw cannot();
            }
            if (is("{")) {
                in();
                take();
                Node inner = sum();
                want("}");
                depth--;
                return inner;
            }
            node();
            if (token.kind.equals("NAME")) {
                return name("cd");
            }
            if (Set.of("NUMBER", "REAL", "TEXT").contains(token.kind)) {
                Node constant = new Node("constant", token.place);
                constant.number = parsed.constants.size();
                constant.sort = token.kind.equals("NUMBER") ? "WHOLE" : token.kind;
                constantPlaces.add(token.place);
                parsed.constants.add(take());
                return constant;
            }
            in();
            take();
            Node call = new Node(token.text.equals("-") ? "negate" : token.text, token.place);
            if (call.op.equals("negate")) {
                call.kids.add(factor());
                depth--;
                return call;
            }
            want("(");
            if (call.op.equals("look")) {
                Token number = number();
                Node lookUp = new Node("lookup", number.place);
                lookUp.number = (int) Math.min(1000L, Long.parseLong(number.text));
                call.kids.add(lookUp);
                want(",");
            }
            call.kids.add(sum());
            want(")");
            depth--;
            return call;
        }
    }

    // ---- FAULTS 2 and 3

    void check(Parsed parsed) {
        checkTable(parsed.first);
        if (parsed.joined != null) {
            checkTable(parsed.joined);
            Node left = parsed.on.kids.get(0);
            Node right = parsed.on.kids.get(1);
            int leftSort = columnSort(parsed, left);
            int rightSort = columnSort(parsed, right);
            if (leftSort != rightSort || leftSort == 2) {
                throw new Fault(3, parsed.on.place);
            }
        }
        if (parsed.where != null) {
            sortOf(parsed, parsed.where);
        }
        for (Node group : parsed.groups) {
            columnSort(parsed, group);
        }
        for (Node item : parsed.items) {
            checkItem(parsed, item);
        }
        if (parsed.order != null && parsed.order.number >= parsed.items.size()) {
            throw new Fault(3, parsed.order.place);
        }
    }

    void checkTable(Node node) {
        if (node.number >= tables.size()) {
            throw new Fault(2, node.place);
        }
    }

    int columnSort(Parsed parsed, Node node) {
        Node of = node.op.equals("c") ? parsed.first : parsed.joined;
        if (of == null || !tables.get(of.number).has(node.number)) {
            throw new Fault(2, node.place);
        }
        return tables.get(of.number).sorts.get(node.number);
    }

    void checkItem(Parsed parsed, Node item) {
        item.sort = item.op.equals("count") ? "WHOLE" : sortOf(parsed, item.kids.get(0));
        boolean stands = !(item.op.equals("sum") && item.sort.equals("TEXT"));
        if (parsed.groups.isEmpty()) {
            stands &= item.isTogether() == parsed.items.get(0).isTogether();
        } else if (!item.isTogether()) {
            Node its = item.kids.get(0);
            stands &= !item.orMissing && item.tokens == 1
                    && parsed.groups.stream().anyMatch(g -> g.op.equals(its.op) && g.number == its.number);
        }
        if (!stands) {
            throw new Fault(3, item.place);
        }
    }

    String sortOf(Parsed parsed, Node node) {
        if (node.op.equals("lookup")) {
            if (node.number > 2) {
                throw new Fault(2, node.place);
            }
            return "";
        }
        if (node.op.equals("c") || node.op.equals("d")) {
            int sort = columnSort(parsed, node);
            return sort == 2 ? "REAL" : sort == 5 ? "TEXT" : "WHOLE";
        }
        if (node.op.equals("constant")) {
            return node.sort;
        }
        List<String> sorts = new ArrayList<>();
        for (Node kid : node.kids) {
            sorts.add(sortOf(parsed, kid));
        }
        String sort = sortBy(node.op, sorts);
        if (sort == null) {
            throw new Fault(3, node.place);
        }
        return sort;
    }

    static String sortBy(String op, List<String> sorts) {
        boolean hasText = sorts.contains("TEXT");
        boolean hasReal = sorts.contains("REAL");
        return switch (op) {
            case "+", "-", "*", "/" -> hasText ? null : hasReal ? "REAL" : "WHOLE";
            case "%" -> hasText || hasReal ? null : "WHOLE";
            case "negate" -> hasText ? null : sorts.get(0);
            case "=", "<>", "<", "<=", ">", ">=" ->
                hasText && !(sorts.get(0).equals("TEXT") && sorts.get(1).equals("TEXT")) ? null : "TRUTH";
            case "int", "year", "month", "weekday", "look" -> hasText || hasReal ? null : "WHOLE";
            case "whole" -> hasReal ? "WHOLE" : null;
            case "real" -> hasText || hasReal ? null : "REAL";
            default -> "TRUTH";
        };
    }

    // ---- answers

    private Q asked;
    private int row;
    private int other;

    Object eval(Node node) {
        switch (node.op) {
            case "constant":
                return asked.values.get(node.number);
            case "c":
                return load(asked.parsed.first.number, row, node.number);
            case "d":
                return load(asked.parsed.joined.number, other, node.number);
            default:
        }
        List<Object> values = new ArrayList<>();
        for (Node kid : node.kids) {
            values.add(kid.op.equals("lookup") ? (Object) (long) kid.number : eval(kid));
        }
        if (values.contains(null)) {
            return null;
        }
        Object x = values.get(0);
        switch (node.op) {
            case "negate":
                return x instanceof Long whole ? (Object) BigInteger.valueOf(whole).negate().longValue() : (Object) (-(Double) x);
            case "int":
                return narrow((Long) x, Integer.MIN_VALUE, Integer.MAX_VALUE);
            case "whole":
                return new BigDecimal((Double) x).toBigInteger().longValueExact();
            case "real":
                return notLarge(new BigDecimal((Long) x).doubleValue());
            case "year":
                return (long) day(x).getYear();
            case "month":
                return (long) day(x).getMonthValue();
            case "weekday":
                return (long) day(x).getDayOfWeek().ordinal();
            case "look":
                long place = (Long) values.get(1);
                if (place < 0 || place > 9) {
                    throw new Failure(2);
                }
                return looks[(int) (long) (Long) x][(int) place];
            default:
                return arithmetic(node.op, x, values.get(1));
        }
    }

    static LocalDate day(Object x) {
        return LocalDate.of(2000, 1, 1).plusDays(narrow((Long) x, -400000, 400000));
    }

    static long narrow(long x, long least, long most) {
        if (x < least || x > most) {
            throw new Failure(3);
        }
        return x;
    }

    static Double notLarge(double x) {
        if (!(Math.abs(x) <= 1e15)) {
            throw new Failure(4);
        }
        return x;
    }

    static Object arithmetic(String op, Object x, Object y) {
        if ((op.equals("/") || op.equals("%")) && ((Number) y).doubleValue() == 0) {
            throw new Failure(1);
        }
        if (x instanceof Long && y instanceof Long) {
            BigInteger a = BigInteger.valueOf((Long) x);
            BigInteger b = BigInteger.valueOf((Long) y);
            return (switch (op) {
                case "+" -> a.add(b);
                case "-" -> a.subtract(b);
                case "*" -> a.multiply(b);
                case "/" -> a.divide(b);
                default -> a.remainder(b);
            }).longValue();
        }
        double a = ((Number) x).doubleValue();
        double b = ((Number) y).doubleValue();
        return notLarge(switch (op) {
            case "+" -> a + b;
            case "-" -> a - b;
            case "*" -> a * b;
            default -> a / b;
        });
    }

    Object load(int t, int r, int c) {
        Long v = tables.get(t).rows.get(r).get(c);
        int sort = tables.get(t).sorts.get(c);
        return v == null ? null : sort == 2 ? (Object) (v / 8.0) : sort == 5 ? lettersOf(v).replace("_", "") : v;
    }

    static int order(Object x, Object y) {
        if (x instanceof String) {
            return ((String) x).compareTo((String) y);
        }
        if (x instanceof Long && y instanceof Long) {
            return Long.compare((Long) x, (Long) y);
        }
        double a = ((Number) x).doubleValue();
        double b = ((Number) y).doubleValue();
        return a < b ? -1 : a > b ? 1 : 0;
    }

    Boolean holds(Node node) {
        switch (node.op) {
            case "()":
                return holds(node.kids.get(0));
            case "not":
                Boolean inner = holds(node.kids.get(0));
                return inner == null ? null : (Boolean) !inner;
            case "and":
            case "or":
                Boolean deciding = node.op.equals("or");
                Boolean all = !deciding;
                for (Node kid : node.kids) {
                    Boolean one = holds(kid);
                    if (deciding.equals(one)) {
                        return deciding;
                    }
                    all = one == null ? null : all;
                }
                return all;
            case "is":
                return eval(node.kids.get(0)) == null;
            default:
                Object x = eval(node.kids.get(0));
                Object y = eval(node.kids.get(1));
                return x == null || y == null ? null : (Boolean) compares(node.op, order(x, y));
        }
    }

    static boolean compares(String op, int order) {
        return switch (op) {
            case "=" -> order == 0;
            case "<>" -> order != 0;
            case "<" -> order < 0;
            case "<=" -> order <= 0;
            case ">" -> order > 0;
            default -> order >= 0;
        };
    }

    static final class Done extends RuntimeException {
        Done() {
            super(null, null, false, false);
        }
    }

    Reply reply(Q q, boolean code) {
        Reply reply = new Reply();
        reply.items = q.parsed.items.size();
        if (q.form.retired) {
            reply.result = -7;
            return reply;
        }
        asked = q;
        Map<List<Object>, List<Object>> rows = new LinkedHashMap<>();
        try {
            go(reply, rows, code);
        } catch (Done end) {
            return reply;
        }
        List<List<Object>> all = new ArrayList<>(rows.values());
        if (q.parsed.order != null) {
            int item = q.parsed.order.number;
            int turn = q.parsed.down ? -1 : 1;
            all.sort((a, b) -> a.get(item) == null || b.get(item) == null
                    ? Boolean.compare(a.get(item) == null, b.get(item) == null) : turn * order(a.get(item), b.get(item)));
        }
        reply.rows = q.parsed.top < 0 || q.parsed.top >= all.size() ? all : all.subList(0, (int) q.parsed.top);
        reply.result = reply.rows.size();
        return reply;
    }

    void go(Reply reply, Map<List<Object>, List<Object>> rows, boolean code) {
        Parsed parsed = asked.parsed;
        boolean together = parsed.groups.isEmpty() && parsed.items.get(0).isTogether();
        if (together) {
            rows.put(List.of(), fresh(parsed));
        }
        Node where = parsed.where;
        Node leap = where == null || where.op.equals("or") ? null : where.op.equals("and") ? where.kids.get(0) : where;
        boolean leaps = code && leap != null && !leap.hasJoined();
        int others = parsed.joined == null ? 1 : tables.get(parsed.joined.number).rows.size();
        for (row = 0; row < tables.get(parsed.first.number).rows.size(); row++) {
            boolean skips = false;
            for (other = 0; other < others; other++) {
                if (skips || parsed.joined != null && !isPair(parsed)) {
                    continue;
                }
                reply.visited++;
                try {
                    if (where != null && !Boolean.TRUE.equals(holds(where))) {
                        skips = leaps && Boolean.FALSE.equals(holds(leap));
                        continue;
                    }
                } catch (Failure met) {
                    end(reply, -5, met.code, row, -9);
                }
                take(reply, rows, together);
            }
        }
    }

    boolean isPair(Parsed parsed) {
        Object left = eval(parsed.on.kids.get(0));
        return left != null && left.equals(eval(parsed.on.kids.get(1)));
    }

    static List<Object> fresh(Parsed parsed) {
        List<Object> cells = new ArrayList<>();
        for (Node item : parsed.items) {
            cells.add(item.op.equals("count") ? 0L : null);
        }
        return cells;
    }

    void end(Reply reply, int result, int failure, int failedRow, int item) {
        reply.result = result;
        reply.failure = failure;
        reply.row = failedRow;
        reply.item = item;
        throw new Done();
    }

    void take(Reply reply, Map<List<Object>, List<Object>> rows, boolean together) {
        Parsed parsed = asked.parsed;
        List<Object> key = new ArrayList<>();
        for (Node group : parsed.groups) {
            key.add(eval(group));
        }
        if (parsed.groups.isEmpty() && !together) {
            key.add(rows.size());
        }
        if (!rows.containsKey(key)) {
            if (rows.size() == 100) {
                end(reply, -6, 0, -9, -9);
            }
            rows.put(key, fresh(parsed));
        }
        List<Object> cells = rows.get(key);
        for (int i = 0; i < parsed.items.size(); i++) {
            Node item = parsed.items.get(i);
            try {
                cells.set(i, itemValue(item, cells.get(i)));
            } catch (Failure met) {
                if (item.orMissing) {
                    cells.set(i, null);
                } else {
                    end(reply, -5, met.code, row, i);
                }
            }
        }
    }

    Object itemValue(Node item, Object before) {
        if (item.op.equals("count")) {
            return (Long) before + 1;
        }
        Object value = eval(item.kids.get(0));
        if (item.op.equals("item") || before == null) {
            return value == null ? before : value;
        }
        if (value == null) {
            return before;
        }
        if (item.op.equals("sum")) {
            if (value instanceof Double real) {
                return notLarge((Double) before + real);
            }
            BigInteger sum = BigInteger.valueOf((Long) before).add(BigInteger.valueOf((Long) value));
            if (sum.bitLength() > 63) {
                throw new Failure(4);
            }
            return sum.longValue();
        }
        int order = order(value, before);
        return item.op.equals("least") ? order < 0 ? value : before : order > 0 ? value : before;
    }
}
