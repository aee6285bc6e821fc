import java.util.Arrays;

/**
 * A ledger of an elevator's deliveries: tables of typed columns, and questions that are told as texts.
 *
 * A text is split to Tokens, read to a Plan of linear Steps (operands ahead of their act), and checked; the Asker
 * goes through the PAIRS of a Plan with a Machine that runs the Steps, and writes an Answer. CODE and scan share all
 * of that, but for the PAIRS that CODE may leap over: so they cannot differ in more.
 */
public final class ElevatorLedger {
    public static final int BAD = -1, STATE = -2, FULL = -3, FAILED = -5, TOO_MANY = -6, GONE = -7, NONE = -9;
    public static final long NO = Long.MIN_VALUE;

    private static final int MOST_TABLES = 3, MOST_COLUMNS = 8, MOST_ROWS = 40, MOST_TEXTS = 40;
    private static final int LOOK_UPS = 3, LOOK_PLACES = 10;
    private static final int MOST_BYTES = 240, MOST_QUESTIONS = 24, MOST_KEPT = 4, FALL_BACKS = 3, MOST_SPOILT = 9;
    private static final int MOST_ITEMS = 6, MOST_CONSTANTS = 12, MOST_NODES = 80, MOST_DEPTH = 12;
    private static final int MOST_ANSWER_ROWS = 100, MOST_GROUPS = 2;
    // Each NODE is one step and brings at most one more; tables, on, group, items and order bring some fifteen.
    private static final int MOST_STEPS = 192, MOST_HEIGHT = 96;
    private static final int FIRST_PLACE = -100;
    // Far above every number that look, order and top can mean, so that it fits an int without becoming another one.
    private static final long CLAMP = 1000;

    // SORTS of COLUMNS.
    private static final int INT_COLUMN = 0, LONG_COLUMN = 1, REAL_COLUMN = 2, TRUTH_COLUMN = 3, CODE_COLUMN = 4,
            TEXT_COLUMN = 5, DAY_COLUMN = 6;
    private static final long MOST_EIGHTHS = 1L << 40, MOST_DAY = 400000;
    private static final int LETTER_BITS = 5, LETTERS = 5, LAST_LETTER = 26;

    // SORTS of sums, and of CONSTANTS.
    private static final int WHOLE = 0, REAL = 1, TEXT = 2;

    // FAULTS.
    private static final int CANNOT_STAND = 1, NOT_THERE = 2, UNFIT = 3, ONE_MORE = 4;

    // FAILURES.
    private static final int ZERO = 1, INDEX = 2, NARROW = 3, LARGE = 4;
    private static final long LARGEST_REAL = 1000000000000000L;

    // Kinds of TOKENS; those that tell an act are the acts of the steps, too.
    private static final int END = 0, NO_TOKEN = 1, NUMBER = 2, DECIMAL = 3, QUOTED = 4, TABLE_NAME = 5,
            FIRST_NAME = 6, JOINED_NAME = 7;
    private static final String SIGNS = "+-*/%(),{}=<>";
    private static final int PLUS = 10, MINUS = 11, TIMES = 12, OVER = 13, REST = 14, OPEN = 15, CLOSE = 16,
            COMMA = 17, OPEN_BRACE = 18, CLOSE_BRACE = 19, EQUAL = 20, LESS = 21, MORE = 22, UNEQUAL = 23,
            AT_MOST = 24, AT_LEAST = 25;
    private static final String WORDS =
            "from join on where group give order top down count sum least most or and not is missing int whole real year month weekday look ";
    private static final int FROM = 30, JOIN = 31, ON = 32, WHERE = 33, GROUP = 34, GIVE = 35, ORDER = 36, TOP = 37,
            DOWN = 38, COUNT = 39, SUM = 40, LEAST = 41, MOST = 42, OR = 43, AND = 44, NOT = 45, IS = 46,
            MISSING = 47, TO_INT = 48, TO_WHOLE = 49, TO_REAL = 50, YEAR = 51, MONTH = 52, WEEKDAY = 53, LOOK = 54;
    // Acts that no TOKEN tells by itself.
    private static final int KNOWN = 60, LOOK_UP = 61, ITEM = 62, CONSTANT = 63, COLUMN = 64, NEGATE = 65,
            AND_TEST = 66, OR_TEST = 67;
    // Kinds of items beside COUNT, SUM, LEAST, MOST.
    private static final int PLAIN = 0, OR_MISSING = 1;
    // A COLUMN of the joined TABLE is told as its number and this.
    private static final int JOINED_SIDE = 10;

    // What count() is asked for.
    private static final int COUNT_MADE = 3, COUNT_KEPT = 4, COUNT_FAILED_STARTS = 6;

    // What the condition says of a PAIR; FALSE_AT_ONCE: its first part is false, and has no COLUMN of the joined TABLE.
    private static final int REFUSED = 0, CHOSEN = 1, FALSE_AT_ONCE = 2, ENDED = 3;

    private final Table[] tables = new Table[MOST_TABLES];
    private int tableCount;
    private final long[] dictionary = new long[MOST_TEXTS];
    private int textCount;
    private final Tokens told = new Tokens();
    private final Reader reader = new Reader();
    private final Checker checker = new Checker();
    private int latestFault;
    private final Question[] questions = new Question[MOST_QUESTIONS];
    private int questionCount;
    private final Form[] forms = new Form[MOST_QUESTIONS];
    private int formCount;
    private final int[] retiredForms = new int[MOST_QUESTIONS];
    private int retiredCount;
    private int askCount;
    private int droppedCount;
    private final Asker asker = new Asker();
    private final Answer asked = new Answer();
    private final Answer scanned = new Answer();

    public ElevatorLedger() {
    }

    // ---- tables

    public int table() {
        if (tableCount >= MOST_TABLES) {
            return FULL;
        }
        tables[tableCount] = new Table();
        tableCount++;
        return tableCount - 1;
    }

    public int column(int table, int sort) {
        Table held = tableAt(table);
        if (held == null || sort < INT_COLUMN || sort > DAY_COLUMN) {
            return BAD;
        }
        if (held.rowCount > 0) {
            return STATE;
        }
        if (held.columnCount >= MOST_COLUMNS) {
            return FULL;
        }
        held.sorts[held.columnCount] = sort;
        held.columnCount++;
        return held.columnCount - 1;
    }

    public int row(int table) {
        Table held = tableAt(table);
        if (held == null) {
            return BAD;
        }
        if (held.rowCount >= MOST_ROWS) {
            return FULL;
        }
        held.rowCount++;
        return held.rowCount - 1;
    }

    public int put(int table, int row, int column, long v) {
        Table held = tableAt(table);
        int place = held == null ? -1 : held.placeOf(row, column);
        if (held == null || place < 0 || !fits(held.sortOf(column), v)) {
            return BAD;
        }
        if (held.sortOf(column) == TEXT_COLUMN && !isKnownText(v)) {
            if (textCount >= MOST_TEXTS) {
                return FULL;
            }
            dictionary[textCount] = v;
            textCount++;
        }
        held.values[place] = v;
        held.theres[place] = true;
        return 1;
    }

    public int missing(int table, int row, int column) {
        Table held = tableAt(table);
        int place = held == null ? -1 : held.placeOf(row, column);
        if (held == null || place < 0) {
            return BAD;
        }
        int was = held.theres[place] ? 1 : 0;
        held.theres[place] = false;
        return was;
    }

    public long value(int table, int row, int column) {
        Table held = tableAt(table);
        int place = held == null ? -1 : held.placeOf(row, column);
        if (held == null || place < 0 || !held.theres[place]) {
            return NO;
        }
        return held.values[place];
    }

    public int look(int look, int place, long v) {
        if (look < 0 || look >= LOOK_UPS || place < 0 || place >= LOOK_PLACES) {
            return BAD;
        }
        asker.machine.lookUps[look * LOOK_PLACES + place] = v;
        return 1;
    }

    public int drop(int table, int column) {
        Table held = tableAt(table);
        if (held == null || held.sortOf(column) < 0) {
            return BAD;
        }
        held.gone[column] = true;
        retiredCount = 0;
        for (int i = 0; i < formCount; i++) {
            Form each = forms[i];
            if (each != null && !each.isRetired && each.uses(table, column)) {
                each.retire();
                retiredForms[retiredCount] = i;
                retiredCount++;
            }
        }
        return retiredCount;
    }

    // ---- questions

    public int say(long bytes, int n) {
        if (n < 1 || n > 8) {
            return BAD;
        }
        if (told.length + n > MOST_BYTES) {
            return FULL;
        }
        for (int i = n - 1; i >= 0; i--) {
            told.text[told.length] = (char) (bytes >>> (8 * i) & 255);
            told.length++;
        }
        return told.length;
    }

    public int question() {
        if (questionCount >= MOST_QUESTIONS) {
            return FULL;
        }
        told.split();
        told.length = 0;
        if (!reader.read(told)) {
            latestFault = reader.flaw;
            return FIRST_PLACE - reader.placeNow();
        }
        if (!checker.check(reader.plan, tables)) {
            latestFault = checker.flaw;
            return FIRST_PLACE - checker.flawPlace;
        }
        latestFault = 0;
        int number = formOfText();
        Form its = forms[number];
        if (its == null) {
            return FULL;
        }
        its.questions++;
        questions[questionCount] = new Question(its, number, Arrays.copyOf(reader.constants, its.plan.constantCount));
        questionCount++;
        return questionCount - 1;
    }

    public int fault() {
        return latestFault;
    }

    public long constantOf(int question, int i, int what) {
        Question its = questionAt(question);
        if (its == null || i < 0 || i >= its.constants.length || what < 0 || what > 1) {
            return NO;
        }
        return what == 0 ? its.form.plan.constantSorts[i] : its.constants[i];
    }

    public int constant(int question, int i, long v) {
        Question its = questionAt(question);
        if (its == null || i < 0 || i >= its.constants.length) {
            return BAD;
        }
        int sort = its.form.plan.constantSorts[i];
        if (sort == REAL && !fits(REAL_COLUMN, v) || sort == TEXT && !fits(TEXT_COLUMN, v)) {
            return BAD;
        }
        // Of REALS thousandths are held, and an eighth has 125 of them.
        its.constants[i] = sort == REAL ? 125 * v : v;
        return 1;
    }

    public int about(int question, int what) {
        Question its = questionAt(question);
        if (its == null) {
            return BAD;
        }
        switch (what) {
            case 0: return its.constants.length;
            case 1: return its.formNumber;
            case 2: return toNumber(its.form.isRetired);
            default: return BAD;
        }
    }

    // ---- answers

    public int ask(int question) {
        Question its = questionAt(question);
        if (its == null) {
            return BAD;
        }
        if (its.form.isRetired) {
            asked.begin(its.form.plan);
            asked.end(GONE, 0, NONE, NONE);
            return GONE;
        }
        boolean byCode = hasCode(its.form);
        asker.answer(its, tables, asked, byCode);
        asked.fellBack = toNumber(!byCode);
        return asked.result;
    }

    public int scan(int question) {
        Question its = questionAt(question);
        if (its == null) {
            return BAD;
        }
        if (its.form.isRetired) {
            scanned.begin(its.form.plan);
            scanned.end(GONE, 0, NONE, NONE);
            return GONE;
        }
        asker.answer(its, tables, scanned, false);
        return scanned.result;
    }

    public int outcome(int which, int what) {
        Answer answer = answerOf(which);
        if (answer == null) {
            return BAD;
        }
        switch (what) {
            case 0: return answer.result;
            case 1: return answer.fellBack;
            case 2: return answer.failure;
            case 3: return answer.failedRow;
            case 4: return answer.failedItem;
            case 5: return answer.visited;
            case 6: return answer.itemCount;
            default: return BAD;
        }
    }

    public long cell(int which, int r, int c) {
        Answer answer = answerOf(which);
        int place = answer == null ? -1 : answer.slotOf(r, c);
        return answer == null || place < 0 ? NO : answer.told(place, c);
    }

    public int isMissing(int which, int r, int c) {
        Answer answer = answerOf(which);
        int place = answer == null ? -1 : answer.slotOf(r, c);
        return answer == null || place < 0 ? BAD : toNumber(!answer.theres[place]);
    }

    // ---- forms

    public int form(int form, int what) {
        Form its = formAt(form);
        if (its == null) {
            return BAD;
        }
        switch (what) {
            case 0: return its.questions;
            case 1: return toNumber(its.isKept);
            case 2: return its.made;
            case 3: return its.failedStarts;
            case 4: return toNumber(its.isFallen);
            case 5: return toNumber(its.isRetired);
            case 6: return its.nodes;
            default: return BAD;
        }
    }

    public int spoil(int form, int n) {
        Form its = formAt(form);
        if (its == null || n < 0 || n > MOST_SPOILT) {
            return BAD;
        }
        its.spoilt = n;
        return toNumber(!its.isKept);
    }

    public int retired(int i) {
        return i < 0 || i >= retiredCount ? NONE : retiredForms[i];
    }

    public int count(int what) {
        switch (what) {
            case 0: return tableCount;
            case 1: return questionCount;
            case 2: return formCount;
            case COUNT_MADE:
            case COUNT_KEPT:
            case COUNT_FAILED_STARTS: return sumOverForms(what);
            case 5: return droppedCount;
            case 7: return textCount;
            default: return BAD;
        }
    }

    public int audit() {
        int differing = 0;
        for (int i = 0; i < questionCount; i++) {
            Question each = questions[i];
            if (each == null || each.form.isRetired) {
                continue;
            }
            ask(i);
            scan(i);
            if (asked.differsFrom(scanned)) {
                differing++;
            }
        }
        return differing;
    }

    private Table tableAt(int table) {
        return table < 0 || table >= tableCount ? null : tables[table];
    }

    private Question questionAt(int question) {
        return question < 0 || question >= questionCount ? null : questions[question];
    }

    private Form formAt(int form) {
        return form < 0 || form >= formCount ? null : forms[form];
    }

    /** The latest answer of that kind; null, if there is none yet. */
    private Answer answerOf(int which) {
        if (which < 0 || which > 1) {
            return null;
        }
        Answer answer = which == 0 ? asked : scanned;
        return answer.isThere ? answer : null;
    }

    private boolean isKnownText(long v) {
        for (int i = 0; i < textCount; i++) {
            if (dictionary[i] == v) {
                return true;
            }
        }
        return false;
    }

    private int formOfText() {
        for (int i = 0; i < formCount; i++) {
            Form each = forms[i];
            if (each != null && each.isToldBy(told)) {
                return i;
            }
        }
        forms[formCount] = new Form(reader.handOver(), told, reader.nodes);
        formCount++;
        return formCount - 1;
    }

    /** Whether an ask of that FORM is answered by CODE: it is KEPT, or is MADE now and does START. */
    private boolean hasCode(Form its) {
        askCount++;
        its.askedAt = askCount;
        if (its.isKept) {
            return true;
        }
        if (its.isFallen && its.fellBacks < FALL_BACKS) {
            its.fellBacks++;
            return false;
        }
        if (its.spoilt > 0) {
            its.failToStart();
            return false;
        }
        if (sumOverForms(COUNT_KEPT) >= MOST_KEPT) {
            dropOldest();
        }
        its.start();
        return true;
    }

    private void dropOldest() {
        Form oldest = null;
        for (int i = 0; i < formCount; i++) {
            Form each = forms[i];
            if (each != null && each.isKept && (oldest == null || each.askedAt < oldest.askedAt)) {
                oldest = each;
            }
        }
        if (oldest != null) {
            oldest.isKept = false;
            droppedCount++;
        }
    }

    /** What count() tells that is held by FORMS. */
    private int sumOverForms(int what) {
        int sum = 0;
        for (int i = 0; i < formCount; i++) {
            Form each = forms[i];
            if (each != null) {
                sum += what == COUNT_MADE ? each.made : what == COUNT_KEPT ? toNumber(each.isKept) : each.failedStarts;
            }
        }
        return sum;
    }

    private static int toNumber(boolean truth) {
        return truth ? 1 : 0;
    }

    private static boolean fits(int sort, long v) {
        switch (sort) {
            case INT_COLUMN: return v == (int) v;
            case LONG_COLUMN: return true;
            case REAL_COLUMN: return v >= -MOST_EIGHTHS && v <= MOST_EIGHTHS;
            case TRUTH_COLUMN: return v == 0 || v == 1;
            case CODE_COLUMN: return v == (byte) v;
            case TEXT_COLUMN: return isText(v);
            case DAY_COLUMN: return isDay(v);
            default: return false;
        }
    }

    private static boolean isDay(long v) {
        return v >= -MOST_DAY && v <= MOST_DAY;
    }

    private static boolean isText(long v) {
        if (v < 0 || v >> (LETTERS * LETTER_BITS) != 0) {
            return false;
        }
        boolean isOver = false;
        for (int i = LETTERS - 1; i >= 0; i--) {
            long letter = v >> (i * LETTER_BITS) & 31;
            if (letter > LAST_LETTER || isOver && letter != 0) {
                return false;
            }
            isOver = letter == 0;
        }
        return true;
    }

    private static final class Table {
        private final int[] sorts = new int[MOST_COLUMNS];
        private final boolean[] gone = new boolean[MOST_COLUMNS];
        private int columnCount;
        private int rowCount;
        private final long[] values = new long[MOST_ROWS * MOST_COLUMNS];
        private final boolean[] theres = new boolean[MOST_ROWS * MOST_COLUMNS];

        /** The SORT of a COLUMN; -1, if there is none such, or it is gone. */
        private int sortOf(int column) {
            return column < 0 || column >= columnCount || gone[column] ? -1 : sorts[column];
        }

        /** Where a VALUE is held; -1, if there is none such. */
        private int placeOf(int row, int column) {
            return row < 0 || row >= rowCount || sortOf(column) < 0 ? -1 : row * MOST_COLUMNS + column;
        }
    }

    /** THE TEXT, and what it is split to: up to its end, or to the first that is no TOKEN (no reader gets behind it). */
    private static final class Tokens {
        private final char[] text = new char[MOST_BYTES];
        private int length;
        private final int[] kinds = new int[MOST_BYTES + 1];
        private final long[] values = new long[MOST_BYTES + 1];
        private final int[] places = new int[MOST_BYTES + 1];
        private int size;

        private void split() {
            size = 0;
            int at = 0;
            for (int i = 0; i <= MOST_BYTES; i++) {
                at = behindBlanks(at);
                int kind = kindAt(at);
                at = splitToken(kind, at);
                if (size > 0 && kinds[size - 1] <= NO_TOKEN) {
                    return;
                }
            }
        }

        /** What a TOKEN that begins there can be, by its first byte (and the second one of a NAME). */
        private int kindAt(int at) {
            if (at >= length) {
                return END;
            }
            char first = text[at];
            if (isDigit(at)) {
                return NUMBER;
            }
            if (first == '\'') {
                return QUOTED;
            }
            if (isLetter(at)) {
                boolean isNamed = isDigit(at + 1);
                return isNamed && first == 't' ? TABLE_NAME : isNamed && first == 'c' ? FIRST_NAME
                        : isNamed && first == 'd' ? JOINED_NAME : FROM;
            }
            return SIGNS.indexOf(first) < 0 ? NO_TOKEN : PLUS;
        }

        /** Adds the TOKEN that begins there; where it ends. */
        private int splitToken(int kind, int at) {
            switch (kind) {
                case NUMBER: return splitNumber(at);
                case QUOTED: return splitQuoted(at);
                case TABLE_NAME:
                case FIRST_NAME: return addToken(kind, text[at + 1] - '0', at, at + 2);
                case JOINED_NAME: return addToken(kind, JOINED_SIDE + text[at + 1] - '0', at, at + 2);
                case FROM: return splitWord(at);
                case PLUS: return splitSign(at);
                default: return addToken(kind, 0, at, at);
            }
        }

        private int addToken(int kind, long v, int place, int behind) {
            if (size <= MOST_BYTES) {
                kinds[size] = kind;
                values[size] = v;
                places[size] = place;
                size++;
            }
            return behind;
        }

        private int splitNumber(int at) {
            int point = behindDigits(at);
            if (isDigit(point + 1) && text[point] == '.') {
                return splitDecimal(at, point);
            }
            return point - at > 15 ? addToken(NO_TOKEN, 0, at, at) : addToken(NUMBER, digits(at, point), at, point);
        }

        /** Thousandths are exact, and what constantOf() tells. */
        private int splitDecimal(int at, int point) {
            int behind = behindDigits(point + 1);
            if (point - at > 9 || behind - point > 4) {
                return addToken(NO_TOKEN, 0, at, at);
            }
            long v = digits(at, point);
            for (int i = point + 1; i < point + 4; i++) {
                v = v * 10 + (i < behind ? text[i] - '0' : 0);
            }
            return addToken(DECIMAL, v, at, behind);
        }

        private int splitQuoted(int at) {
            int close = behindLetters(at + 1);
            int letters = close - at - 1;
            if (close >= length || text[close] != '\'' || letters > LETTERS) {
                return addToken(NO_TOKEN, 0, at, at);
            }
            long v = 0;
            for (int i = at + 1; i <= at + LETTERS; i++) {
                v = (v << LETTER_BITS) + (i < close ? text[i] - 'a' + 1 : 0);
            }
            return addToken(QUOTED, v, at, close + 1);
        }

        private int splitWord(int at) {
            int behind = behindLetters(at);
            int kind = FROM;
            int begin = 0;
            for (int i = 0; i < WORDS.length(); i++) {
                if (WORDS.charAt(i) != ' ') {
                    continue;
                }
                if (i - begin == behind - at && isWord(begin, at, behind)) {
                    return addToken(kind, 0, at, behind);
                }
                kind++;
                begin = i + 1;
            }
            return addToken(NO_TOKEN, 0, at, at);
        }

        private boolean isWord(int begin, int at, int behind) {
            for (int i = at; i < behind; i++) {
                if (WORDS.charAt(begin + i - at) != text[i]) {
                    return false;
                }
            }
            return true;
        }

        private int splitSign(int at) {
            int kind = PLUS + SIGNS.indexOf(text[at]);
            char next = at + 1 < length ? text[at + 1] : ' ';
            if (kind == LESS && next == '>') {
                return addToken(UNEQUAL, 0, at, at + 2);
            }
            if (kind == LESS && next == '=') {
                return addToken(AT_MOST, 0, at, at + 2);
            }
            if (kind == MORE && next == '=') {
                return addToken(AT_LEAST, 0, at, at + 2);
            }
            return addToken(kind, 0, at, at + 1);
        }

        private long digits(int from, int to) {
            long v = 0;
            for (int i = from; i < to; i++) {
                v = v * 10 + text[i] - '0';
            }
            return v;
        }

        private int behindBlanks(int from) {
            int at = from;
            while (at < length && (text[at] == ' ' || text[at] == '\n')) {
                at++;
            }
            return at;
        }

        private int behindDigits(int from) {
            int at = from;
            while (at < length && isDigit(at)) {
                at++;
            }
            return at;
        }

        private int behindLetters(int from) {
            int at = from;
            while (at < length && isLetter(at)) {
                at++;
            }
            return at;
        }

        private boolean isDigit(int at) {
            return at < length && text[at] >= '0' && text[at] <= '9';
        }

        private boolean isLetter(int at) {
            return at < length && text[at] >= 'a' && text[at] <= 'z';
        }
    }

    /** Acts in the order in which they are done, with what they are for and the place of their own TOKEN. */
    private static final class Steps {
        private final int[] acts = new int[MOST_STEPS];
        private final int[] args = new int[MOST_STEPS];
        private final int[] places = new int[MOST_STEPS];
        private int size;

        private void add(int act, int arg, int place) {
            if (size < MOST_STEPS) {
                acts[size] = act;
                args[size] = arg;
                places[size] = place;
                size++;
            }
        }

        /** The test that stands there leaps to behind all that is there now. */
        private void leapFrom(int test) {
            if (test >= 0 && test < size) {
                args[test] = size;
            }
        }
    }

    /** What a question says, but for its CONSTANTS' values. -1 stands for what it does not say. */
    private static final class Plan {
        private int first;
        private int joined;
        private int onFirst;
        private int onJoined;
        private final int[] groups = new int[MOST_GROUPS];
        private final Steps steps = new Steps();
        private int whereFrom;
        private int leapTo;
        private int whereTo;
        private int itemCount;
        private final int[] itemKinds = new int[MOST_ITEMS];
        private final int[] itemColumns = new int[MOST_ITEMS];
        private final int[] itemFrom = new int[MOST_ITEMS];
        private final int[] itemTo = new int[MOST_ITEMS];
        private final int[] itemSorts = new int[MOST_ITEMS];
        private int orderItem;
        private boolean isDown;
        private int top;
        private final int[] constantSorts = new int[MOST_CONSTANTS];
        private int constantCount;

        private void clear() {
            first = -1;
            joined = -1;
            onFirst = -1;
            onJoined = -1;
            Arrays.fill(groups, -1);
            steps.size = 0;
            whereFrom = 0;
            leapTo = 0;
            whereTo = 0;
            itemCount = 0;
            orderItem = -1;
            isDown = false;
            top = -1;
            constantCount = 0;
        }

        private boolean isTogether(int item) {
            return item >= 0 && item < itemCount && itemKinds[item] >= COUNT;
        }

        private boolean isGrouped() {
            return groups[0] >= 0;
        }

        /** The answer has just one row, also of no PAIRS. */
        private boolean isOneRow() {
            return isTogether(0) && !isGrouped();
        }
    }

    /**
     * Reads TOKENS to a Plan, looking for the FAULTS 1 and 4 alone. Each method answers whether there is none; else the
     * one at hand is the FAULT's.
     */
    private static final class Reader {
        private Tokens tokens;
        private Plan plan = new Plan();
        private final long[] constants = new long[MOST_CONSTANTS];
        private int at;
        private int flaw;
        private int nodes;
        private int depth;
        private int firstAnd;
        private boolean hasOr;

        private boolean read(Tokens split) {
            tokens = split;
            plan.clear();
            at = 0;
            flaw = 0;
            nodes = 0;
            depth = 0;
            boolean isRead = readTables() && readWhere() && readGroups() && readItems() && readOrder()
                    && kindNow() == END;
            if (!isRead && flaw == 0) {
                flaw = CANNOT_STAND;
            }
            return isRead;
        }

        /** A FORM keeps its Plan: the next text is read to another one. */
        private Plan handOver() {
            Plan done = plan;
            plan = new Plan();
            return done;
        }

        private int kindNow() {
            return tokens == null || at < 0 || at >= tokens.size ? END : tokens.kinds[at];
        }

        private int placeNow() {
            return tokens == null || at < 0 || at >= tokens.size ? 0 : tokens.places[at];
        }

        private int numberNow() {
            return tokens == null || at < 0 || at >= tokens.size ? 0 : (int) Math.min(tokens.values[at], CLAMP);
        }

        private boolean take(int kind) {
            if (kindNow() != kind) {
                return false;
            }
            at++;
            return true;
        }

        private boolean refuse() {
            flaw = ONE_MORE;
            return false;
        }

        private boolean countNode() {
            nodes++;
            flaw = nodes > MOST_NODES ? ONE_MORE : flaw;
            return nodes <= MOST_NODES;
        }

        private boolean goIn() {
            depth++;
            flaw = depth > MOST_DEPTH ? ONE_MORE : flaw;
            return depth <= MOST_DEPTH;
        }

        private boolean goOut() {
            depth--;
            return true;
        }

        private boolean readTables() {
            if (!take(FROM)) {
                return false;
            }
            plan.first = numberNow();
            if (!readKnown(TABLE_NAME)) {
                return false;
            }
            return !take(JOIN) || readJoin();
        }

        private boolean readJoin() {
            plan.joined = numberNow();
            if (!readKnown(TABLE_NAME) || !take(ON)) {
                return false;
            }
            plan.onFirst = numberNow();
            if (!readKnown(FIRST_NAME)) {
                return false;
            }
            int place = placeNow();
            if (!take(EQUAL)) {
                return false;
            }
            plan.onJoined = numberNow();
            if (!readKnown(JOINED_NAME)) {
                return false;
            }
            plan.steps.add(ON, 0, place);
            return true;
        }

        /** A NAME that only must be there. */
        private boolean readKnown(int kind) {
            if (kindNow() != kind) {
                return false;
            }
            plan.steps.add(kind == TABLE_NAME ? TABLE_NAME : KNOWN, numberNow(), placeNow());
            at++;
            return true;
        }

        private boolean readWhere() {
            plan.whereFrom = plan.steps.size;
            firstAnd = -1;
            hasOr = false;
            if (take(WHERE) && !readCondition(OR)) {
                return false;
            }
            plan.whereTo = plan.steps.size;
            plan.leapTo = firstAnd < 0 ? plan.whereTo : firstAnd;
            if (hasOr || hasJoinedColumn(plan.whereFrom, plan.leapTo)) {
                plan.leapTo = plan.whereFrom;
            }
            return true;
        }

        private boolean hasJoinedColumn(int from, int to) {
            for (int i = from; i < to && i < plan.steps.size; i++) {
                if (plan.steps.acts[i] == COLUMN && plan.steps.args[i] >= JOINED_SIDE) {
                    return true;
                }
            }
            return false;
        }

        /** Parts with that WORD between, OR or AND; the parts of an OR are those of AND. */
        private boolean readCondition(int word) {
            int test = -1;
            for (int i = 0; i <= MOST_NODES; i++) {
                if (word == OR ? !readCondition(AND) : !readOne()) {
                    return false;
                }
                if (test >= 0) {
                    plan.steps.add(word, 0, 0);
                    plan.steps.leapFrom(test);
                }
                if (kindNow() != word) {
                    return true;
                }
                if (!countNode()) {
                    return false;
                }
                noteOutermost(word);
                at++;
                test = plan.steps.size;
                plan.steps.add(word == OR ? OR_TEST : AND_TEST, 0, 0);
            }
            return false;
        }

        /** CODE leaps by what stands outside of all ( ). */
        private void noteOutermost(int word) {
            if (depth > 0) {
                return;
            }
            if (word == OR) {
                hasOr = true;
            } else if (firstAnd < 0) {
                firstAnd = plan.steps.size;
            }
        }

        private boolean readOne() {
            if (kindNow() == NOT) {
                if (!countNode() || !goIn() || !take(NOT) || !readOne()) {
                    return false;
                }
                plan.steps.add(NOT, 0, 0);
                return goOut();
            }
            if (kindNow() == OPEN) {
                return goIn() && take(OPEN) && readCondition(OR) && take(CLOSE) && goOut();
            }
            if (!readSum(PLUS)) {
                return false;
            }
            int kind = kindNow();
            int place = placeNow();
            if (!canCompare(kind) || !countNode()) {
                return false;
            }
            at++;
            if (kind == IS ? !take(MISSING) : !readSum(PLUS)) {
                return false;
            }
            plan.steps.add(kind, 0, place);
            return true;
        }

        private static boolean canCompare(int kind) {
            return kind == IS || kind >= EQUAL && kind <= AT_LEAST;
        }

        /** Parts with + - between (from PLUS on), or with * / % (from TIMES on); the parts of the first are the others. */
        private boolean readSum(int signs) {
            int last = signs == PLUS ? MINUS : REST;
            int sign = 0;
            int place = 0;
            for (int i = 0; i <= MOST_NODES; i++) {
                if (signs == PLUS ? !readSum(TIMES) : !readFactor()) {
                    return false;
                }
                if (sign != 0) {
                    plan.steps.add(sign, 0, place);
                }
                sign = kindNow();
                place = placeNow();
                if (sign < signs || sign > last) {
                    return true;
                }
                if (!countNode()) {
                    return false;
                }
                at++;
            }
            return false;
        }

        private boolean readFactor() {
            int kind = kindNow();
            if (kind >= NUMBER && kind <= QUOTED) {
                return readConstant(kind);
            }
            if (kind == FIRST_NAME || kind == JOINED_NAME) {
                return readColumn();
            }
            if (kind == MINUS) {
                return readNegated();
            }
            if (kind == OPEN_BRACE) {
                return goIn() && take(OPEN_BRACE) && readSum(PLUS) && take(CLOSE_BRACE) && goOut();
            }
            return kind >= TO_INT && kind <= LOOK && readCall(kind);
        }

        private static boolean canBeginFactor(int kind) {
            return kind >= NUMBER && kind <= QUOTED || kind == FIRST_NAME || kind == JOINED_NAME || kind == MINUS
                    || kind == OPEN_BRACE || kind >= TO_INT && kind <= LOOK;
        }

        private boolean readColumn() {
            if (!countNode()) {
                return false;
            }
            plan.steps.add(COLUMN, numberNow(), placeNow());
            at++;
            return true;
        }

        private boolean readNegated() {
            int place = placeNow();
            if (!countNode() || !goIn() || !take(MINUS) || !readFactor()) {
                return false;
            }
            plan.steps.add(NEGATE, 0, place);
            return goOut();
        }

        private boolean readCall(int kind) {
            int place = placeNow();
            if (!countNode() || !goIn() || !take(kind) || !take(OPEN)) {
                return false;
            }
            int lookUp = kind == LOOK ? numberNow() : 0;
            if (kind == LOOK && !(readLookUp() && take(COMMA)) || !readSum(PLUS) || !take(CLOSE)) {
                return false;
            }
            plan.steps.add(kind, lookUp, place);
            return goOut();
        }

        private boolean readLookUp() {
            if (kindNow() != NUMBER) {
                return false;
            }
            plan.steps.add(LOOK_UP, numberNow(), placeNow());
            at++;
            return true;
        }

        private boolean readConstant(int kind) {
            if (!countNode()) {
                return false;
            }
            if (plan.constantCount >= MOST_CONSTANTS) {
                return refuse();
            }
            int i = plan.constantCount;
            if (at < tokens.values.length) {
                constants[i] = tokens.values[at];
                // What is left of the TOKENS tells the FORM.
                tokens.values[at] = 0;
            }
            plan.constantSorts[i] = kind - NUMBER;
            plan.constantCount++;
            plan.steps.add(CONSTANT, i, placeNow());
            at++;
            return true;
        }

        private boolean readGroups() {
            if (!take(GROUP)) {
                return true;
            }
            for (int i = 0; i < MOST_GROUPS; i++) {
                plan.groups[i] = numberNow();
                if (!readKnown(kindNow() == JOINED_NAME ? JOINED_NAME : FIRST_NAME)) {
                    return false;
                }
                if (i + 1 < MOST_GROUPS && !take(COMMA)) {
                    return true;
                }
            }
            return true;
        }

        private boolean readItems() {
            if (!take(GIVE)) {
                return false;
            }
            for (int i = 0; i < MOST_ITEMS; i++) {
                if (!readItem(i)) {
                    return false;
                }
                plan.itemCount++;
                if (!take(COMMA)) {
                    return true;
                }
            }
            int kind = kindNow();
            return (kind >= COUNT && kind <= MOST || canBeginFactor(kind)) && refuse();
        }

        private boolean readItem(int i) {
            int kind = kindNow();
            int place = placeNow();
            int begin = at;
            boolean isTogether = kind >= COUNT && kind <= MOST;
            plan.itemKinds[i] = isTogether ? kind : PLAIN;
            plan.itemColumns[i] = numberNow();
            plan.itemFrom[i] = plan.steps.size;
            if (isTogether ? !readTogether(kind) : !readSum(PLUS)) {
                return false;
            }
            plan.itemTo[i] = plan.steps.size;
            if (at != begin + 1 || kind != FIRST_NAME && kind != JOINED_NAME) {
                plan.itemColumns[i] = -1;
            }
            if (!isTogether && take(OR)) {
                plan.itemKinds[i] = OR_MISSING;
                if (!take(MISSING)) {
                    return false;
                }
            }
            plan.steps.add(ITEM, i, place);
            return true;
        }

        private boolean readTogether(int kind) {
            if (!countNode()) {
                return false;
            }
            if (kind == COUNT) {
                return take(COUNT);
            }
            return goIn() && take(kind) && take(OPEN) && readSum(PLUS) && take(CLOSE) && goOut();
        }

        private boolean readOrder() {
            if (take(ORDER)) {
                plan.orderItem = numberNow();
                plan.steps.add(ORDER, plan.orderItem, placeNow());
                if (!take(NUMBER)) {
                    return false;
                }
                plan.isDown = take(DOWN);
            }
            if (take(TOP)) {
                plan.top = numberNow();
                return take(NUMBER);
            }
            return true;
        }
    }

    /** Looks for the FAULTS 2 and 3: the steps stand in the order in which these are told. */
    private static final class Checker {
        private final int[] sorts = new int[MOST_HEIGHT];
        private int height;
        private int flaw;
        private int flawPlace;

        private boolean check(Plan plan, Table[] tables) {
            height = 0;
            flaw = 0;
            Steps steps = plan.steps;
            for (int i = 0; i < steps.size; i++) {
                int act = steps.acts[i];
                int arg = steps.args[i];
                flaw = act == ITEM ? flawOfItem(plan, arg) : isAboutNames(act) ? flawOfName(plan, tables, act, arg)
                        : flawOfAct(plan, act, arg);
                if (flaw != 0) {
                    flawPlace = steps.places[i];
                    return false;
                }
            }
            return true;
        }

        private static boolean isAboutNames(int act) {
            return act == TABLE_NAME || act == KNOWN || act == ON || act == COLUMN;
        }

        private int flawOfName(Plan plan, Table[] tables, int act, int arg) {
            if (act == TABLE_NAME) {
                return tableOf(tables, arg) == null ? NOT_THERE : 0;
            }
            if (act == ON) {
                int sort = sortIn(plan, tables, plan.onFirst);
                return sort == REAL_COLUMN || sort != sortIn(plan, tables, plan.onJoined) ? UNFIT : 0;
            }
            int sort = sortIn(plan, tables, arg);
            if (sort < 0) {
                return NOT_THERE;
            }
            if (act == COLUMN) {
                pushSort(sort == REAL_COLUMN ? REAL : sort == TEXT_COLUMN ? TEXT : WHOLE);
            }
            return 0;
        }

        private static Table tableOf(Table[] tables, int number) {
            return number < 0 || number >= tables.length ? null : tables[number];
        }

        private static int sortIn(Plan plan, Table[] tables, int column) {
            Table held = tableOf(tables, column >= JOINED_SIDE ? plan.joined : plan.first);
            return held == null ? -1 : held.sortOf(column >= JOINED_SIDE ? column - JOINED_SIDE : column);
        }

        private void pushSort(int sort) {
            if (height < MOST_HEIGHT) {
                sorts[height] = sort;
                height++;
            }
        }

        private int popSort() {
            if (height < 1) {
                return WHOLE;
            }
            height--;
            return sorts[height];
        }

        private int flawOfAct(Plan plan, int act, int arg) {
            if (act == CONSTANT) {
                pushSort(arg < 0 || arg >= plan.constantCount ? WHOLE : plan.constantSorts[arg]);
                return 0;
            }
            if (act == LOOK_UP) {
                return arg < LOOK_UPS ? 0 : NOT_THERE;
            }
            if (act == ORDER) {
                return arg < plan.itemCount ? 0 : UNFIT;
            }
            if (act >= PLUS && act <= REST) {
                return flawOfArithmetic(act);
            }
            if (act >= EQUAL && act <= AT_LEAST) {
                boolean isRightText = popSort() == TEXT;
                boolean isLeftText = popSort() == TEXT;
                return isLeftText == isRightText ? 0 : UNFIT;
            }
            if (act == IS) {
                popSort();
                return 0;
            }
            return act == NEGATE || act >= TO_INT && act <= LOOK ? flawOfCall(act) : 0;
        }

        private int flawOfArithmetic(int act) {
            int right = popSort();
            int left = popSort();
            if (left == TEXT || right == TEXT || act == REST && (left != WHOLE || right != WHOLE)) {
                return UNFIT;
            }
            pushSort(left == REAL || right == REAL ? REAL : WHOLE);
            return 0;
        }

        private int flawOfCall(int act) {
            int sort = popSort();
            if (act == NEGATE) {
                pushSort(sort);
                return sort == TEXT ? UNFIT : 0;
            }
            pushSort(act == TO_REAL ? REAL : WHOLE);
            return sort == (act == TO_WHOLE ? REAL : WHOLE) ? 0 : UNFIT;
        }

        private int flawOfItem(Plan plan, int item) {
            if (item < 0 || item >= plan.itemCount) {
                return UNFIT;
            }
            int kind = plan.itemKinds[item];
            int sort = kind == COUNT ? WHOLE : popSort();
            plan.itemSorts[item] = sort;
            if (kind == SUM && sort == TEXT) {
                return UNFIT;
            }
            if (!plan.isGrouped()) {
                return plan.isTogether(item) == plan.isTogether(0) ? 0 : UNFIT;
            }
            int column = plan.itemColumns[item];
            boolean isGroups = kind == PLAIN && column >= 0
                    && (column == plan.groups[0] || column == plan.groups[1]);
            return plan.isTogether(item) || isGroups ? 0 : UNFIT;
        }
    }

    private static final class Form {
        private final Plan plan;
        private final int[] kinds;
        private final long[] values;
        private final int nodes;
        private int questions;
        private boolean isKept;
        private int made;
        private int failedStarts;
        private boolean isFallen;
        private int fellBacks;
        private boolean isRetired;
        private int spoilt;
        private int askedAt;

        private Form(Plan plan, Tokens tokens, int nodes) {
            this.plan = plan;
            this.kinds = Arrays.copyOf(tokens.kinds, tokens.size);
            this.values = Arrays.copyOf(tokens.values, tokens.size);
            this.nodes = nodes;
        }

        private boolean isToldBy(Tokens tokens) {
            if (tokens.size != kinds.length) {
                return false;
            }
            for (int i = 0; i < kinds.length; i++) {
                if (tokens.kinds[i] != kinds[i] || tokens.values[i] != values[i]) {
                    return false;
                }
            }
            return true;
        }

        private boolean uses(int table, int column) {
            for (int i = 0; i < kinds.length; i++) {
                if (kinds[i] == FIRST_NAME && plan.first == table && values[i] == column
                        || kinds[i] == JOINED_NAME && plan.joined == table && values[i] == JOINED_SIDE + column) {
                    return true;
                }
            }
            return false;
        }

        private void retire() {
            isRetired = true;
            isKept = false;
            isFallen = false;
        }

        private void failToStart() {
            spoilt--;
            failedStarts++;
            isFallen = true;
            // The ask whose START failed is answered by the scan as well.
            fellBacks = 1;
        }

        private void start() {
            made++;
            isKept = true;
            isFallen = false;
        }
    }

    private static final class Question {
        private final Form form;
        private final int formNumber;
        private final long[] constants;

        private Question(Form form, int formNumber, long[] constants) {
            this.form = form;
            this.formNumber = formNumber;
            this.constants = constants;
        }
    }

    /**
     * Runs steps for one PAIR, on a stack of VALUES. What a condition says is a VALUE too: 1 true, 0 false, MISSING
     * neither.
     */
    private static final class Machine {
        private final long[] lookUps = new long[LOOK_UPS * LOOK_PLACES];
        private final long[] wholes = new long[MOST_HEIGHT];
        private final double[] reals = new double[MOST_HEIGHT];
        private final int[] sorts = new int[MOST_HEIGHT];
        private final boolean[] theres = new boolean[MOST_HEIGHT];
        private int height;
        private Table first;
        private Table joined;
        private int firstRow;
        private int joinedRow;
        private Question question;

        private void prepare(Question its, Table firstTable, Table joinedTable) {
            question = its;
            first = firstTable;
            joined = joinedTable;
        }

        private void standAt(int row, int other) {
            firstRow = row;
            joinedRow = other;
        }

        /** The FAILURE that is met first, 0 if none is. Tests leap ahead only, so no step is done twice. */
        private int run(Steps steps, int from, int to) {
            int at = from;
            for (int i = 0; i < MOST_STEPS && at >= 0 && at < to && at < steps.size; i++) {
                int act = steps.acts[at];
                int arg = steps.args[at];
                int failure = 0;
                at++;
                if (act == CONSTANT) {
                    pushConstant(arg);
                } else if (act == COLUMN) {
                    pushColumn(arg);
                } else if (act == AND_TEST || act == OR_TEST) {
                    at = isTruth(act == AND_TEST ? 0 : 1) ? arg : at;
                } else if (act >= PLUS && act <= REST) {
                    failure = combine(act);
                } else if (act >= EQUAL && act <= AT_LEAST) {
                    compare(act);
                } else if (act == AND || act == OR) {
                    join(act == AND ? 0 : 1);
                } else if (act >= TO_INT && act <= LOOK) {
                    failure = convert(act, arg);
                } else {
                    turn(act);
                }
                if (failure != 0) {
                    return failure;
                }
            }
            return 0;
        }

        private boolean isTruth(long truth) {
            return height > 0 && theres[height - 1] && wholes[height - 1] == truth;
        }

        private boolean push(int sort, boolean isThere) {
            if (height >= MOST_HEIGHT) {
                return false;
            }
            sorts[height] = sort;
            theres[height] = isThere;
            height++;
            return true;
        }

        private void pushConstant(int i) {
            if (question == null || i < 0 || i >= question.constants.length
                    || !push(question.form.plan.constantSorts[i], true)) {
                return;
            }
            wholes[height - 1] = question.constants[i];
            reals[height - 1] = (double) question.constants[i] / 1000.0;
        }

        private void pushColumn(int side) {
            boolean isJoined = side >= JOINED_SIDE;
            Table held = isJoined ? joined : first;
            int column = isJoined ? side - JOINED_SIDE : side;
            int place = held == null ? -1 : held.placeOf(isJoined ? joinedRow : firstRow, column);
            if (held == null || place < 0) {
                push(WHOLE, false);
                return;
            }
            int sort = held.sorts[column];
            if (push(sort == REAL_COLUMN ? REAL : sort == TEXT_COLUMN ? TEXT : WHOLE, held.theres[place])) {
                wholes[height - 1] = held.values[place];
                reals[height - 1] = (double) held.values[place] / 8.0;
            }
        }

        /** Takes the upper one of two VALUES away; false, if the lower one is MISSING then, as one of them is. */
        private boolean areBothThere() {
            if (height < 2) {
                return false;
            }
            height--;
            theres[height - 1] = theres[height - 1] && theres[height];
            return theres[height - 1];
        }

        private double realAt(int i) {
            return sorts[i] == REAL ? reals[i] : (double) wholes[i];
        }

        private int combine(int act) {
            if (!areBothThere()) {
                return 0;
            }
            if (sorts[height - 1] == WHOLE && sorts[height] == WHOLE) {
                return combineWholes(act, height - 1);
            }
            return combineReals(act, height - 1);
        }

        private int combineWholes(int act, int i) {
            long left = wholes[i];
            long right = wholes[i + 1];
            if (act == OVER || act == REST) {
                if (right == 0) {
                    return ZERO;
                }
                wholes[i] = act == OVER ? left / right : left % right;
                return 0;
            }
            wholes[i] = act == PLUS ? left + right : act == MINUS ? left - right : left * right;
            return 0;
        }

        private int combineReals(int act, int i) {
            double left = realAt(i);
            double right = realAt(i + 1);
            if (act == OVER && right == 0.0) {
                return ZERO;
            }
            sorts[i] = REAL;
            reals[i] = act == PLUS ? left + right : act == MINUS ? left - right : act == TIMES ? left * right
                    : left / right;
            return isLarge(reals[i]) ? LARGE : 0;
        }

        private static boolean isLarge(double x) {
            return x < (double) -LARGEST_REAL || x > (double) LARGEST_REAL;
        }

        private void compare(int act) {
            if (!areBothThere()) {
                return;
            }
            int i = height - 1;
            boolean isLess;
            boolean isMore;
            if (sorts[i] == REAL || sorts[i + 1] == REAL) {
                isLess = realAt(i) < realAt(i + 1);
                isMore = realAt(i) > realAt(i + 1);
            } else {
                isLess = wholes[i] < wholes[i + 1];
                isMore = wholes[i] > wholes[i + 1];
            }
            boolean isTrue = act == LESS ? isLess : act == MORE ? isMore : act == AT_MOST ? !isMore
                    : act == AT_LEAST ? !isLess : act == UNEQUAL ? isLess || isMore : !isLess && !isMore;
            sorts[i] = WHOLE;
            wholes[i] = toNumber(isTrue);
        }

        /** Two parts of a condition: the deciding truth, if one is that; else neither, if one is; else the other truth. */
        private void join(long deciding) {
            if (height < 2) {
                return;
            }
            boolean isDecided = isTruth(deciding);
            if (!areBothThere() && !isDecided) {
                return;
            }
            theres[height - 1] = true;
            wholes[height - 1] = isDecided ? deciding : 1 - deciding;
        }

        private int convert(int act, int arg) {
            if (height < 1) {
                return 0;
            }
            int i = height - 1;
            long x = wholes[i];
            sorts[i] = act == TO_REAL ? REAL : WHOLE;
            if (!theres[i]) {
                return 0;
            }
            if (act == TO_WHOLE) {
                wholes[i] = (long) reals[i];
                return 0;
            }
            if (act == TO_REAL) {
                reals[i] = (double) x;
                return isLarge(reals[i]) ? LARGE : 0;
            }
            if (act == TO_INT) {
                return x == (int) x ? 0 : NARROW;
            }
            if (act == LOOK) {
                int place = x < 0 || x >= LOOK_PLACES ? -1 : arg * LOOK_PLACES + (int) x;
                if (place < 0 || place >= lookUps.length) {
                    return INDEX;
                }
                wholes[i] = lookUps[place];
                return 0;
            }
            if (!isDay(x)) {
                return NARROW;
            }
            wholes[i] = act == WEEKDAY ? Math.floorMod(x + 5, 7L) : partOfDay(act, x);
            return 0;
        }

        /** The year or month; years begin on March 1 here, so that February 29 is a year's last day. */
        private static long partOfDay(int act, long day) {
            long fromMarch = day - 60;
            long era = Math.floorDiv(fromMarch, 146097L);
            long dayOfEra = Math.floorMod(fromMarch, 146097L);
            long year = (dayOfEra - dayOfEra / 1460 + dayOfEra / 36524 - dayOfEra / 146096) / 365;
            long dayOfYear = dayOfEra - (365 * year + year / 4 - year / 100);
            long fromMarchMonth = (5 * dayOfYear + 2) / 153;
            long month = fromMarchMonth < 10 ? fromMarchMonth + 3 : fromMarchMonth - 9;
            return act == MONTH ? month : 2000 + 400 * era + year + (month <= 2 ? 1 : 0);
        }

        /** The acts that are of one VALUE and never fail; what is there for the Checker alone is none. */
        private void turn(int act) {
            if (height < 1) {
                return;
            }
            int i = height - 1;
            if (act == NEGATE && sorts[i] == REAL) {
                reals[i] = -1.0 * reals[i];
            } else if (act == NEGATE) {
                wholes[i] = -wholes[i];
            } else if (act == NOT) {
                wholes[i] = 1 - wholes[i];
            } else if (act == IS) {
                sorts[i] = WHOLE;
                wholes[i] = toNumber(!theres[i]);
                theres[i] = true;
            }
        }
    }

    /** Goes through the PAIRS of a question, and writes its Answer. */
    private static final class Asker {
        private final Machine machine = new Machine();
        private Plan plan;
        private Answer into;
        private Table first;
        private Table joined;
        // The first PAIR of each group, whose VALUES tell the group.
        private final int[] groupRows = new int[MOST_ANSWER_ROWS];
        private final int[] groupOthers = new int[MOST_ANSWER_ROWS];

        private void answer(Question its, Table[] tables, Answer answer, boolean byCode) {
            makeReady(its, tables, answer);
            int rows = first == null ? 0 : first.rowCount;
            int others = joined == null ? 1 : joined.rowCount;
            boolean goesOn = true;
            for (int row = 0; row < rows && goesOn; row++) {
                for (int other = 0; other < others && goesOn; other++) {
                    if (joined != null && !isPair(row, other)) {
                        continue;
                    }
                    into.visited++;
                    machine.standAt(row, other);
                    int said = conditionSays(row);
                    goesOn = said != ENDED && (said != CHOSEN || takeItems(row, other));
                    if (said == FALSE_AT_ONCE && byCode) {
                        break;
                    }
                }
            }
            if (goesOn) {
                into.finish(plan.orderItem, plan.isDown, plan.top);
            }
        }

        private void makeReady(Question its, Table[] tables, Answer answer) {
            plan = its.form.plan;
            into = answer;
            first = Checker.tableOf(tables, plan.first);
            joined = Checker.tableOf(tables, plan.joined);
            machine.prepare(its, first, joined);
            into.begin(plan);
            if (plan.isOneRow()) {
                newRow(0, 0);
            }
        }

        private boolean isPair(int row, int other) {
            int column = plan.onJoined - JOINED_SIDE;
            int left = first == null ? -1 : first.placeOf(row, plan.onFirst);
            int right = joined == null ? -1 : joined.placeOf(other, column);
            return left >= 0 && right >= 0 && first.theres[left] && joined.theres[right]
                    && first.values[left] == joined.values[right];
        }

        private int conditionSays(int row) {
            if (plan.whereFrom == plan.whereTo) {
                return CHOSEN;
            }
            machine.height = 0;
            int failure = machine.run(plan.steps, plan.whereFrom, plan.leapTo);
            if (failure == 0 && machine.isTruth(0)) {
                return FALSE_AT_ONCE;
            }
            if (failure == 0) {
                failure = machine.run(plan.steps, plan.leapTo, plan.whereTo);
            }
            if (failure != 0) {
                into.end(FAILED, failure, row, NONE);
                return ENDED;
            }
            return machine.isTruth(1) ? CHOSEN : REFUSED;
        }

        private boolean takeItems(int row, int other) {
            int target = plan.isOneRow() ? 0 : plan.isGrouped() ? groupOf(row, other) : -1;
            if (target < 0) {
                target = newRow(row, other);
            }
            if (target < 0) {
                into.end(TOO_MANY, 0, NONE, NONE);
                return false;
            }
            for (int i = 0; i < plan.itemCount; i++) {
                machine.height = 0;
                int kind = plan.itemKinds[i];
                int failure = machine.run(plan.steps, plan.itemFrom[i], plan.itemTo[i]);
                if (failure == 0) {
                    failure = keep(kind, target * MOST_ITEMS + i);
                } else if (kind == OR_MISSING) {
                    // The VALUE is MISSING since its row is new.
                    failure = 0;
                }
                if (failure != 0) {
                    into.end(FAILED, failure, row, i);
                    return false;
                }
            }
            return true;
        }

        /** A new row of the answer; -1, if it would be the 101st. */
        private int newRow(int row, int other) {
            int target = into.addRow();
            if (target < 0) {
                return -1;
            }
            groupRows[target] = row;
            groupOthers[target] = other;
            for (int i = 0; i < plan.itemCount; i++) {
                into.theres[target * MOST_ITEMS + i] = plan.itemKinds[i] == COUNT;
                into.wholes[target * MOST_ITEMS + i] = 0;
            }
            return target;
        }

        /** The row of the answer that is of that PAIR's group; -1, if there is none yet. */
        private int groupOf(int row, int other) {
            for (int i = 0; i < into.rowCount; i++) {
                if (isAlike(plan.groups[0], row, other, i) && isAlike(plan.groups[1], row, other, i)) {
                    return i;
                }
            }
            return -1;
        }

        private boolean isAlike(int side, int row, int other, int group) {
            if (side < 0) {
                return true;
            }
            boolean isJoined = side >= JOINED_SIDE;
            Table held = isJoined ? joined : first;
            int column = isJoined ? side - JOINED_SIDE : side;
            int place = held == null ? -1 : held.placeOf(isJoined ? other : row, column);
            int groups = held == null ? -1 : held.placeOf(isJoined ? groupOthers[group] : groupRows[group], column);
            if (held == null || place < 0 || groups < 0) {
                return false;
            }
            return held.theres[place] == held.theres[groups]
                    && (!held.theres[place] || held.values[place] == held.values[groups]);
        }

        /** Takes the VALUE that the machine has to that of the answer; the FAILURE of a sum that becomes too large. */
        private int keep(int kind, int target) {
            if (kind == COUNT) {
                into.wholes[target]++;
                return 0;
            }
            if (machine.height < 1 || !machine.theres[0]) {
                return 0;
            }
            boolean isReal = machine.sorts[0] == REAL;
            boolean isFirst = kind < COUNT || !into.theres[target];
            if (kind == SUM && !isFirst) {
                return isReal ? addReal(target) : addWhole(target);
            }
            if (isFirst || isBetter(kind, isReal, target)) {
                into.theres[target] = true;
                into.wholes[target] = machine.wholes[0];
                into.reals[target] = machine.reals[0];
            }
            return 0;
        }

        private boolean isBetter(int kind, boolean isReal, int target) {
            if (isReal) {
                return kind == LEAST ? machine.reals[0] < into.reals[target] : machine.reals[0] > into.reals[target];
            }
            return kind == LEAST ? machine.wholes[0] < into.wholes[target] : machine.wholes[0] > into.wholes[target];
        }

        private int addReal(int target) {
            into.reals[target] = into.reals[target] + machine.reals[0];
            return Machine.isLarge(into.reals[target]) ? LARGE : 0;
        }

        private int addWhole(int target) {
            long left = into.wholes[target];
            long right = machine.wholes[0];
            long sum = left + right;
            // Beyond 64 bits the sum has a sign that neither part has.
            if (((left ^ sum) & (right ^ sum)) < 0) {
                return LARGE;
            }
            into.wholes[target] = sum;
            return 0;
        }
    }

    /** What outcome(), cell() and isMissing() tell of. */
    private static final class Answer {
        private boolean isThere;
        private int result;
        private int fellBack;
        private int failure;
        private int failedRow;
        private int failedItem;
        private int visited;
        private int itemCount;
        private int rowCount;
        private final int[] itemSorts = new int[MOST_ITEMS];
        private final long[] wholes = new long[MOST_ANSWER_ROWS * MOST_ITEMS];
        private final double[] reals = new double[MOST_ANSWER_ROWS * MOST_ITEMS];
        private final boolean[] theres = new boolean[MOST_ANSWER_ROWS * MOST_ITEMS];
        private final int[] order = new int[MOST_ANSWER_ROWS];

        private void begin(Plan plan) {
            isThere = true;
            fellBack = 0;
            failure = 0;
            failedRow = NONE;
            failedItem = NONE;
            visited = 0;
            itemCount = plan.itemCount;
            rowCount = 0;
            System.arraycopy(plan.itemSorts, 0, itemSorts, 0, MOST_ITEMS);
        }

        /** -1, if there are as many as can be. */
        private int addRow() {
            if (rowCount >= MOST_ANSWER_ROWS) {
                return -1;
            }
            order[rowCount] = rowCount;
            rowCount++;
            return rowCount - 1;
        }

        private void end(int how, int why, int row, int item) {
            result = how;
            failure = why;
            failedRow = row;
            failedItem = item;
            rowCount = 0;
        }

        private void finish(int orderItem, boolean isDown, int top) {
            if (orderItem >= 0 && orderItem < itemCount) {
                sortBy(orderItem, isDown);
            }
            if (top >= 0) {
                rowCount = Math.min(rowCount, top);
            }
            result = rowCount;
        }

        /** Each row goes ahead of those that it must be ahead of, and no further: the others stay as they were. */
        private void sortBy(int item, boolean isDown) {
            for (int i = 1; i < rowCount; i++) {
                int moved = order[i];
                int to = i;
                while (to > 0 && isAhead(moved * MOST_ITEMS + item, order[to - 1] * MOST_ITEMS + item, item, isDown)) {
                    order[to] = order[to - 1];
                    to--;
                }
                order[to] = moved;
            }
        }

        private boolean isAhead(int left, int right, int item, boolean isDown) {
            if (!theres[left] || !theres[right]) {
                return theres[left] && !theres[right];
            }
            int lower = isDown ? right : left;
            int upper = isDown ? left : right;
            return itemSorts[item] == REAL ? reals[lower] < reals[upper] : wholes[lower] < wholes[upper];
        }

        /** Where the VALUE of row r and item c is held; -1, if there is none such. */
        private int slotOf(int r, int c) {
            return r < 0 || r >= rowCount || c < 0 || c >= itemCount ? -1 : order[r] * MOST_ITEMS + c;
        }

        private long told(int place, int item) {
            if (!theres[place]) {
                return NO;
            }
            return itemSorts[item] == REAL ? bitsOf(reals[place]) : wholes[place];
        }

        private boolean differsFrom(Answer other) {
            if (result != other.result || failure != other.failure || failedRow != other.failedRow
                    || failedItem != other.failedItem || itemCount != other.itemCount || rowCount != other.rowCount) {
                return true;
            }
            for (int r = 0; r < rowCount; r++) {
                for (int c = 0; c < itemCount; c++) {
                    int mine = slotOf(r, c);
                    int its = other.slotOf(r, c);
                    if (mine < 0 || its < 0 || theres[mine] != other.theres[its]
                            || told(mine, c) != other.told(its, c)) {
                        return true;
                    }
                }
            }
            return false;
        }

        /** The bits of a double that is no larger than LARGEST_REAL, by halving and doubling, which are exact. */
        private static long bitsOf(double x) {
            if (x == 0.0) {
                // The sign of a zero shows only in what it divides.
                return 1.0 / x < 0.0 ? Long.MIN_VALUE : 0L;
            }
            long sign = x < 0.0 ? Long.MIN_VALUE : 0L;
            double rest = x < 0.0 ? -1.0 * x : x;
            int exponent = 0;
            while (rest >= 2.0 && exponent < 1023) {
                rest = rest / 2.0;
                exponent++;
            }
            while (rest < 1.0 && exponent > -1022) {
                rest = rest * 2.0;
                exponent--;
            }
            double unit = (double) (1L << 52);
            if (rest < 1.0) {
                return sign | (long) (rest * unit);
            }
            return sign | (long) (exponent + 1023) << 52 | (long) ((rest - 1.0) * unit);
        }
    }
}
