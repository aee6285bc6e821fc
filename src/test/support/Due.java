import java.nio.charset.StandardCharsets;

/** What the tests share: answers that are due, sentences of the document that they are due by, and the telling of texts. */
final class Due {
    private static int wrong = 0;
    private static int right = 0;
    private static int sentences = 0;
    private static String sentence = "";

    private Due() {
    }

    static void is(String what, long got, long want) {
        if (got == want) {
            right++;
            return;
        }
        wrong++;
        System.out.println(sentence + what + " answered " + got + ", due is " + want);
    }

    static void holds(String what, boolean truth) {
        is(what, truth ? 1 : 0, 1);
    }

    /** The test of one sentence of the document; a test that looks at nothing is wrong. */
    static void by(String told, Runnable test) {
        int before = right + wrong;
        sentences++;
        sentence = "[" + told + "] ";
        try {
            test.run();
        } catch (RuntimeException thrown) {
            wrong++;
            System.out.println(sentence + "threw " + thrown);
        }
        holds("its test looks at something", right + wrong > before);
        sentence = "";
    }

    static void end() {
        String of = sentences > 0 ? " (" + sentences + " sentences)" : "";
        System.out.println(right + " answers are as due, " + wrong + " are not" + of);
        System.exit(wrong == 0 && right > 0 ? 0 : 1);
    }

    static void say(ElevatorLedger ledger, String text) {
        byte[] bytes = text.getBytes(StandardCharsets.ISO_8859_1);
        for (int i = 0; i < bytes.length; i += 8) {
            int n = Math.min(8, bytes.length - i);
            long packed = 0;
            for (int k = 0; k < n; k++) {
                packed = packed << 8 | bytes[i + k] & 255;
            }
            ledger.say(packed, n);
        }
    }

    static int question(ElevatorLedger ledger, String text) {
        say(ledger, text);
        return ledger.question();
    }

    /** A question without a FAULT. */
    static int read(ElevatorLedger ledger, String text) {
        int number = question(ledger, text);
        holds("question() of \"" + text + "\", which answered " + number + ",", number >= 0);
        return number;
    }

    /** A text that has that FAULT where the mark | stands in it. */
    static void fault(ElevatorLedger ledger, int fault, String marked) {
        int place = marked.indexOf('|');
        String text = marked.replace("|", "");
        is("question() of \"" + text + "\"", question(ledger, text), -100 - place);
        is("fault() of \"" + text + "\"", ledger.fault(), fault);
    }

    /** Up to five letters, as put() is told them. */
    static long text(String letters) {
        long v = 0;
        for (int i = 0; i < 5; i++) {
            v = v * 32 + (i < letters.length() ? letters.charAt(i) - 'a' + 1 : 0);
        }
        return v;
    }

    static long bits(double x) {
        return Double.doubleToRawLongBits(x);
    }
}
