/** What the tests share: telling a city, and counting answers that are not due. */
final class Check {
    private static int asked = 0;
    private static int wrong = 0;

    private Check() {
    }

    static void due(String call, long want, long got) {
        asked++;
        if (want != got) {
            wrong++;
            if (wrong <= 50) {
                System.out.println(call + " answered " + got + ", due is " + want);
            }
        }
    }

    static void holds(String what, boolean truth) {
        due(what, 1, truth ? 1 : 0);
    }

    static void close(String name) {
        System.out.println(name + ": " + asked + " answers, " + wrong + " not as due");
        if (wrong > 0) {
            System.exit(1);
        }
    }

    /** Puts a text on the tape, which must be empty; a character is a byte. */
    static void tape(JuggledPost x, String text) {
        for (int i = 0; i < text.length(); i += 20) {
            x.feed(four(text, i), four(text, i + 4), four(text, i + 8), four(text, i + 12), four(text, i + 16));
        }
        due("end for " + text, text.length(), x.end(text.length()));
    }

    private static int four(String text, int i) {
        int bytes = 0;
        for (int k = i; k < i + 4; k++) {
            bytes = bytes << 8 | (k < text.length() ? text.charAt(k) & 255 : 0);
        }
        return bytes;
    }

    static int tell(JuggledPost x, String text) {
        tape(x, text);
        return x.city();
    }

    static JuggledPost told(String text) {
        JuggledPost x = new JuggledPost();
        holds("a city is told by " + text, tell(x, text) > 0);
        return x;
    }
}
