/** What the tests share: answers beside those that are due, and texts fed to THE TAPE. */
final class Due {
    private int wrong = 0;
    private int asked = 0;
    private String part = "";

    void part(String name) {
        part = name;
    }

    void is(String call, long got, long want) {
        asked++;
        if (got != want) {
            wrong++;
            System.out.println(part + ": " + call + " answered " + got + ", due is " + want);
        }
    }

    int asked() {
        return asked;
    }

    void end() {
        System.out.println(asked + " answers, " + wrong + " not as due");
        if (wrong != 0 || asked == 0) {
            System.exit(1);
        }
    }

    static void feed(TwiceOnce x, String text) {
        for (int i = 0; i < text.length(); i += 8) {
            String piece = text.substring(i, Math.min(i + 8, text.length()));
            long w = 0;
            for (int k = 0; k < piece.length(); k++) {
                w = w << 8 | piece.charAt(k);
            }
            x.feed(w, piece.length());
        }
    }

    static int service(TwiceOnce x, String text) {
        feed(x, text);
        return x.service();
    }

    static TwiceOnce with(String... texts) {
        TwiceOnce x = new TwiceOnce();
        for (String text : texts) {
            if (service(x, text) < 0) {
                throw new IllegalStateException("no program: " + text);
            }
        }
        return x;
    }
}
