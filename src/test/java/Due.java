/** Compares answers with those that are due, and ends a test. */
final class Due {
    private final String test;
    private int asked;
    private int wrong;

    Due(String test) {
        this.test = test;
    }

    void due(String call, long got, long want) {
        asked++;
        if (got != want) {
            wrong++;
            System.out.println(test + ": " + call + " answered " + got + ", due is " + want);
        }
    }

    void holds(String what, boolean holds) {
        due(what, holds ? 1 : 0, 1);
    }

    void end() {
        System.out.println(test + ": " + asked + " answers, " + wrong + " not as due");
        if (wrong != 0 || asked == 0) {
            System.exit(1);
        }
    }

    /** An object that has gone over to the census of this text. */
    static CountedMissing of(String text) {
        CountedMissing x = new CountedMissing();
        tell(x, text);
        if (x.census() < 0) {
            throw new IllegalStateException("no census: " + text);
        }
        return x;
    }

    /** Makes this THE TEXT, up to 8 bytes a call. */
    static void tell(CountedMissing x, String text) {
        x.wipe();
        for (int from = 0; from < text.length(); from += 8) {
            String part = text.substring(from, Math.min(text.length(), from + 8));
            if (x.write(part.length(), bytes(part)) != from + part.length()) {
                throw new IllegalStateException("could not write: " + text);
            }
        }
    }

    static long bytes(String part) {
        long v = 0;
        for (int k = 0; k < part.length(); k++) {
            v = v << 8 | part.charAt(k) & 255;
        }
        return v;
    }
}
