/** Compares answers with those that are due, and ends a test. */
final class Due {
    private final String test;
    private String sentence = "";
    private int asked;
    private int askedOfSentence = 1;
    private int wrong;

    Due(String test) {
        this.test = test;
    }

    /** What comes next holds to these words of the document. */
    void sentence(String words) {
        checkSentence();
        sentence = "\"" + words + "\", ";
        askedOfSentence = 0;
    }

    void due(String call, long got, long want) {
        asked++;
        askedOfSentence++;
        if (got != want) {
            wrong++;
            System.out.println(test + ": " + sentence + call + " answered " + got + ", due is " + want);
        }
    }

    void holds(String what, boolean holds) {
        due(what, holds ? 1 : 0, 1);
    }

    void end() {
        checkSentence();
        System.out.println(test + ": " + asked + " answers, " + wrong + " not as due");
        if (wrong != 0 || asked == 0) {
            System.exit(1);
        }
    }

    private void checkSentence() {
        if (askedOfSentence == 0) {
            wrong++;
            System.out.println(test + ": " + sentence + "nothing was asked of it");
        }
    }

    /** An object that has gone over to the census of this text. */
    static CountedMissing of(String text) {
        CountedMissing x = new CountedMissing();
        tell(x, text);
        if (x.census() < 0) {
            throw new IllegalStateException("no census: " + text);
        }
        return x;
    }

    /** Makes this THE TEXT, up to 8 bytes a call. */
    static void tell(CountedMissing x, String text) {
        x.wipe();
        for (int from = 0; from < text.length(); from += 8) {
            String part = text.substring(from, Math.min(text.length(), from + 8));
            if (x.write(part.length(), bytes(part)) != from + part.length()) {
                throw new IllegalStateException("could not write: " + text);
            }
        }
    }

    static long bytes(String part) {
        long v = 0;
        for (int k = 0; k < part.length(); k++) {
            v = v << 8 | part.charAt(k) & 255;
        }
        return v;
    }

    static void years(CountedMissing x, int n) {
        for (int k = 0; k < n; k++) {
            x.year();
        }
    }

    /** Brings the RUMOURS of a TOWN without any to n. */
    static void rumours(CountedMissing x, int town, int n) {
        for (int left = n; left > 0; left -= 9) {
            x.rumour(town, Math.min(left, 9));
        }
    }
}
