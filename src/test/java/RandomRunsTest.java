import java.util.Random;

/** Runs of calls drawn by fixed seeds, each answered as SlowMissing answers it. */
public final class RandomRunsTest {
    private static final int RUNS = 400;
    /** What an object answers behind its 512th call is free. */
    private static final int MOST_CALLS = 512;
    private static final int[] FAR_OFF = {-2, -1, 8, 9, 10, 99, 100, 101, 1000, 64, Integer.MIN_VALUE,
        Integer.MAX_VALUE};

    private final Due due;
    private final Random random;
    private final String run;
    private final CountedMissing fast = new CountedMissing();
    private final SlowMissing slow = new SlowMissing();
    private int calls;

    private RandomRunsTest(Due due, int seed) {
        this.due = due;
        random = new Random(seed);
        run = "run " + seed + ": ";
    }

    public static void main(String[] args) {
        Due due = new Due("RandomRunsTest");
        for (int seed = 0; seed < RUNS; seed++) {
            new RandomRunsTest(due, seed).goThrough();
        }
        due.end();
    }

    private void goThrough() {
        tell(randomCensus(random.nextInt(3), 1 + random.nextInt(4)));
        same("census", fast.census(), slow.census());
        boolean guesses = random.nextInt(2) == 0;
        while (calls < MOST_CALLS) {
            int kind = random.nextInt(100);
            if (kind < 3) {
                textCalls();
            } else if (kind < 60) {
                actCalls();
            } else if (kind < 66) {
                slotCalls();
            } else if (kind < 80 || !guesses) {
                lieCalls();
            } else {
                guessCalls();
            }
            someViews();
        }
    }

    private void same(String call, long got, long want) {
        calls++;
        if (calls <= MOST_CALLS) {
            due.due(run + call, got, want);
        }
    }

    private int below(int bound) {
        return random.nextInt(30) == 0 ? FAR_OFF[random.nextInt(FAR_OFF.length)] : random.nextInt(bound);
    }

    private String randomCensus(int law, int towns) {
        StringBuilder text = new StringBuilder("Z").append(law).append(towns);
        int most = random.nextInt(9);
        int people = 0;
        boolean crowded = random.nextBoolean();
        for (int k = 0; k < most; k++) {
            int town = crowded ? random.nextInt(8) / 7 % towns : random.nextInt(towns);
            text.append('P').append(town).append((char) ('a' + random.nextInt(random.nextBoolean() ? 2 : 6)))
                .append(random.nextInt(random.nextBoolean() ? 3 : 10));
            people++;
            for (int tries = random.nextInt(5); tries > 0; tries--) {
                tryPair(text, people);
            }
        }
        for (int tries = random.nextInt(20); tries > 0 && people > 0; tries--) {
            tryPair(text, people);
        }
        return text.toString();
    }

    private void tryPair(StringBuilder text, int people) {
        String pair = "A" + random.nextInt(people) + random.nextInt(people);
        boolean unlike = pair.charAt(1) != pair.charAt(2);
        long told = text.chars().filter(sign -> sign == 'A').count();
        if (unlike && told < 12 && text.indexOf(pair) < 0) {
            text.append(pair);
        }
    }

    private void tell(String text) {
        same("wipe", fast.wipe(), slow.wipe());
        for (int from = 0; from < text.length();) {
            int n = Math.min(1 + random.nextInt(8), text.length() - from);
            long v = Due.bytes(text.substring(from, from + n));
            long more = n < 8 && random.nextBoolean() ? random.nextLong() << 8 * n : 0;
            same("write " + n, fast.write(n, v | more), slow.write(n, v | more));
            from += n;
        }
    }

    private void textCalls() {
        String text = randomCensus(random.nextInt(3), 1 + random.nextInt(4));
        switch (random.nextInt(4)) {
            case 0:
                text = text.substring(0, random.nextInt(text.length() + 1));
                break;
            case 1:
                int at = random.nextInt(text.length());
                text = text.substring(0, at) + "PA0123456789abcdefgZ".charAt(random.nextInt(20))
                    + text.substring(at + random.nextInt(2));
                break;
            case 2:
                text += text.substring(random.nextInt(text.length()));
                break;
            default:
                break;
        }
        tell(text.substring(0, Math.min(80, text.length())));
        same("fault of " + text, fast.fault(), slow.fault());
        int n = below(9);
        long v = random.nextLong();
        same("write " + n, fast.write(n, v), slow.write(n, v));
        same("fault and more", fast.fault(), slow.fault());
        if (random.nextInt(3) == 0) {
            tell(text.substring(0, Math.min(80, text.length())));
        }
        if (random.nextInt(2) == 0) {
            same("census of " + text, fast.census(), slow.census());
        }
    }

    private void actCalls() {
        int a = below(8);
        int b = below(5);
        switch (random.nextInt(12)) {
            case 0:
                same("die " + a, fast.die(a), slow.die(a));
                break;
            case 1:
            case 2:
                same("year", fast.year(), slow.year());
                break;
            case 3:
                int n = 1 + below(9);
                same("rumour " + b + " " + n, fast.rumour(b, n), slow.rumour(b, n));
                break;
            case 4:
            case 5:
                for (int k = random.nextInt(4); k >= 0; k--) {
                    same("undo", fast.undo(), slow.undo());
                }
                break;
            case 6:
                same("law " + b, fast.law(b), slow.law(b));
                break;
            default:
                same("go " + a + " " + b, fast.go(a, b), slow.go(a, b));
                break;
        }
    }

    private void slotCalls() {
        int slot = below(2);
        if (random.nextBoolean()) {
            same("keep " + slot, fast.keep(slot), slow.keep(slot));
        } else {
            same("again " + slot, fast.again(slot), slow.again(slot));
        }
    }

    private void lieCalls() {
        int a = below(8);
        int town = below(4);
        int m = below(random.nextBoolean() ? 5 : 16);
        switch (random.nextInt(3)) {
            case 0:
                same("forgotten " + a, fast.forgotten(a), slow.forgotten(a));
                break;
            case 1:
                same("lie " + town + " " + m, fast.lie(town, m), slow.lie(town, m));
                break;
            default:
                same("leave " + town + " " + m, fast.leave(town, m), slow.leave(town, m));
                break;
        }
    }

    private void guessCalls() {
        int town = random.nextInt(2) == 0 ? 0 : below(4);
        int c = below(5);
        int what = below(3);
        int x = below(11);
        switch (random.nextInt(4)) {
            case 0:
                same("spans " + town + " " + c + " " + what, fast.spans(town, c, what), slow.spans(town, c, what));
                break;
            case 1:
                same("toAsk " + town + " " + c, fast.toAsk(town, c), slow.toAsk(town, c));
                break;
            case 2:
                int n = 1 + below(3);
                int told = random.nextInt(9) == 0 ? below(1000) : random.nextInt(3) + 10 * random.nextInt(2)
                    + (n > 2 ? 100 * random.nextInt(2) : 0);
                same("retold " + town + " " + n + " " + told + " " + what,
                        fast.retold(town, n, told, what), slow.retold(town, n, told, what));
                break;
            default:
                boolean upper = random.nextBoolean();
                same("chance " + town + " " + c + " " + x,
                        fast.chance(town, c, x, upper), slow.chance(town, c, x, upper));
                break;
        }
    }

    private void someViews() {
        for (int k = random.nextInt(6); k >= 0; k--) {
            int what = below(9);
            int one = below(8);
            int town = below(4);
            switch (random.nextInt(3)) {
                case 0:
                    same("about " + what, fast.about(what), slow.about(what));
                    break;
                case 1:
                    same("town " + town + " " + what, fast.town(town, what), slow.town(town, what));
                    break;
                default:
                    same("person " + one + " " + what, fast.person(one, what), slow.person(one, what));
                    break;
            }
        }
    }
}
