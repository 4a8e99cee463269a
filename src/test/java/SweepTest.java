/** All arguments of every question, from below the first to above the last, answered as SlowMissing answers them. */
public final class SweepTest {
    private static final int GO = 0, DIE = 1, YEARS = 2, RUMOURS = 3;
    /** An object is good for 512 calls; some are needed to bring it where it is asked. */
    private static final int MOST_CALLS = 450;

    private final Due due;
    private final String text;
    private final int[][] acts;
    private CountedMissing fast;
    private SlowMissing slow;
    private int calls = MOST_CALLS;

    private SweepTest(Due due, String text, int[]... acts) {
        this.due = due;
        this.text = text;
        this.acts = acts;
    }

    public static void main(String[] args) {
        Due due = new Due("SweepTest");
        new SweepTest(due, "Z01").sweep();
        new SweepTest(due, "Z04P3a0", new int[] {GO, 0, 0}, new int[] {DIE, 0, 0}, new int[] {YEARS, 2, 0}).sweep();
        new SweepTest(due, "Z02P0a2P0b0P1a1P0b3P1c9A01A03A10A24A42A13A31A02", new int[] {GO, 1, 1},
                new int[] {YEARS, 1, 0}, new int[] {GO, 3, 1}, new int[] {GO, 4, 0}, new int[] {RUMOURS, 0, 3}).sweep();
        new SweepTest(due, "Z13P2a1P2b2P2c0P2a9P2d1P2b5A01A02A03A14A13A25A32A34A35A50A51A54", new int[] {GO, 2, 0},
                new int[] {GO, 4, 1}, new int[] {DIE, 2, 0}, new int[] {YEARS, 1, 0}, new int[] {GO, 5, 0},
                new int[] {RUMOURS, 2, 7}).sweep();
        new SweepTest(due, "Z24P1a9P1b8P1c7P1d6P1e5P1f4P1a3P1b2A07A06A05A17A16A24A34A47A56A60A70A71",
                new int[] {GO, 7, 3}, new int[] {GO, 6, 0}, new int[] {GO, 5, 2}, new int[] {DIE, 7, 0},
                new int[] {YEARS, 1, 0}, new int[] {RUMOURS, 1, 9}).sweep();
        new SweepTest(due, "Z23P0a9P0b9P0a9P0b9P0c9P1c9P1d9P0d0A04A14A24A34A42A56A65A73", new int[] {YEARS, 7, 0},
                new int[] {GO, 4, 1}, new int[] {GO, 2, 2}, new int[] {GO, 6, 2}, new int[] {DIE, 3, 0},
                new int[] {RUMOURS, 1, 1}).sweep();
        due.end();
    }

    private void sweep() {
        views();
        lies();
        spans();
        retold();
        chances();
    }

    private void same(String call, long got, long want) {
        due.due(text + ": " + call, got, want);
        calls++;
    }

    /** Ahead of each question: a new object, where the one at hand has been called often. */
    private void ready() {
        if (calls < MOST_CALLS) {
            return;
        }
        fast = Due.of(text);
        slow = new SlowMissing();
        for (int k = 0; k < text.length(); k++) {
            slow.write(1, text.charAt(k));
        }
        slow.census();
        calls = 0;
        for (int[] act : acts) {
            bring(act);
        }
    }

    private void bring(int[] act) {
        if (act[0] == GO) {
            same("go", fast.go(act[1], act[2]), slow.go(act[1], act[2]));
        } else if (act[0] == DIE) {
            same("die", fast.die(act[1]), slow.die(act[1]));
        } else if (act[0] == RUMOURS) {
            same("rumour", fast.rumour(act[1], act[2]), slow.rumour(act[1], act[2]));
        } else {
            for (int k = 0; k < act[1]; k++) {
                same("year", fast.year(), slow.year());
            }
        }
    }

    private void views() {
        for (int what = -1; what <= 9; what++) {
            for (int one = -1; one <= 9; one++) {
                ready();
                same("about " + what, fast.about(what), slow.about(what));
                same("person " + one + " " + what, fast.person(one, what), slow.person(one, what));
                same("town " + one + " " + what, fast.town(one, what), slow.town(one, what));
                same("forgotten " + one, fast.forgotten(one), slow.forgotten(one));
            }
        }
    }

    private void lies() {
        for (int town = -1; town <= 4; town++) {
            for (int m = -1; m <= 101; m += m == 20 ? 75 : 1) {
                ready();
                same("lie " + town + " " + m, fast.lie(town, m), slow.lie(town, m));
                same("leave " + town + " " + m, fast.leave(town, m), slow.leave(town, m));
            }
        }
    }

    private void spans() {
        for (int town = -1; town <= 4; town++) {
            for (int c = -1; c <= 101; c += c == 14 ? 84 : 1) {
                ready();
                same("toAsk " + town + " " + c, fast.toAsk(town, c), slow.toAsk(town, c));
                for (int what = -1; what <= 3; what++) {
                    same("spans " + town + " " + c + " " + what, fast.spans(town, c, what), slow.spans(town, c, what));
                }
            }
        }
    }

    private void retold() {
        for (int town = -1; town <= 4; town++) {
            for (int n = 0; n <= 4; n++) {
                // The slow reading goes through all ways: of three figures not all are asked.
                for (int told = -1; told <= 1001; told += told == 123 ? 873 : 1) {
                    for (int what = -1; what <= 2; what++) {
                        ready();
                        same("retold " + town + " " + n + " " + told + " " + what,
                                fast.retold(town, n, told, what), slow.retold(town, n, told, what));
                    }
                }
            }
        }
    }

    private void chances() {
        for (int town = -1; town <= 4; town++) {
            for (int c = -1; c <= 101; c += c == 13 ? 85 : 1) {
                for (int x = -1; x <= 11; x++) {
                    ready();
                    same("chance " + town + " " + c + " " + x + ", above",
                            fast.chance(town, c, x, true), slow.chance(town, c, x, true));
                    same("chance " + town + " " + c + " " + x + ", below",
                            fast.chance(town, c, x, false), slow.chance(town, c, x, false));
                }
            }
        }
    }
}
