/** Promises 10 to 14: go, die, year, rumour, undo. */
public final class ActsTest {
    public static void main(String[] args) {
        Due due = new Due("ActsTest");
        go(due);
        goHome(due);
        die(due);
        hears(due);
        year(due);
        rumour(due);
        rumourRefused(due);
        undo(due);
        undoSixteen(due);
        due.end();
    }

    private static void go(Due due) {
        CountedMissing x = Due.of("Z03P0a1P0b9A01A10");
        due.due("to where it is", x.go(0, 0), CountedMissing.LATE);
        due.due("no such person", x.go(2, 0), CountedMissing.UNKNOWN);
        due.due("person below 0", x.go(-1, 0), CountedMissing.UNKNOWN);
        due.due("no such town", x.go(0, 3), CountedMissing.UNKNOWN);
        due.due("town below 0", x.go(0, -1), CountedMissing.UNKNOWN);
        due.due("no ACT yet", x.about(7), 0);
        x.year();
        x.year();
        due.due("goes", x.go(1, 2), 0);
        due.due("where", x.person(1, 3), 2);
        due.due("since", x.person(1, 4), 2);
        due.due("an ACT", x.about(7), 3);
        due.due("missed", x.person(0, 7), 2);
        due.due("there already", x.go(1, 2), CountedMissing.LATE);
        x.year();
        due.due("still missed", x.person(0, 7), 2);
        x.year();
        due.due("memory ends", x.person(0, 7), 0);
        due.due("missing all the same", x.town(0, 4), 2);
        due.due("goes on", x.go(1, 1), 2);
        due.due("missed anew", x.person(0, 7), 2);
        due.due("one away misses nobody", x.person(1, 7), 0);
        x.die(1);
        due.due("dead", x.go(1, 0), CountedMissing.LATE);
        due.due("UNKNOWN ahead of LATE", x.go(1, 3), CountedMissing.UNKNOWN);
    }

    private static void goHome(Due due) {
        CountedMissing x = Due.of("Z02P1a9P1b9A01");
        x.go(1, 0);
        x.year();
        due.due("HOME", x.go(1, 1), 0);
        due.due("since", x.person(1, 4), 1);
        due.due("nobody is missing", x.town(1, 4), 0);
        due.due("nobody is missed", x.about(5), 0);
        due.due("truly", x.town(1, 1), 2);
        due.due("out again", x.go(1, 0), 1);
        due.due("missed again", x.about(5), 2);
    }

    private static void die(Due due) {
        CountedMissing x = Due.of("Z04P0a9P0b9P3c9P3c9A01A10A23A32");
        due.due("no such person", x.die(4), CountedMissing.UNKNOWN);
        due.due("person below 0", x.die(-1), CountedMissing.UNKNOWN);
        x.year();
        x.go(3, 0);
        due.due("truly 0", x.town(0, 1), 3);
        due.due("at HOME", x.die(0), 1);
        due.due("not missing", x.town(0, 4), 0);
        due.due("not missed", x.person(1, 7), 0);
        due.due("it is there no more", x.town(0, 1), 2);
        due.due("where it died", x.person(0, 3), 0);
        due.due("since when it was there", x.person(0, 4), 0);
        due.due("when it died", x.person(0, 5), 1);
        due.due("alive", x.about(4), 14);
        due.due("far off", x.die(3), 4);
        due.due("dead", x.die(3), CountedMissing.LATE);
        due.due("missed for long", x.person(2, 7), 8);
        due.due("its HOME all the same", x.town(3, 3), 12);
        due.due("two less", x.town(0, 1), 1);
        due.due("three ACTS and a year", x.about(7), 4);
    }

    /** A HOME hears as many years later as it is away, whichever of the two has the greater number. */
    private static void hears(Due due) {
        for (int home = 0; home < 4; home++) {
            for (int where = 0; where < 4; where++) {
                String text = "Z04P0a9P0b9A01".replace("P0", "P" + home);
                CountedMissing x = Due.of(text);
                x.go(1, where);
                x.year();
                int far = Math.abs(home - where);
                due.due("HEARS of " + where + " in " + home, x.die(1), 1 + far);
                for (int year = 1; year <= 5; year++) {
                    int missed = year < 1 + far ? 2 : 0;
                    due.due("missed in " + year, x.person(0, 7), missed);
                    due.due("missing in " + year, x.town(home, 4), missed);
                    due.due("forgotten in " + year, x.forgotten(1), Math.max(year, 1 + far));
                    x.year();
                }
            }
        }
    }

    private static void year(Due due) {
        CountedMissing x = Due.of("Z02P0a0");
        x.rumour(0, 3);
        x.rumour(1, 4);
        due.due("year", x.year(), 1);
        due.due("no RUMOURS in 0", x.town(0, 2), 0);
        due.due("no RUMOURS in 1", x.town(1, 2), 0);
        due.due("next", x.year(), 2);
        due.due("about", x.about(3), 2);
        due.due("ACTS", x.about(7), 4);
        due.due("undone", x.undo(), 3);
        due.due("year 1", x.about(3), 1);
        due.due("undone again", x.undo(), 2);
        due.due("RUMOURS are back in 0", x.town(0, 2), 3);
        due.due("RUMOURS are back in 1", x.town(1, 2), 4);
    }

    private static void rumour(Due due) {
        CountedMissing x = Due.of("Z04");
        due.due("one", x.rumour(3, 1), 1);
        due.due("nine", x.rumour(3, 9), 10);
        due.due("elsewhere", x.rumour(0, 5), 5);
        due.due("counted", x.town(3, 0), 10);
        due.due("not elsewhere", x.town(1, 0), 0);
        due.due("not by the missed", x.about(5), 0);
        for (int k = 2; k <= 10; k++) {
            due.due("nine more", x.rumour(3, 9), 1 + 9 * k);
        }
        due.due("100", x.rumour(3, 9), CountedMissing.FULL);
        due.due("99", x.rumour(3, 8), 99);
        due.due("another town is not full", x.rumour(0, 9), 14);
    }

    private static void rumourRefused(Due due) {
        CountedMissing x = Due.of("Z02");
        due.due("no such town", x.rumour(2, 1), CountedMissing.UNKNOWN);
        due.due("town below 0", x.rumour(-1, 1), CountedMissing.UNKNOWN);
        due.due("none", x.rumour(0, 0), CountedMissing.BAD);
        due.due("below none", x.rumour(0, -1), CountedMissing.BAD);
        due.due("ten", x.rumour(0, 10), CountedMissing.BAD);
        due.due("very many", x.rumour(0, Integer.MAX_VALUE), CountedMissing.BAD);
        due.due("UNKNOWN ahead of BAD", x.rumour(2, 0), CountedMissing.UNKNOWN);
        for (int k = 1; k <= 11; k++) {
            x.rumour(1, 9);
        }
        due.due("FULL", x.rumour(1, 1), CountedMissing.FULL);
        due.due("BAD ahead of FULL", x.rumour(1, 10), CountedMissing.BAD);
        due.due("ACTS", x.about(7), 11);
        due.due("still 99", x.town(1, 2), 99);
    }

    private static void undo(Due due) {
        CountedMissing x = Due.of("Z03P0a9P0b9A01");
        due.due("nothing yet", x.undo(), CountedMissing.LATE);
        x.year();
        x.go(1, 2);
        x.law(1);
        x.year();
        x.die(1);
        x.rumour(1, 3);
        x.wipe();
        due.due("the RUMOUR", x.undo(), 4);
        due.due("no RUMOUR", x.town(1, 2), 0);
        due.due("dead still", x.person(1, 5), 2);
        due.due("the death", x.undo(), 3);
        due.due("alive", x.person(1, 5), CountedMissing.NONE);
        due.due("the year", x.undo(), 2);
        due.due("year", x.about(3), 1);
        due.due("the way", x.undo(), 1);
        due.due("where", x.person(1, 3), 0);
        due.due("since", x.person(1, 4), 0);
        due.due("another ACT", x.go(0, 1), 0);
        due.due("two ACTS", x.about(7), 2);
        due.due("undone", x.undo(), 1);
        due.due("the first year", x.undo(), 0);
        due.due("none left", x.undo(), CountedMissing.LATE);
        due.due("the LAW stays", x.about(2), 1);
        due.due("THE TEXT stays wiped", x.about(8), 0);
    }

    private static void undoSixteen(Due due) {
        CountedMissing x = Due.of("Z02P0a9");
        for (int k = 0; k < 40; k++) {
            if (k % 2 == 0) {
                x.year();
            } else {
                x.go(0, k / 2 % 2 == 0 ? 1 : 0);
            }
            due.due("ACTS after " + k, x.about(7), Math.min(k + 1, 16));
        }
        for (int left = 15; left >= 0; left--) {
            due.due("left", x.undo(), left);
        }
        due.due("no more", x.undo(), CountedMissing.LATE);
        due.due("the year after 24 ACTS", x.about(3), 12);
        due.due("where after 24 ACTS", x.person(0, 3), 0);
        due.due("since after 24 ACTS", x.person(0, 4), 12);
        due.due("goes on", x.year(), 13);
        due.due("one ACT", x.about(7), 1);
    }
}
