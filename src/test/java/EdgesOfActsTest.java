/** The edges of promises 10 to 14: go, die, year, rumour, undo; sentence by sentence. */
public final class EdgesOfActsTest {
    private static final int UNKNOWN = -1, BAD = -2, LATE = -3, FULL = -4, NONE = -9;
    private static final int[] FAR_OFF = {Integer.MIN_VALUE, -256, -1, 8, 32, 256, Integer.MAX_VALUE};

    public static void main(String[] args) {
        Due due = new Due("EdgesOfActsTest");
        goUnknown(due);
        goLate(due);
        goSince(due);
        dieRefused(due);
        dieHears(due);
        dieIsThereNoMore(due);
        year(due);
        rumourNumbers(due);
        rumourRefused(due);
        rumourFull(due);
        undoOfEach(due);
        undoNone(due);
        undoOfSixteen(due);
        undoOfMany(due);
        refusedAreNoActs(due);
        whatIsNoAct(due);
        due.end();
    }

    private static void goUnknown(Due due) {
        due.sentence("since when it was where it was. UNKNOWN; LATE: it is dead, or there.");
        CountedMissing x = Due.of("Z03P0a0P2b0");
        for (int far : FAR_OFF) {
            due.due("person " + far, x.go(far, 1), UNKNOWN);
            due.due("town " + far, x.go(0, far), UNKNOWN);
            due.due("both " + far, x.go(far, far), UNKNOWN);
        }
        due.due("the PERSON behind the last", x.go(2, 1), UNKNOWN);
        due.due("the TOWN behind the last", x.go(0, 3), UNKNOWN);
        due.due("the last TOWN", x.go(0, 2), 0);
        due.due("the last PERSON, the first TOWN", x.go(1, 0), 0);
        x.die(0);
        due.due("UNKNOWN is told first of the dead", x.go(0, 3), UNKNOWN);
        due.due("UNKNOWN is told first of the dead, below", x.go(0, -1), UNKNOWN);
    }

    private static void goLate(Due due) {
        due.sentence("One that is alive GOES to another TOWN than where it is (HOME, too)");
        CountedMissing x = Due.of("Z03P1a0");
        due.due("at HOME already", x.go(0, 1), LATE);
        due.due("to another", x.go(0, 2), 0);
        due.due("there already", x.go(0, 2), LATE);
        due.due("HOME", x.go(0, 1), 0);
        due.due("at HOME again", x.go(0, 1), LATE);
        due.due("away", x.go(0, 0), 0);
        x.die(0);
        due.due("dead, where it was", x.go(0, 0), LATE);
        due.due("dead, to its HOME", x.go(0, 1), LATE);
        due.due("dead, to another", x.go(0, 2), LATE);
        due.due("four ACTS alone", x.about(7), 4);
        x.year();
        due.due("dead a YEAR later", x.go(0, 1), LATE);
    }

    private static void goSince(Due due) {
        due.sentence("it is there since THE YEAR");
        CountedMissing x = Due.of("Z03P0a0P0b0");
        due.due("in THE YEAR 0", x.go(0, 1), 0);
        due.due("since 0", x.person(0, 4), 0);
        Due.years(x, 3);
        due.due("since when it was there", x.go(0, 2), 0);
        due.due("where", x.person(0, 3), 2);
        due.due("since 3", x.person(0, 4), 3);
        due.due("again in that YEAR", x.go(0, 1), 3);
        due.due("still since 3", x.person(0, 4), 3);
        x.year();
        due.due("HOME", x.go(0, 0), 3);
        due.due("at HOME since 4", x.person(0, 4), 4);
        due.due("the other is there since 0", x.person(1, 4), 0);
        due.due("where the other is", x.person(1, 3), 0);
        due.due("the other goes", x.go(1, 1), 0);
    }

    private static void dieRefused(Due due) {
        due.sentence("the YEAR in which its HOME HEARS. UNKNOWN; LATE: it is dead.");
        CountedMissing x = Due.of("Z02P0a0P1b0");
        for (int far : FAR_OFF) {
            due.due("person " + far, x.die(far), UNKNOWN);
        }
        due.due("the PERSON behind the last", x.die(2), UNKNOWN);
        due.due("the last PERSON", x.die(1), 0);
        due.due("dead", x.die(1), LATE);
        x.year();
        due.due("dead a YEAR later", x.die(1), LATE);
        due.due("in which YEAR it died", x.person(1, 5), 0);
        due.due("the first PERSON", x.die(0), 1);
    }

    private static void dieHears(Due due) {
        due.sentence("as that TOWN is away from its HOME (TOWN numbers, without sign; at HOME: at once)");
        for (int home = 0; home < 4; home++) {
            for (int where = 0; where < 4; where++) {
                CountedMissing x = Due.of("Z04P" + home + "a9P" + home + "b9A01");
                x.go(1, where);
                Due.years(x, 2);
                int heard = 2 + (where > home ? where - home : home - where);
                due.due(home + " HEARS of " + where, x.die(1), heard);
                for (int year = 2; year <= 6; year++) {
                    int missing = year < heard ? 2 : 0;
                    due.due("MISSING in " + year, x.town(home, 4), missing);
                    due.due("MISSED in " + year, x.person(0, 7), missing);
                    x.year();
                }
            }
        }
    }

    private static void dieIsThereNoMore(Due due) {
        due.sentence("One that is alive DIES where it is: it is there no more");
        CountedMissing x = Due.of("Z03P0a9P0b9P0c9A01A10");
        x.year();
        x.go(1, 2);
        x.year();
        due.due("truly there", x.town(2, 1), 1);
        due.due("dies", x.die(1), 4);
        due.due("truly there no more", x.town(2, 1), 0);
        due.due("nor at HOME", x.town(0, 1), 2);
        due.due("not alive", x.about(4), 5);
        due.due("where it was", x.person(1, 3), 2);
        due.due("since when it was there", x.person(1, 4), 1);
        due.due("in which YEAR", x.person(1, 5), 2);
        due.due("its HOME is its HOME", x.town(0, 3), 7);
        due.due("dies at HOME", x.die(0), 2);
        due.due("at HOME no more", x.town(0, 1), 1);
        due.due("MISSES nobody", x.person(0, 7), 0);
    }

    private static void year(Due due) {
        due.sentence("A YEAR goes by: THE YEAR is one more, and there are no RUMOURS.");
        CountedMissing x = Due.of("Z04P0a9P0b9A01");
        x.go(1, 3);
        Due.rumours(x, 0, 99);
        for (int town = 1; town < 4; town++) {
            x.rumour(town, town);
        }
        due.due("year", x.year(), 1);
        due.due("THE YEAR", x.about(3), 1);
        for (int town = 0; town < 4; town++) {
            due.due("RUMOURS in " + town, x.town(town, 2), 0);
        }
        due.due("COUNT without RUMOURS", x.town(0, 0), 1);
        due.due("RUMOURS anew", x.rumour(0, 9), 9);
        due.due("where", x.person(1, 3), 3);
        due.due("since", x.person(1, 4), 0);
        due.due("LAW", x.about(2), 0);
        due.sentence("A YEAR goes by: THE YEAR.");
        for (int year = 2; year <= 300; year++) {
            due.due("year", x.year(), year);
        }
        due.due("16 ACTS", x.about(7), 16);
    }

    private static void rumourNumbers(Due due) {
        due.sentence("A RUMOUR in a TOWN: n more (1 .. 9) in this YEAR");
        for (int n = 1; n <= 9; n++) {
            CountedMissing x = Due.of("Z04");
            due.due("n " + n, x.rumour(3, n), n);
            due.due("RUMOURS", x.town(3, 2), n);
            due.due("n more", x.rumour(3, n), 2 * n);
            due.due("not elsewhere", x.town(2, 2) + x.town(1, 2) + x.town(0, 2), 0);
            due.due("two ACTS", x.about(7), 2);
        }
        for (int n : new int[] {Integer.MIN_VALUE, -9, -1, 0, 10, 11, 256 + 5, Integer.MAX_VALUE}) {
            CountedMissing x = Due.of("Z04");
            x.rumour(0, 9);
            due.due("n " + n, x.rumour(0, n), BAD);
            due.due("RUMOURS as before", x.town(0, 2), 9);
            due.due("ACTS as before", x.about(7), 1);
        }
    }

    private static void rumourRefused(Due due) {
        due.sentence("UNKNOWN; BAD: n; FULL: more than 99.");
        CountedMissing x = Due.of("Z03");
        for (int far : FAR_OFF) {
            due.due("town " + far, x.rumour(far, 1), UNKNOWN);
            due.due("UNKNOWN is told first of " + far, x.rumour(far, 0), UNKNOWN);
        }
        due.due("the TOWN behind the last", x.rumour(3, 1), UNKNOWN);
        due.due("the last TOWN", x.rumour(2, 1), 1);
        Due.rumours(x, 0, 99);
        due.due("FULL", x.rumour(0, 1), FULL);
        due.due("BAD is told first: 0", x.rumour(0, 0), BAD);
        due.due("BAD is told first: 10", x.rumour(0, 10), BAD);
    }

    private static void rumourFull(Due due) {
        due.sentence("99 at most in that TOWN");
        for (int n = 1; n <= 9; n++) {
            CountedMissing x = Due.of("Z02");
            Due.rumours(x, 1, 99 - n);
            due.due("99 by " + n, x.rumour(1, n), 99);
            due.due("one more", x.rumour(1, 1), FULL);
            due.due("still 99", x.town(1, 2), 99);
            x = Due.of("Z02");
            Due.rumours(x, 1, 100 - n);
            due.due("100 by " + n, x.rumour(1, n), FULL);
            due.due("as many as before", x.town(1, 2), 100 - n);
            due.due("the other TOWN", x.rumour(0, n), n);
            x.year();
            due.due("in another YEAR", x.rumour(1, n), n);
        }
    }

    private static void undoOfEach(Due due) {
        due.sentence("ACTS (GOES, DIES, YEARS, RUMOURS) are a row");
        CountedMissing x = Due.of("Z03P0a9P0b9A01");
        x.year();
        x.rumour(0, 4);
        x.go(1, 2);
        x.year();
        x.rumour(0, 5);
        x.die(1);
        due.due("DIES is undone", x.undo(), 5);
        due.due("alive", x.person(1, 5), NONE);
        due.due("truly there again", x.town(2, 1), 1);
        due.due("a RUMOUR is undone", x.undo(), 4);
        due.due("no RUMOURS in this YEAR", x.town(0, 2), 0);
        due.due("a YEAR is undone", x.undo(), 3);
        due.due("THE YEAR", x.about(3), 1);
        due.due("RUMOURS of that YEAR are there again", x.town(0, 2), 4);
        due.due("GOES is undone", x.undo(), 2);
        due.due("where", x.person(1, 3), 0);
        due.due("since", x.person(1, 4), 0);
        due.due("MISSED no more", x.about(5), 0);
        due.due("RUMOURS stay", x.town(0, 2), 4);
        due.due("RUMOUR", x.undo(), 1);
        due.due("no RUMOURS", x.town(0, 2), 0);
        due.due("the first YEAR", x.undo(), 0);
        due.due("THE YEAR 0", x.about(3), 0);
    }

    private static void undoNone(Due due) {
        due.sentence("The last ACT is undone: how many are left. LATE: there is none.");
        CountedMissing x = Due.of("Z02P0a9");
        due.due("none at first", x.undo(), LATE);
        x.go(0, 1);
        due.due("one", x.undo(), 0);
        due.due("none left", x.undo(), LATE);
        due.due("none left still", x.undo(), LATE);
        due.due("no ACTS", x.about(7), 0);
        due.due("an ACT is one", x.year(), 1);
        due.due("ACTS", x.about(7), 1);
        x.go(0, 1);
        x.undo();
        x.rumour(1, 2);
        due.due("what was undone is no ACT", x.about(7), 2);
        due.due("the RUMOUR is undone", x.undo(), 1);
        due.due("the YEAR is undone", x.undo(), 0);
        due.due("where", x.person(0, 3), 0);
    }

    private static void undoOfSixteen(Due due) {
        due.sentence("16 at most; when it is full, the first one is forgotten");
        for (int acts = 15; acts <= 18; acts++) {
            CountedMissing x = Due.of("Z01");
            Due.years(x, acts);
            int most = Math.min(acts, 16);
            due.due("ACTS of " + acts, x.about(7), most);
            for (int left = most - 1; left >= 0; left--) {
                due.due("left of " + acts, x.undo(), left);
                due.due("THE YEAR", x.about(3), acts - most + left);
            }
            due.due("no more of " + acts, x.undo(), LATE);
            due.due("the first ones stand", x.about(3), acts - most);
        }
        CountedMissing x = Due.of("Z02P0a0P0b0");
        x.die(0);
        Due.years(x, 15);
        due.due("16 ACTS", x.about(7), 16);
        x.go(1, 1);
        due.due("16 still", x.about(7), 16);
        for (int k = 0; k < 20; k++) {
            x.undo();
        }
        due.due("the first ACT is forgotten", x.person(0, 5), 0);
        due.due("the last ACT is not", x.person(1, 3), 0);
        due.due("nor the second", x.about(3), 0);
    }

    /** The row goes round often, and goes on behind what was undone. */
    private static void undoOfMany(Due due) {
        due.sentence("the last one can be undone");
        CountedMissing x = Due.of("Z01");
        int year = 0;
        int acts = 0;
        for (int round = 1; round <= 12; round++) {
            for (int k = 0; k < round; k++) {
                due.due("year", x.year(), ++year);
                acts = Math.min(acts + 1, 16);
            }
            for (int k = 0; k < round / 2 && acts > 0; k++) {
                due.due("undo", x.undo(), --acts);
                due.due("THE YEAR", x.about(3), --year);
            }
            due.due("ACTS", x.about(7), acts);
        }
        x = Due.of("Z01");
        Due.years(x, 100);
        for (int left = 15; left >= 0; left--) {
            due.due("left of 100", x.undo(), left);
        }
        due.due("no more of 100", x.undo(), LATE);
        due.due("84 stand", x.about(3), 84);
    }

    private static void refusedAreNoActs(Due due) {
        due.sentence("What is refused changes nothing.");
        CountedMissing x = Due.of("Z02P0a0P0b0");
        x.die(1);
        Due.rumours(x, 0, 99);
        int acts = x.about(7);
        x.go(0, 0);
        x.go(1, 1);
        x.go(2, 0);
        x.go(0, 2);
        x.die(1);
        x.die(2);
        x.rumour(0, 1);
        x.rumour(0, 0);
        x.rumour(2, 1);
        due.due("ACTS", x.about(7), acts);
        due.due("undone", x.undo(), acts - 1);
        due.due("it was the last RUMOUR", x.town(0, 2), 90);
    }

    private static void whatIsNoAct(Due due) {
        due.sentence("ACTS (GOES, DIES, YEARS, RUMOURS) are a row");
        CountedMissing x = Due.of("Z02P0a0P0b0A01");
        x.law(2);
        x.wipe();
        x.write(3, Due.bytes("Z01"));
        x.keep(0);
        x.forgotten(0);
        x.lie(0, 1);
        x.leave(0, 1);
        x.spans(0, 1, 0);
        x.toAsk(0, 1);
        x.retold(0, 1, 1, 0);
        x.chance(0, 1, 5, true);
        due.due("no ACTS", x.about(7), 0);
        due.due("none to undo", x.undo(), LATE);
        x.year();
        x.law(1);
        x.write(1, 'P');
        due.due("the YEAR is undone", x.undo(), 0);
        due.due("LAW stays", x.about(2), 1);
        due.due("THE TEXT stays", x.about(8), 4);
        due.due("what was kept stays", x.again(0), 0);
    }
}
