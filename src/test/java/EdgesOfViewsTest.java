/** The edges of promises 6 to 9: about, person, town, law, and of what they tell; sentence by sentence. */
public final class EdgesOfViewsTest {
    private static final int UNKNOWN = -1, BAD = -2, LATE = -3, NONE = -9;
    private static final int[] BELOW = {Integer.MIN_VALUE, -256, -9, -2, -1};

    private static final String EIGHT = "Z04P0a0P1b1P2c2P3d3P0e4P1f5P2a6P3b9";
    private static final String TWELVE_PAIRS = "A01A02A03A04A05A06A07A70A71A72A73A74";

    public static void main(String[] args) {
        Due due = new Due("EdgesOfViewsTest");
        aboutWhat(due);
        aboutNumbers(due);
        aboutBits(due);
        personThereIs(due);
        personNumbers(due);
        personDied(due);
        townThereIs(due);
        townTruly(due);
        townOfNobody(due);
        missing(due);
        misses(due);
        remembers(due);
        counts(due);
        countsWithRumours(due);
        law(due);
        due.end();
    }

    /** The whats above the last one, with those that a byte or a bit would take for a good one. */
    private static int[] above(int most) {
        return new int[] {most + 1, most + 2, 32, 256, 256 + most, Integer.MAX_VALUE};
    }

    private static void aboutWhat(Due due) {
        due.sentence("bytes of THE TEXT (8). BAD.");
        CountedMissing x = Due.of(EIGHT + TWELVE_PAIRS);
        for (int what : BELOW) {
            due.due("about " + what, x.about(what), BAD);
        }
        for (int what : above(8)) {
            due.due("about " + what, x.about(what), BAD);
        }
        due.due("about 0", x.about(0), 4);
        due.due("about 8", x.about(8), 71);
    }

    private static void aboutNumbers(Due due) {
        due.sentence("TOWNS (what = 0), PEOPLE (1), LAW (2), THE YEAR (3)");
        for (int towns = 1; towns <= 4; towns++) {
            due.due("TOWNS", Due.of("Z0" + towns).about(0), towns);
        }
        due.due("PEOPLE", Due.of("Z01").about(1), 0);
        due.due("8 PEOPLE", Due.of(EIGHT).about(1), 8);
        for (int law = 0; law <= 2; law++) {
            due.due("LAW", Due.of("Z" + law + "1").about(2), law);
        }
        CountedMissing x = Due.of(EIGHT + TWELVE_PAIRS);
        for (int year = 0; year < 200; year++) {
            due.due("THE YEAR", x.about(3), year);
            x.year();
        }
        due.sentence("pairs that ASK (6), ACTS (7), bytes of THE TEXT (8)");
        due.due("12 pairs", x.about(6), 12);
        due.due("16 ACTS", x.about(7), 16);
        due.due("no pairs", Due.of(EIGHT).about(6), 0);
        due.due("no ACTS", Due.of(EIGHT).about(7), 0);
        x.wipe();
        due.due("no bytes", x.about(8), 0);
        for (int k = 0; k < 10; k++) {
            x.write(8, 0);
        }
        due.due("80 bytes", x.about(8), 80);
    }

    private static void aboutBits(Due due) {
        due.sentence("who is alive (4: bits), who is MISSED by somebody (5: bits)");
        CountedMissing x = Due.of(EIGHT);
        for (int i = 7; i >= 0; i--) {
            due.due("alive", x.about(4), (2 << i) - 1);
            x.die(i);
        }
        due.due("nobody alive", x.about(4), 0);
        x = Due.of("Z02P0a9P0b9P0c9P0d9P0e9P0f9P0a9P0b9A10A67A76");
        due.due("nobody MISSED", x.about(5), 0);
        x.go(0, 1);
        due.due("the first MISSED", x.about(5), 1);
        x.go(7, 1);
        due.due("and the last", x.about(5), 129);
        x.go(6, 1);
        due.due("none there who MISSES it", x.about(5), 1);
    }

    private static void personThereIs(Due due) {
        due.sentence("UNKNOWN -1 (there is no such PERSON, TOWN, SLOT)");
        for (int people = 0; people <= 8; people++) {
            CountedMissing x = Due.of(EIGHT.substring(0, 3 + 4 * people));
            for (int person : BELOW) {
                due.due("person " + person + " of " + people, x.person(person, 0), UNKNOWN);
            }
            for (int person : above(people - 1)) {
                due.due("person " + person + " of " + people, x.person(person, 0), UNKNOWN);
            }
            if (people > 0) {
                due.due("the last of " + people, x.person(people - 1, 0), (people - 1) % 4);
                due.due("the first of " + people, x.person(0, 0), 0);
            }
        }
        due.sentence("whom it MISSES now (7: bits). UNKNOWN; BAD.");
        CountedMissing x = Due.of(EIGHT);
        for (int what : BELOW) {
            due.due("what " + what, x.person(7, what), BAD);
            due.due("UNKNOWN is told first of " + what, x.person(8, what), UNKNOWN);
        }
        for (int what : above(7)) {
            due.due("what " + what, x.person(7, what), BAD);
            due.due("UNKNOWN is told first of " + what, x.person(-1, what), UNKNOWN);
        }
    }

    private static void personNumbers(Due due) {
        due.sentence("Of a PERSON HOME (what = 0), NAME (1: 0 a .. 5 f), how many YEARS it remembers (2)");
        for (int home = 0; home < 4; home++) {
            due.due("HOME", Due.of("Z04P" + home + "a0").person(0, 0), home);
        }
        for (int name = 0; name < 6; name++) {
            due.due("NAME", Due.of("Z01P0" + "abcdef".charAt(name) + "0").person(0, 1), name);
        }
        for (int years = 0; years < 10; years++) {
            due.due("YEARS", Due.of("Z01P0a" + years).person(0, 2), years);
        }
        due.sentence("after whom it ASKS (6: bits), whom it MISSES now (7: bits)");
        CountedMissing x = Due.of("Z02P0a9P0a9P0a9P0a9P0a9P0a9P0a9P0a9A01A02A03A04A05A06A07A70A71A10");
        due.due("the first ASKS after all others", x.person(0, 6), 254);
        due.due("the last after two", x.person(7, 6), 3);
        due.due("nobody", x.person(6, 6), 0);
        due.due("MISSES nobody", x.person(0, 7), 0);
        for (int i = 1; i < 8; i++) {
            x.go(i, 1);
            due.due("MISSES " + i + " too", x.person(0, 7), (2 << i) - 2);
        }
        due.due("ASKS as ever", x.person(0, 6), 254);
        due.due("one away MISSES nobody", x.person(7, 7), 0);
    }

    private static void personDied(Due due) {
        due.sentence("where it is, or was when it died (3), since which YEAR it is there (4)");
        CountedMissing x = Due.of("Z04P0a0P3b0");
        due.due("not dead", x.person(0, 5), NONE);
        x.die(0);
        due.due("dead in THE YEAR 0", x.person(0, 5), 0);
        due.due("where, at HOME", x.person(0, 3), 0);
        due.due("the other is not dead", x.person(1, 5), NONE);
        x.year();
        x.go(1, 1);
        Due.years(x, 2);
        x.die(1);
        x.year();
        due.due("where it was when it died", x.person(1, 3), 1);
        due.due("since it went there", x.person(1, 4), 1);
        due.sentence("in which YEAR it died (5; NONE)");
        due.due("when it died", x.person(1, 5), 3);
    }

    private static void townThereIs(Due due) {
        due.sentence("UNKNOWN -1 (there is no such PERSON, TOWN, SLOT)");
        for (int towns = 1; towns <= 4; towns++) {
            CountedMissing x = Due.of("Z0" + towns);
            for (int town : BELOW) {
                due.due("town " + town + " of " + towns, x.town(town, 0), UNKNOWN);
            }
            for (int town : above(towns - 1)) {
                due.due("town " + town + " of " + towns, x.town(town, 0), UNKNOWN);
            }
            due.due("the last of " + towns, x.town(towns - 1, 0), 0);
        }
        due.sentence("MISSED (5: bits). UNKNOWN; BAD.");
        CountedMissing x = Due.of("Z04");
        for (int what : BELOW) {
            due.due("what " + what, x.town(3, what), BAD);
            due.due("UNKNOWN is told first of " + what, x.town(4, what), UNKNOWN);
        }
        for (int what : above(5)) {
            due.due("what " + what, x.town(3, what), BAD);
            due.due("UNKNOWN is told first of " + what, x.town(-1, what), UNKNOWN);
        }
    }

    private static void townTruly(Due due) {
        due.sentence("TRULY there are those that are alive and in that TOWN, wherever their HOME is.");
        CountedMissing x = Due.of("Z03P0a0P0b0P0c0P0d0P1e0P1f0P1a0P2b0");
        // A PERSON and where it goes; NONE: it dies.
        int[][] acts = {{0, 1}, {4, 0}, {7, 0}, {5, NONE}, {7, NONE}, {0, 0}, {0, 2}, {4, 2}};
        int[] zero = {3, 4, 5, 5, 4, 5, 4, 3};
        int[] one = {4, 3, 3, 2, 2, 1, 1, 1};
        int[] two = {1, 1, 0, 0, 0, 0, 1, 2};
        for (int k = 0; k < acts.length; k++) {
            if (acts[k][1] == NONE) {
                x.die(acts[k][0]);
            } else {
                x.go(acts[k][0], acts[k][1]);
            }
            due.due("in 0 after " + k, x.town(0, 1), zero[k]);
            due.due("in 1 after " + k, x.town(1, 1), one[k]);
            due.due("in 2 after " + k, x.town(2, 1), two[k]);
        }
    }

    private static void townOfNobody(Due due) {
        due.sentence("whose HOME it is (3: bits), who of these is MISSING (4: bits), MISSED (5: bits)");
        CountedMissing x = Due.of("Z04P1a9P1b9P1c9P1d9P1e9P1f9P1a9P1b9A10A67");
        for (int i = 0; i < 8; i++) {
            if (i != 1 && i != 6) {
                x.go(i, 3);
            }
        }
        for (int what = 3; what <= 5; what++) {
            due.due("a TOWN that is nobody's HOME", x.town(0, what), 0);
            due.due("a TOWN where others are", x.town(3, what), 0);
        }
        due.due("HOME of all", x.town(1, 3), 255);
        due.due("MISSING", x.town(1, 4), 255 - 66);
        due.due("MISSED", x.town(1, 5), 129);
    }

    private static void missing(Due due) {
        due.sentence("if it is not there (elsewhere, or dead), and the HOME did not HEAR that it died");
        CountedMissing x = Due.of("Z04P2a9P2b9P2c9P2d9");
        due.due("all are there", x.town(2, 4), 0);
        x.go(0, 0);
        x.go(1, 3);
        due.due("elsewhere", x.town(2, 4), 3);
        x.die(2);
        due.due("dead at HOME: it HEARS at once", x.town(2, 4), 3);
        x.die(1);
        due.due("dead one TOWN away", x.town(2, 4), 3);
        x.die(0);
        due.due("dead two TOWNS away", x.town(2, 4), 3);
        due.due("not MISSING elsewhere", x.town(3, 4) + x.town(0, 4), 0);
        x.year();
        due.due("it HEARD of the nearer", x.town(2, 4), 1);
        x.year();
        due.due("from that YEAR on", x.town(2, 4), 0);
        x.year();
        due.due("and ever after", x.town(2, 4), 0);
    }

    private static void misses(Due due) {
        due.sentence("i MISSES j, if i ASKS after j, both have one HOME, i is alive and there, j is MISSING there");
        CountedMissing x = Due.of("Z03P0a9P0b9P0c9P1d9A01A03A30A13");
        due.due("nobody MISSING", x.person(0, 7), 0);
        x.go(1, 1);
        due.due("who ASKS", x.person(0, 7), 2);
        due.due("who does not ask", x.person(2, 7), 0);
        due.due("one in that TOWN, of another HOME", x.person(3, 7), 0);
        x.go(3, 2);
        due.due("not one of another HOME", x.person(0, 7), 2);
        x.go(3, 0);
        due.due("one of another HOME there", x.person(3, 7), 0);
        x.go(0, 2);
        due.due("not there", x.person(0, 7), 0);
        due.due("another HOME asks after it", x.about(5), 0);
        x.go(0, 0);
        due.due("there again", x.person(0, 7), 2);
        x.die(0);
        due.due("dead at HOME", x.person(0, 7), 0);
        due.due("MISSED by nobody", x.town(0, 5), 0);
        due.due("MISSING all the same", x.town(0, 4), 2);
    }

    private static void remembers(Due due) {
        due.sentence("is where it is (or was when it died) since no more YEARS ago than i remembers");
        for (int years = 0; years <= 9; years++) {
            CountedMissing x = Due.of("Z04P0a" + years + "P0b0A01");
            Due.years(x, 2);
            x.go(1, 3);
            for (int ago = 0; ago <= 11; ago++) {
                int want = ago <= years ? 2 : 0;
                due.due(ago + " YEARS ago, remembered for " + years, x.person(0, 7), want);
                due.due("MISSED", x.town(0, 5), want);
                due.due("COUNT", x.town(0, 0), want / 2);
                due.due("MISSING", x.town(0, 4), 2);
                x.year();
            }
            x.go(1, 2);
            due.due("in another TOWN, remembered anew", x.person(0, 7), 2);
        }
        CountedMissing x = Due.of("Z04P0a1P0b0A01");
        x.go(1, 3);
        x.year();
        x.die(1);
        due.due("dead, since a YEAR ago", x.person(0, 7), 2);
        x.year();
        due.due("dead a YEAR ago, there since two", x.person(0, 7), 0);
        due.due("not HEARD yet", x.town(0, 4), 2);
    }

    private static void count(Due due, CountedMissing x, String when, int pairs, int missed, int names) {
        int[] want = {pairs, missed, names};
        for (int law = 2; law >= 0; law--) {
            x.law(law);
            due.due(when + ", by LAW " + law, x.town(0, 0), want[law]);
        }
    }

    private static void counts(Due due) {
        due.sentence("by LAW 0 how many pairs there are of one that MISSES and one that is MISSED, whose HOME that is");
        CountedMissing x = Due.of("Z02P0a9P0b9P0c9P0c9P0a9P1a9A02A12A03A13A04A10A05A50");
        count(due, x, "nobody MISSING", 0, 0, 0);
        x.go(2, 1);
        due.sentence("by LAW 1 how many are MISSED; by LAW 2 how many NAMES they have");
        count(due, x, "one MISSED by two", 2, 1, 1);
        x.go(3, 1);
        count(due, x, "another of that NAME", 4, 2, 1);
        x.go(4, 1);
        count(due, x, "and one of another", 5, 3, 2);
        x.go(0, 1);
        count(due, x, "one more MISSED, one less that MISSES", 3, 3, 2);
        x.go(1, 1);
        count(due, x, "nobody there", 0, 0, 0);
        x = Due.of("Z02P0a9P0b9P0c9P0d9P0e9P0f9P0a9P0b9A01A02A03A04A05A06A07A76A75A74A73A72");
        for (int i = 1; i < 7; i++) {
            x.go(i, 1);
        }
        count(due, x, "six NAMES of six", 11, 6, 6);
        x.go(7, 1);
        count(due, x, "six NAMES of seven", 7, 7, 6);
    }

    private static void countsWithRumours(Due due) {
        due.sentence("and RUMOURS there");
        CountedMissing x = Due.of("Z02P0a9P0b9P0c9P0d9P0e9P0f9P0a9P0b9A01A02A03A04A05A06A07A76A75A74A73A72");
        Due.rumours(x, 0, 99);
        count(due, x, "RUMOURS alone", 99, 99, 99);
        for (int i = 1; i < 7; i++) {
            x.go(i, 1);
        }
        count(due, x, "more than 99", 110, 105, 105);
        due.due("elsewhere", x.town(1, 0), 0);
        x.rumour(1, 3);
        due.due("RUMOURS elsewhere", x.town(1, 0), 3);
        count(due, x, "not these", 110, 105, 105);
        due.due("nobody is MISSED by RUMOURS", x.town(1, 5), 0);
    }

    private static void law(Due due) {
        due.sentence("LAW is another one: what it was. BAD.");
        for (int was = 0; was <= 2; was++) {
            for (int law = 0; law <= 2; law++) {
                CountedMissing x = Due.of("Z" + was + "1");
                due.due("law " + law, x.law(law), was);
                due.due("LAW", x.about(2), law);
                due.due("no ACT", x.undo(), LATE);
            }
            CountedMissing x = Due.of("Z" + was + "1");
            for (int law : BELOW) {
                due.due("law " + law, x.law(law), BAD);
            }
            for (int law : above(2)) {
                due.due("law " + law, x.law(law), BAD);
            }
            due.due("LAW is as before", x.about(2), was);
        }
        CountedMissing x = new CountedMissing();
        due.due("of a new object", x.law(2), 0);
        due.due("LAW of a new object", x.about(2), 2);
    }
}
