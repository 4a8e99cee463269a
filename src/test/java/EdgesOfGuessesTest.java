/** The edges of promises 18 to 21: spans, toAsk, retold, chance; sentence by sentence. */
public final class EdgesOfGuessesTest {
    private static final int UNKNOWN = -1, BAD = -2, LATE = -3, NONE = -9;
    private static final int[] FAR_OFF = {Integer.MIN_VALUE, -256, -1, 8, 32, 256, Integer.MAX_VALUE};
    private static final int[] NO_COUNT = {Integer.MIN_VALUE, -100, -1, 100, 101, 256, Integer.MAX_VALUE};
    private static final String ALL_EIGHT = "P0a0P0b0P0c0P0d0P0e0P0f0P0a0P0b0";
    private static final String CHAIN = "A01A12A23A34A45A56A67";

    public static void main(String[] args) {
        Due due = new Due("EdgesOfGuessesTest");
        spansRefused(due);
        spansOfFew(due);
        spansOfMany(due);
        spansSetAside(due);
        othersAside(due);
        toAskRefused(due);
        toAskNone(due);
        toAskLeast(due);
        retoldYears(due);
        retoldFigures(due);
        retoldOthersRefused(due);
        retoldSix(due);
        retoldStays(due);
        retoldRemembers(due);
        retoldSurely(due);
        chanceRefused(due);
        chanceTenths(due);
        chanceLeastTerms(due);
        chanceSetAside(due);
        due.end();
    }

    private static void spansRefused(Due due) {
        due.sentence("NONE (of 1, 2): there is no set. UNKNOWN; BAD: c, what.");
        CountedMissing x = Due.of("Z03P0a0P0b0A01");
        for (int far : FAR_OFF) {
            due.due("town " + far, x.spans(far, 0, 0), UNKNOWN);
            due.due("UNKNOWN is told first of " + far, x.spans(far, -1, 3), UNKNOWN);
            due.due("what " + far, x.spans(0, 0, far), BAD);
            due.due("BAD is told, not NONE", x.spans(0, 99, far), BAD);
        }
        due.due("the TOWN behind the last", x.spans(3, 0, 0), UNKNOWN);
        due.due("the what behind the last", x.spans(0, 0, 3), BAD);
        for (int c : NO_COUNT) {
            for (int what = 0; what <= 2; what++) {
                due.due("c " + c, x.spans(0, c, what), BAD);
            }
        }
        due.due("c 99", x.spans(0, 99, 0), 0);
        due.due("c 99, fewest", x.spans(0, 99, 1), NONE);
        due.due("c 99, most", x.spans(0, 99, 2), NONE);
        due.due("the last TOWN", x.spans(2, 0, 2), 0);
    }

    private static void spans(Due due, CountedMissing x, int c, int sets, int fewest, int most) {
        due.due("sets of " + c, x.spans(0, c, 0), sets);
        due.due("fewest of " + c, x.spans(0, c, 1), fewest);
        due.due("most of " + c, x.spans(0, c, 2), most);
    }

    private static void spansOfFew(Due due) {
        due.sentence("how many sets of those that are away there are by that; the fewest that are there, the most");
        CountedMissing x = Due.of("Z02P1a0");
        spans(due, x, 0, 1, 0, 0);
        spans(due, x, 1, 0, NONE, NONE);
        x = Due.of("Z01P0a0");
        spans(due, x, 0, 2, 0, 1);
        spans(due, x, 1, 0, NONE, NONE);
        x = Due.of("Z01P0a0P0b0A01");
        spans(due, x, 0, 3, 0, 2);
        spans(due, x, 1, 1, 1, 1);
        spans(due, x, 2, 0, NONE, NONE);
        x = Due.of("Z01P0a0P0b0A01A10");
        spans(due, x, 0, 2, 0, 2);
        spans(due, x, 1, 2, 1, 1);
        x = Due.of("Z02P0a0P1b0A01A10");
        spans(due, x, 0, 2, 0, 1);
        spans(due, x, 1, 0, NONE, NONE);
    }

    private static void spansOfMany(Due due) {
        due.sentence("how many sets (what = 0), the fewest that are there (1), the most (2)");
        CountedMissing x = Due.of("Z01" + ALL_EIGHT);
        spans(due, x, 0, 256, 0, 8);
        x = Due.of("Z01" + ALL_EIGHT + "A01A02A03A04A05A06A07");
        spans(due, x, 7, 1, 1, 1);
        spans(due, x, 6, 7, 2, 2);
        spans(due, x, 0, 129, 0, 8);
        x.law(2);
        spans(due, x, 6, 3, 1, 2);
        spans(due, x, 7, 0, NONE, NONE);
        x = Due.of("Z11" + ALL_EIGHT + "A70");
        spans(due, x, 1, 64, 1, 7);
        x = Due.of("Z01P0a0P0a0P0a0P0a0P0a0P0a0P0a0P0a0A04A05A06A07A14A15A16A17A24A25A26A27");
        spans(due, x, 12, 2, 3, 4);
        x.law(1);
        spans(due, x, 4, 14, 1, 4);
        x.law(2);
        spans(due, x, 1, 210, 1, 7);
    }

    private static void spansSetAside(Due due) {
        due.sentence("who is away since THE YEAR (nobody is dead); RUMOURS aside");
        CountedMissing x = Due.of("Z02P0a0P0b0P0c0A01A02");
        Due.years(x, 3);
        x.go(1, 1);
        x.die(0);
        x.die(2);
        x.year();
        x.rumour(0, 9);
        spans(due, x, 2, 1, 1, 1);
        spans(due, x, 1, 2, 2, 2);
        spans(due, x, 0, 5, 0, 3);
        due.due("toAsk", x.toAsk(0, 2), 0);
        due.due("one ASKS after both", x.retold(0, 1, 2, 1), 6);
        due.due("chance", x.chance(0, 2, 5, false), 8);
    }

    /** The first PERSON has another HOME: it ASKS after one of these, and they after it. */
    private static void othersAside(Due due) {
        due.sentence("both have one HOME");
        CountedMissing x = Due.of("Z02P0a0P1b0P1c0A10A20A12A01");
        due.due("sets of 0", x.spans(1, 0, 0), 3);
        due.due("sets of 1", x.spans(1, 1, 0), 1);
        due.due("sets of 2", x.spans(1, 2, 0), 0);
        due.due("most of 0", x.spans(1, 0, 2), 2);
        due.due("toAsk of 0", x.toAsk(1, 0), 1);
        due.due("toAsk of 1", x.toAsk(1, 1), 1);
        due.due("ways of 0", x.retold(1, 1, 0, 0), 3);
        due.due("ways of 1, 0", x.retold(1, 2, 10, 0), 2);
        due.due("surely of 1", x.retold(1, 1, 1, 1), 4);
        due.due("chance of 1", x.chance(1, 1, 1, true), 9);
        due.due("the other HOME", x.spans(0, 0, 0), 2);
    }

    private static void toAskRefused(Due due) {
        due.sentence("TO ASK; NONE. UNKNOWN; BAD: c.");
        CountedMissing x = Due.of("Z03P0a0P0b0A01");
        for (int far : FAR_OFF) {
            due.due("town " + far, x.toAsk(far, 0), UNKNOWN);
            due.due("UNKNOWN is told first of " + far, x.toAsk(far, 100), UNKNOWN);
        }
        due.due("the TOWN behind the last", x.toAsk(3, 0), UNKNOWN);
        for (int c : NO_COUNT) {
            due.due("c " + c, x.toAsk(0, c), BAD);
            due.due("BAD is told, not NONE", x.toAsk(1, c), BAD);
        }
    }

    private static void toAskNone(Due due) {
        due.sentence("NONE: there is no set, or nobody has that HOME.");
        CountedMissing x = Due.of("Z03P0a0P0b0A01");
        due.due("a set", x.toAsk(0, 1), 0);
        due.due("no set", x.toAsk(0, 2), NONE);
        due.due("no set of 99", x.toAsk(0, 99), NONE);
        due.due("nobody has that HOME", x.toAsk(1, 0), NONE);
        due.due("nobody, and no set", x.toAsk(1, 1), NONE);
        due.due("the last TOWN", x.toAsk(2, 0), NONE);
        x = Due.of("Z01P0a0");
        due.due("one alone", x.toAsk(0, 0), 0);
        due.due("one alone, no set", x.toAsk(0, 1), NONE);
    }

    private static void toAskLeast(Due due) {
        due.sentence("and those in which it is not, the fewer are most; of like ones the least");
        CountedMissing x = Due.of("Z01P0a0P0b0A10");
        due.due("one set: none of the two tells more", x.toAsk(0, 1), 0);
        x = Due.of("Z01" + ALL_EIGHT);
        due.due("all alike", x.toAsk(0, 0), 0);
        x = Due.of("Z01" + ALL_EIGHT + "A01A10A02A20");
        due.due("0 is there, or 1 and 2 are", x.toAsk(0, 2), 0);
        x = Due.of("Z01P0a0P0b0P0c0A01");
        due.due("2 halves the sets", x.toAsk(0, 1), 2);
        due.due("2 halves them, too", x.toAsk(0, 0), 2);
        x = Due.of("Z01P0a0P0b0P0c0P0d0A10");
        due.due("2 and 3 halve them: the least", x.toAsk(0, 1), 2);
        x = Due.of("Z01" + ALL_EIGHT + "A01A12A23A34A45A56A60");
        due.due("each halves them", x.toAsk(0, 3), 0);
        x = Due.of("Z02P1a0P0b0P0c0P0d0A10A20A12");
        due.due("none of another HOME", x.toAsk(0, 1), 3);
        due.due("of the other HOME", x.toAsk(1, 0), 0);
    }

    private static void retoldYears(Due due) {
        due.sentence("for each of n YEARS (1 .. 3)");
        CountedMissing x = Due.of("Z01P0a0");
        for (int n = 1; n <= 3; n++) {
            due.due("n " + n, x.retold(0, n, 0, 0), n + 1);
        }
        for (int n : new int[] {Integer.MIN_VALUE, -1, 0, 4, 5, 256 + 1, Integer.MAX_VALUE}) {
            due.due("n " + n, x.retold(0, n, 0, 0), BAD);
            due.due("n " + n + " of surely", x.retold(0, n, 0, 1), BAD);
        }
    }

    private static void retoldFigures(Due due) {
        due.sentence("UNKNOWN; BAD: n, told (0 or more, n figures at most)");
        CountedMissing x = Due.of("Z01P0a0P0b0A01");
        int[][] last = {{1, 9}, {2, 99}, {3, 999}};
        for (int[] row : last) {
            due.due(row[1] + " in " + row[0], x.retold(0, row[0], row[1], 0), 0);
            due.due(row[1] + " in " + row[0] + ", surely", x.retold(0, row[0], row[1], 1), NONE);
            due.due(row[1] + 1 + " in " + row[0], x.retold(0, row[0], row[1] + 1, 0), BAD);
            due.due("-1 in " + row[0], x.retold(0, row[0], -1, 0), BAD);
            due.due("the least", x.retold(0, row[0], Integer.MIN_VALUE, 0), BAD);
            due.due("the greatest", x.retold(0, row[0], Integer.MAX_VALUE, 0), BAD);
        }
        due.sentence("the first YEAR's as the first figure (0s ahead of fewer figures)");
        due.due("1, 0, 0", x.retold(0, 3, 100, 0), 3);
        due.due("0, 1, 0", x.retold(0, 3, 10, 0), 2);
        due.due("0, 0, 1", x.retold(0, 3, 1, 0), 1);
        due.due("1, 0", x.retold(0, 2, 10, 0), 2);
        due.due("0, 1", x.retold(0, 2, 1, 0), 1);
        due.due("0, 0, 0", x.retold(0, 3, 0, 0), 10);
        x = Due.of("Z01P0a9P0b0P0c0A01A02");
        due.due("1, 2", x.retold(0, 2, 12, 0), 2);
        due.due("2, 1", x.retold(0, 2, 21, 0), 0);
        due.due("0, 1, 2", x.retold(0, 3, 12, 0), 2);
        due.due("1, 2, 2", x.retold(0, 3, 122, 0), 2);
        due.due("1, 2, 0", x.retold(0, 3, 120, 0), 2);
    }

    private static void retoldOthersRefused(Due due) {
        due.sentence("n figures at most), what (0, 1); LATE: more than 6 have that HOME.");
        CountedMissing x = Due.of("Z02P0a0P0b0P0c0P0d0P0e0P0f0P0a0P1b0");
        for (int far : FAR_OFF) {
            due.due("town " + far, x.retold(far, 1, 0, 0), UNKNOWN);
            due.due("UNKNOWN is told first of " + far, x.retold(far, 4, -1, 2), UNKNOWN);
            due.due("what " + far, x.retold(1, 1, 0, far), BAD);
            due.due("BAD is told ahead of LATE, what " + far, x.retold(0, 1, 0, far), BAD);
        }
        due.due("the TOWN behind the last", x.retold(2, 1, 0, 0), UNKNOWN);
        due.due("the what behind the last", x.retold(1, 1, 0, 2), BAD);
        due.due("BAD is told ahead of LATE, n", x.retold(0, 0, 0, 0), BAD);
        due.due("BAD is told ahead of LATE, told", x.retold(0, 1, 10, 0), BAD);
        due.due("BAD is told ahead of LATE, told below", x.retold(0, 1, -1, 0), BAD);
        due.due("LATE", x.retold(0, 1, 0, 0), LATE);
        due.due("LATE, where there is no way", x.retold(0, 1, 9, 1), LATE);
    }

    private static void retoldSix(Due due) {
        due.sentence("Asked where 6 at most have that HOME.");
        int[] ways = {1, 2, 4, 8, 16, 32, 64, LATE, LATE};
        for (int people = 0; people <= 8; people++) {
            CountedMissing x = Due.of("Z02" + ALL_EIGHT.substring(0, 4 * people) + "P1a0".repeat(people == 8 ? 0 : 1));
            due.due(people + " of that HOME", x.retold(0, 1, 0, 0), ways[people]);
            due.due(people + " of that HOME, surely", x.retold(0, 1, 0, 1), people > 6 ? LATE : 0);
        }
        CountedMissing x = Due.of("Z02P1a0" + ALL_EIGHT.substring(0, 24) + "P1b0");
        due.due("6 of 8", x.retold(0, 3, 0, 0), 4096);
        due.due("2 of 8", x.retold(1, 3, 0, 0), 16);
        x.die(1);
        x.go(2, 1);
        due.due("the dead and those away have that HOME, too", x.retold(0, 2, 0, 0), 729);
        x = Due.of("Z01" + ALL_EIGHT.substring(0, 24) + "A03A04A05A13A14A15A23A24A25");
        due.due("9 pairs", x.retold(0, 1, 9, 0), 1);
        due.due("9 pairs, surely", x.retold(0, 1, 9, 1), 56);
    }

    private static void retoldStays(Due due) {
        due.sentence("each stays, or goes in one of these YEARS for good");
        CountedMissing x = Due.of("Z01P0a9P0b9A01");
        due.due("it may go in the first YEAR", x.retold(0, 1, 1, 0), 1);
        due.due("it does not come back", x.retold(0, 3, 101, 0), 0);
        due.due("both stay, or who ASKS goes, or both go", x.retold(0, 1, 0, 0), 3);
        due.due("who ASKS goes behind it", x.retold(0, 2, 10, 0), 1);
        due.due("it goes in the last YEAR", x.retold(0, 3, 1, 0), 1);
        x = Due.of("Z01P0a0P0b0P0c0");
        due.due("each by itself", x.retold(0, 3, 0, 0), 64);
        x = Due.of("Z02P0a9P1b9A01A10");
        due.due("none of another HOME", x.retold(0, 1, 0, 0), 2);
        due.due("not counted", x.retold(0, 1, 1, 0), 0);
    }

    private static void retoldRemembers(Due due) {
        due.sentence("since no more YEARS ago than i remembers");
        int[] told = {100, 10, 1, 11, 111};
        int[][] ways = {{3, 2, 1, 0, 0}, {1, 1, 1, 1, 0}, {1, 1, 1, 1, 1}, {1, 1, 1, 1, 1}};
        for (int years = 0; years < ways.length; years++) {
            CountedMissing x = Due.of("Z01P0a" + years + "P0b0A01");
            for (int k = 0; k < told.length; k++) {
                due.due(told[k] + ", remembered for " + years, x.retold(0, 3, told[k], 0), ways[years][k]);
            }
        }
        CountedMissing x = Due.of("Z01P0a1P0b0A01");
        due.due("to the last YEAR in which one is remembered", x.retold(0, 3, 110, 0), 2);
        due.due("not behind it", x.retold(0, 3, 111, 0), 0);
        due.due("who ASKS goes ahead of it", x.retold(0, 3, 100, 0), 1);
        x = Due.of("Z01P0a0P0b0A10");
        due.due("the first PERSON went a YEAR ago", x.retold(0, 2, 10, 0), 2);
        due.due("or goes later", x.retold(0, 2, 1, 0), 1);
    }

    private static void retoldSurely(Due due) {
        due.sentence("in how many ways (what = 0), who surely went (1); NONE (of 1): there is no way.");
        CountedMissing x = Due.of("Z02P1a0P0b0P0c0P0d0A12A13");
        due.due("one of two went", x.retold(0, 1, 1, 0), 2);
        due.due("none surely", x.retold(0, 1, 1, 1), 0);
        due.due("both went", x.retold(0, 1, 2, 0), 1);
        due.due("both surely", x.retold(0, 1, 2, 1), 12);
        due.due("one each YEAR", x.retold(0, 2, 11, 1), 12);
        due.due("no way", x.retold(0, 1, 3, 0), 0);
        due.due("no way, surely", x.retold(0, 1, 3, 1), NONE);
        due.due("nobody has that HOME", Due.of("Z02").retold(1, 1, 0, 1), 0);
        due.due("nobody has that HOME, no way", Due.of("Z02").retold(1, 1, 1, 1), NONE);
    }

    private static void chanceRefused(Due due) {
        due.sentence("CHANCE. UNKNOWN; BAD: c, x.");
        CountedMissing x = Due.of("Z03P0a0P0b0A01");
        for (boolean upper : new boolean[] {true, false}) {
            for (int far : FAR_OFF) {
                due.due("town " + far, x.chance(far, 0, 5, upper), UNKNOWN);
                due.due("UNKNOWN is told first of " + far, x.chance(far, 100, 11, upper), UNKNOWN);
            }
            due.due("the TOWN behind the last", x.chance(3, 0, 5, upper), UNKNOWN);
            for (int c : NO_COUNT) {
                due.due("c " + c, x.chance(0, c, 5, upper), BAD);
            }
            for (int tenths : new int[] {Integer.MIN_VALUE, -10, -1, 11, 12, 256 + 5, Integer.MAX_VALUE}) {
                due.due("x " + tenths, x.chance(0, 1, tenths, upper), BAD);
            }
        }
    }

    private static void chance(Due due, CountedMissing x, int c, int tenths, long above, long below) {
        due.due("above, " + c + " by " + tenths, x.chance(0, c, tenths, true), above);
        due.due("below, " + c + " by " + tenths, x.chance(0, c, tenths, false), below);
    }

    private static void chanceTenths(Due due) {
        due.sentence("each of a HOME is away (since THE YEAR, none dead) by x tenths (0 .. 10)");
        CountedMissing x = Due.of("Z01P0a0P0b0A01");
        long[][] due1 = {{0, 1}, {9, 100}, {4, 25}, {21, 100}, {6, 25}, {1, 4}, {6, 25}, {21, 100}, {4, 25},
            {9, 100}, {0, 1}};
        for (int tenths = 0; tenths <= 10; tenths++) {
            chance(due, x, 0, tenths, 1, 1);
            chance(due, x, 1, tenths, due1[tenths][0], due1[tenths][1]);
            chance(due, x, 2, tenths, 0, 1);
        }
        due.sentence("c (0 .. 99) or more, a FRACTION");
        chance(due, x, 99, 5, 0, 1);
        x = Due.of("Z01P0a0P0b0P0c0A01A02");
        chance(due, x, 1, 5, 3, 8);
        chance(due, x, 2, 5, 1, 8);
        x = Due.of("Z01P0a0P0a0P0a0P0a0P0a0P0a0P0a0P0a0A04A05A06A07A14A15A16A17A24A25A26A27");
        chance(due, x, 12, 5, 1, 128);
        chance(due, x, 13, 5, 0, 1);
    }

    private static void chanceLeastTerms(Due due) {
        due.sentence("FRACTIONS are told above (upper = true), below, in least terms.");
        CountedMissing x = Due.of("Z01" + ALL_EIGHT + CHAIN);
        chance(due, x, 0, 1, 1, 1);
        chance(due, x, 8, 1, 0, 1);
        chance(due, x, 4, 1, 6561, 100000000);
        chance(due, x, 4, 5, 1, 256);
        x = Due.of("Z01P0a0P0b0");
        chance(due, x, 0, 7, 1, 1);
        chance(due, x, 1, 7, 0, 1);
        x = Due.of("Z02P1a0");
        chance(due, x, 0, 0, 1, 1);
        chance(due, x, 1, 10, 0, 1);
    }

    private static void chanceSetAside(Due due) {
        due.sentence("that COUNT (RUMOURS aside) is c");
        CountedMissing x = Due.of("Z02P0a0P0b0P1c0A01");
        Due.years(x, 2);
        x.go(1, 1);
        x.die(0);
        Due.rumours(x, 0, 99);
        chance(due, x, 1, 5, 1, 4);
        chance(due, x, 2, 5, 0, 1);
        chance(due, x, 99, 5, 0, 1);
        x.law(2);
        chance(due, x, 1, 5, 1, 4);
    }
}
