/** Promises 18 to 21: spans, toAsk, retold, chance. */
public final class GuessedTest {
    /** 0 asks after 1 and remembers for that year alone; 2 stands by itself; 3 lives elsewhere. */
    private static final String THREE = "Z02P0a0P0b9P0c9P1d9A01A03A31";

    public static void main(String[] args) {
        Due due = new Due("GuessedTest");
        spans(due);
        spansAside(due);
        spansRefused(due);
        toAsk(due);
        toAskRefused(due);
        retold(due);
        retoldMemory(due);
        retoldRefused(due);
        otherHomes(due);
        chance(due);
        chanceRefused(due);
        changesNothing(due);
        due.end();
    }

    private static void spans(CountedMissing x, Due due, int c, int sets, int fewest, int most) {
        due.due("sets of " + c, x.spans(0, c, 0), sets);
        due.due("fewest of " + c, x.spans(0, c, 1), fewest);
        due.due("most of " + c, x.spans(0, c, 2), most);
    }

    private static void spans(Due due) {
        CountedMissing x = Due.of(THREE);
        spans(x, due, 0, 6, 0, 3);
        spans(x, due, 1, 2, 1, 2);
        spans(x, due, 2, 0, CountedMissing.NONE, CountedMissing.NONE);
        spans(x, due, 99, 0, CountedMissing.NONE, CountedMissing.NONE);
        due.due("the other town", x.spans(1, 0, 0), 2);
        due.due("the other town", x.spans(1, 1, 0), 0);
        x = Due.of("Z01P0a0P0b0P0b0P0c0A01A02A03A32");
        spans(x, due, 3, 2, 1, 2);
        spans(x, due, 2, 3, 2, 3);
        spans(x, due, 1, 4, 1, 3);
        spans(x, due, 0, 7, 0, 4);
        x.law(1);
        spans(x, due, 3, 1, 1, 1);
        spans(x, due, 2, 3, 2, 2);
        spans(x, due, 1, 5, 1, 3);
        x.law(2);
        spans(x, due, 2, 3, 1, 2);
        spans(x, due, 1, 6, 1, 3);
        x = Due.of("Z02P0a0");
        due.due("nobody's HOME", x.spans(1, 0, 0), 1);
        due.due("nobody's HOME, fewest", x.spans(1, 0, 1), 0);
        due.due("nobody's HOME, most", x.spans(1, 0, 2), 0);
        due.due("nobody's HOME, 1", x.spans(1, 1, 2), CountedMissing.NONE);
    }

    /** RUMOURS, years, who is away and who is dead are all set aside. */
    private static void spansAside(Due due) {
        CountedMissing x = Due.of(THREE);
        x.go(1, 1);
        x.die(0);
        x.year();
        x.year();
        x.rumour(0, 5);
        spans(x, due, 0, 6, 0, 3);
        spans(x, due, 1, 2, 1, 2);
        due.due("toAsk aside", x.toAsk(0, 1), 2);
        due.due("retold aside", x.retold(0, 1, 1, 0), 2);
        due.due("chance aside", x.chance(0, 1, 5, false), 4);
    }

    private static void spansRefused(Due due) {
        CountedMissing x = Due.of(THREE);
        due.due("no such town", x.spans(2, 0, 0), CountedMissing.UNKNOWN);
        due.due("town below 0", x.spans(-1, 0, 0), CountedMissing.UNKNOWN);
        due.due("c below 0", x.spans(0, -1, 0), CountedMissing.BAD);
        due.due("c 100", x.spans(0, 100, 0), CountedMissing.BAD);
        due.due("what below 0", x.spans(0, 0, -1), CountedMissing.BAD);
        due.due("what 3", x.spans(0, 0, 3), CountedMissing.BAD);
        due.due("UNKNOWN ahead of BAD", x.spans(2, 100, 3), CountedMissing.UNKNOWN);
        due.due("BAD ahead of NONE", x.spans(0, 99, 3), CountedMissing.BAD);
    }

    private static void toAsk(Due due) {
        CountedMissing x = Due.of(THREE);
        due.due("the free one", x.toAsk(0, 1), 2);
        due.due("0 of {}, {0}, {0,1}, {2}, {0,2}, {0,1,2}", x.toAsk(0, 0), 2);
        due.due("no set", x.toAsk(0, 2), CountedMissing.NONE);
        due.due("99", x.toAsk(0, 99), CountedMissing.NONE);
        due.due("the other town", x.toAsk(1, 0), 3);
        x = Due.of("Z02P0a0P0b0A01");
        due.due("one set: the least", x.toAsk(0, 1), 0);
        due.due("like ones: the least", x.toAsk(0, 0), 0);
        due.due("nobody's HOME", x.toAsk(1, 0), CountedMissing.NONE);
        x = Due.of("Z02P1a0P0a0P0b0A12");
        due.due("the least of that HOME", x.toAsk(0, 1), 1);
        due.due("of another HOME", x.toAsk(1, 0), 0);
        x = Due.of("Z01P0a0P0b0P0b0P0c0A01A02A03A32");
        due.due("{1,2}, {1,2,3}", x.toAsk(0, 3), 3);
        due.due("{2}, {1,3}, {2,3}", x.toAsk(0, 2), 1);
        due.due("{1}, {3}, {0,2}, {0,1,2}", x.toAsk(0, 1), 0);
    }

    private static void toAskRefused(Due due) {
        CountedMissing x = Due.of("Z02");
        due.due("no such town", x.toAsk(2, 0), CountedMissing.UNKNOWN);
        due.due("town below 0", x.toAsk(-1, 0), CountedMissing.UNKNOWN);
        due.due("c below 0", x.toAsk(0, -1), CountedMissing.BAD);
        due.due("c 100", x.toAsk(0, 100), CountedMissing.BAD);
        due.due("UNKNOWN ahead of BAD", x.toAsk(2, 100), CountedMissing.UNKNOWN);
        due.due("nobody", x.toAsk(0, 0), CountedMissing.NONE);
    }

    private static void retold(CountedMissing x, Due due, int n, int told, int ways, int surely) {
        due.due("ways of " + told + " in " + n, x.retold(0, n, told, 0), ways);
        due.due("surely by " + told + " in " + n, x.retold(0, n, told, 1), surely);
    }

    private static void retold(Due due) {
        CountedMissing x = Due.of("Z02P0a0P0b0A01");
        retold(x, due, 1, 0, 3, 0);
        retold(x, due, 1, 1, 1, 2);
        retold(x, due, 1, 2, 0, CountedMissing.NONE);
        retold(x, due, 1, 9, 0, CountedMissing.NONE);
        retold(x, due, 2, 0, 6, 0);
        retold(x, due, 2, 10, 2, 2);
        retold(x, due, 2, 1, 1, 2);
        retold(x, due, 2, 11, 0, CountedMissing.NONE);
        retold(x, due, 3, 1, 1, 2);
        retold(x, due, 3, 10, 2, 2);
        retold(x, due, 3, 100, 3, 2);
        retold(x, due, 3, 0, 10, 0);
        retold(x, due, 3, 999, 0, CountedMissing.NONE);
        due.due("nobody's HOME", x.retold(1, 3, 0, 0), 1);
        due.due("nobody's HOME, surely", x.retold(1, 3, 0, 1), 0);
        due.due("nobody's HOME, 1", x.retold(1, 3, 1, 1), CountedMissing.NONE);
        x = Due.of("Z01P0a0P0a0P0a0P0a0P0a0P0a0");
        retold(x, due, 3, 0, 4096, 0);
        retold(x, due, 1, 0, 64, 0);
        x = Due.of("Z02P1d9P0a9P0b9A12A21A01");
        retold(x, due, 2, 1, 2, 0);
        retold(x, due, 1, 1, 2, 0);
        retold(x, due, 2, 11, 2, 0);
        retold(x, due, 2, 10, 2, 6);
    }

    private static void retoldMemory(Due due) {
        CountedMissing x = Due.of("Z01P0a1P0b0A01");
        retold(x, due, 2, 11, 1, 2);
        retold(x, due, 3, 110, 2, 2);
        retold(x, due, 3, 111, 0, CountedMissing.NONE);
        x = Due.of("Z01P0a2P0b0A01");
        retold(x, due, 3, 111, 1, 2);
        x = Due.of("Z01P0a1P0b0P0b0A01A02");
        retold(x, due, 3, 12, 2, 6);
        retold(x, due, 3, 121, 2, 6);
        retold(x, due, 3, 2, 1, 6);
        x.law(1);
        retold(x, due, 3, 121, 2, 6);
        x.law(2);
        retold(x, due, 3, 111, 4, 6);
        retold(x, due, 3, 1, 3, 0);
    }

    private static void retoldRefused(Due due) {
        CountedMissing x = Due.of("Z02P0a0P0a0P0a0P0a0P0a0P0a0P0a0P1a0");
        due.due("no such town", x.retold(2, 1, 0, 0), CountedMissing.UNKNOWN);
        due.due("town below 0", x.retold(-1, 1, 0, 0), CountedMissing.UNKNOWN);
        due.due("n 0", x.retold(1, 0, 0, 0), CountedMissing.BAD);
        due.due("n 4", x.retold(1, 4, 0, 0), CountedMissing.BAD);
        due.due("n far off", x.retold(1, Integer.MAX_VALUE, 0, 0), CountedMissing.BAD);
        due.due("told below 0", x.retold(1, 1, -1, 0), CountedMissing.BAD);
        due.due("told 10", x.retold(1, 1, 10, 0), CountedMissing.BAD);
        due.due("told 99", x.retold(1, 2, 99, 0), 0);
        due.due("told 100", x.retold(1, 2, 100, 0), CountedMissing.BAD);
        due.due("told 1000", x.retold(1, 3, 1000, 0), CountedMissing.BAD);
        due.due("what below 0", x.retold(1, 1, 0, -1), CountedMissing.BAD);
        due.due("what 2", x.retold(1, 1, 0, 2), CountedMissing.BAD);
        due.due("seven", x.retold(0, 1, 0, 0), CountedMissing.LATE);
        due.due("BAD ahead of LATE: n", x.retold(0, 4, 0, 0), CountedMissing.BAD);
        due.due("BAD ahead of LATE: told", x.retold(0, 1, 10, 0), CountedMissing.BAD);
        due.due("BAD ahead of LATE: what", x.retold(0, 1, 0, 2), CountedMissing.BAD);
        due.due("UNKNOWN ahead of BAD", x.retold(2, 4, -1, 2), CountedMissing.UNKNOWN);
        due.due("one", x.retold(1, 1, 0, 0), 2);
    }

    /** Who asks after one of another HOME, and after the first one. */
    private static void otherHomes(Due due) {
        CountedMissing x = Due.of("Z02P0a0P1b0P1b0A10A20A12A02");
        due.due("sets of 0", x.spans(1, 0, 0), 3);
        due.due("sets of 1", x.spans(1, 1, 0), 1);
        due.due("like ones", x.toAsk(1, 0), 1);
        due.due("one set", x.toAsk(1, 1), 1);
        due.due("ways of 0", x.retold(1, 1, 0, 0), 3);
        due.due("ways of 1", x.retold(1, 1, 1, 0), 1);
        due.due("surely", x.retold(1, 1, 1, 1), 4);
        due.due("chance", x.chance(1, 1, 1, true), 9);
        x = Due.of("Z01P0a0P0b0A10");
        due.due("the first there or gone", x.retold(0, 1, 0, 0), 3);
        due.due("the first gone", x.retold(0, 1, 1, 1), 1);
        due.due("the first is away", x.spans(0, 1, 0), 1);
        x = Due.of("Z02P0a0P1b0P1b0P1c0A10A12");
        due.due("3 stands by itself", x.toAsk(1, 0), 3);
        due.due("3 again", x.toAsk(1, 1), 3);
    }

    private static void chance(CountedMissing x, Due due, int c, int tenths, long upper, long lower) {
        due.due("upper of " + c + ", " + tenths, x.chance(0, c, tenths, true), upper);
        due.due("lower of " + c + ", " + tenths, x.chance(0, c, tenths, false), lower);
    }

    private static void chance(Due due) {
        CountedMissing x = Due.of(THREE);
        chance(x, due, 0, 3, 1, 1);
        chance(x, due, 1, 3, 21, 100);
        chance(x, due, 1, 7, 21, 100);
        chance(x, due, 1, 5, 1, 4);
        chance(x, due, 1, 2, 4, 25);
        chance(x, due, 1, 0, 0, 1);
        chance(x, due, 1, 10, 0, 1);
        chance(x, due, 0, 0, 1, 1);
        chance(x, due, 0, 10, 1, 1);
        chance(x, due, 2, 5, 0, 1);
        chance(x, due, 99, 5, 0, 1);
        due.due("nobody asks", x.chance(1, 0, 5, true), 1);
        x = Due.of("Z01P0a0P0b0P0b0A01A02");
        chance(x, due, 2, 1, 9, 1000);
        chance(x, due, 1, 1, 171, 1000);
        x.law(2);
        chance(x, due, 2, 1, 0, 1);
        chance(x, due, 1, 1, 171, 1000);
        x = Due.of("Z01P0a0P0a0P0a0P0a0P0a0P0a0P0a0P0a0A01A12A23A34A45A56A67");
        chance(x, due, 4, 1, 6561, 100000000);
        x.rumour(0, 9);
        chance(x, due, 4, 1, 6561, 100000000);
        x = Due.of("Z02");
        due.due("nobody's HOME, 0", x.chance(1, 0, 0, true), 1);
        due.due("nobody's HOME, 1", x.chance(1, 1, 10, true), 0);
        due.due("nobody's HOME, below", x.chance(1, 1, 10, false), 1);
    }

    private static void chanceRefused(Due due) {
        CountedMissing x = Due.of("Z02");
        due.due("no such town", x.chance(2, 0, 0, true), CountedMissing.UNKNOWN);
        due.due("town below 0", x.chance(-1, 0, 0, false), CountedMissing.UNKNOWN);
        due.due("c below 0", x.chance(0, -1, 0, true), CountedMissing.BAD);
        due.due("c 100", x.chance(0, 100, 0, false), CountedMissing.BAD);
        due.due("x below 0", x.chance(0, 0, -1, true), CountedMissing.BAD);
        due.due("x 11", x.chance(0, 0, 11, false), CountedMissing.BAD);
        due.due("UNKNOWN ahead of BAD", x.chance(2, 100, 11, true), CountedMissing.UNKNOWN);
    }

    private static void changesNothing(Due due) {
        CountedMissing x = Due.of(THREE);
        x.go(1, 1);
        x.spans(0, 1, 0);
        x.toAsk(0, 1);
        x.retold(0, 3, 10, 1);
        x.chance(0, 1, 4, true);
        due.due("where", x.person(1, 3), 1);
        due.due("COUNT", x.town(0, 0), 1);
        due.due("ACTS", x.about(7), 1);
        due.due("year", x.about(3), 0);
    }
}
