/** Promises 15 to 17: forgotten, lie, leave. */
public final class LiesTest {
    public static void main(String[] args) {
        Due due = new Due("LiesTest");
        forgotten(due);
        forgottenDead(due);
        lieByPairs(due);
        lieByMissedAndNames(due);
        lieOfTheDead(due);
        lieRefused(due);
        leave(due);
        leaveNotTheFirst(due);
        leaveRefused(due);
        changesNothing(due);
        due.end();
    }

    private static void forgotten(Due due) {
        CountedMissing x = Due.of("Z02P0a3P0b5P0c9P0d0P1e9A03A13A34A43A02");
        due.due("at HOME", x.forgotten(3), 0);
        x.year();
        x.go(3, 1);
        due.due("the longer memory", x.forgotten(3), 7);
        due.due("one not asked after", x.forgotten(0), 1);
        due.due("another HOME asks", x.forgotten(4), 1);
        x.go(1, 1);
        due.due("the longer memory is away", x.forgotten(3), 5);
        x.undo();
        x.die(0);
        x.die(1);
        due.due("nobody there", x.forgotten(3), 1);
        x.undo();
        for (int year = 2; year <= 9; year++) {
            x.year();
            due.due("in year " + year, x.forgotten(3), Math.max(7, year));
        }
        due.due("no such person", x.forgotten(5), CountedMissing.UNKNOWN);
        due.due("person below 0", x.forgotten(-1), CountedMissing.UNKNOWN);
        x = Due.of("Z02P0a9P0b9A01");
        x.go(1, 1);
        due.due("nine years and one", x.forgotten(1), 10);
        x = Due.of("Z02P0a0P0b9A01");
        x.go(1, 1);
        due.due("this year alone", x.forgotten(1), 1);
    }

    private static void forgottenDead(Due due) {
        CountedMissing x = Due.of("Z04P0a9P0b1P0c9P0d9A02A13");
        x.go(2, 2);
        x.go(3, 3);
        x.year();
        x.die(2);
        x.die(3);
        due.due("as HOME HEARS", x.forgotten(2), 3);
        due.due("as memory ends", x.forgotten(3), 2);
        x.year();
        due.due("not yet heard", x.forgotten(2), 3);
        due.due("at the end of memory", x.forgotten(3), 2);
        x.die(0);
        due.due("nobody misses it", x.forgotten(2), 2);
    }

    /** 0, 1 and 4 are there, 4 remembers nothing of last year; 2 and 3 (alike by NAME) are away. */
    private static CountedMissing twoAway(String law) {
        CountedMissing x = Due.of("Z" + law + "3P0a9P0b9P0c9P0c9P0d0P1e9P1e9A02A23A05");
        x.go(2, 1);
        x.go(3, 2);
        x.go(6, 0);
        x.year();
        return x;
    }

    private static void lieByPairs(Due due) {
        CountedMissing x = twoAway("0");
        due.due("COUNT", x.town(0, 0), 1);
        due.due("0", x.lie(0, 0), 0);
        due.due("1", x.lie(0, 1), 0);
        due.due("2", x.lie(0, 2), 1);
        due.due("4", x.lie(0, 4), 3);
        due.due("5", x.lie(0, 5), CountedMissing.NONE);
        due.due("99", x.lie(0, 99), CountedMissing.NONE);
        x.rumour(0, 9);
        due.due("10 with RUMOURS", x.lie(0, 10), 0);
        due.due("13 with RUMOURS", x.lie(0, 13), 3);
        due.due("14 with RUMOURS", x.lie(0, 14), CountedMissing.NONE);
        due.due("another TOWN", x.lie(1, 1), 1);
        due.due("another TOWN, 2", x.lie(1, 2), CountedMissing.NONE);
        due.due("no one's HOME", x.lie(2, 1), CountedMissing.NONE);
        due.due("no one's HOME, 0", x.lie(2, 0), 0);
        x.go(2, 2);
        due.due("4 remembers one anew", x.lie(0, 14), 4);
        due.due("but no more", x.lie(0, 15), CountedMissing.NONE);
        x = Due.of("Z02P0a0P0a0P0a0P0a0P0a0P0a0P0a0P0a0A04A05A06A07A14A15A16A17A24A25A26A27");
        for (int i = 4; i < 8; i++) {
            x.go(i, 1);
        }
        due.due("more than 12 pairs", x.lie(0, 16), 4);
        due.due("more than all pairs", x.lie(0, 17), CountedMissing.NONE);
    }

    private static void lieByMissedAndNames(Due due) {
        CountedMissing x = twoAway("1");
        due.due("missed 1", x.lie(0, 1), 0);
        due.due("missed 2", x.lie(0, 2), 1);
        due.due("missed 3", x.lie(0, 3), CountedMissing.NONE);
        x.law(2);
        due.due("names 1", x.lie(0, 1), 0);
        due.due("names 2", x.lie(0, 2), CountedMissing.NONE);
        x.go(4, 1);
        due.due("another name", x.lie(0, 2), 1);
        x.rumour(0, 3);
        due.due("names and RUMOURS", x.lie(0, 5), 1);
        due.due("names and RUMOURS, 6", x.lie(0, 6), CountedMissing.NONE);
        x.go(0, 1);
        x.go(1, 1);
        due.due("nobody there", x.lie(0, 4), CountedMissing.NONE);
        due.due("RUMOURS alone", x.lie(0, 3), 0);
    }

    private static void lieOfTheDead(Due due) {
        CountedMissing x = Due.of("Z04P0a9P0b9P0c9");
        x.go(1, 2);
        x.die(1);
        due.due("not yet heard", x.lie(0, 2), 2);
        x.year();
        x.year();
        due.due("heard", x.lie(0, 1), CountedMissing.NONE);
        x.go(2, 1);
        x.die(0);
        due.due("the dead do not ask", x.lie(0, 1), CountedMissing.NONE);
    }

    private static void lieRefused(Due due) {
        CountedMissing x = Due.of("Z02");
        due.due("no such town", x.lie(2, 0), CountedMissing.UNKNOWN);
        due.due("town below 0", x.lie(-1, 0), CountedMissing.UNKNOWN);
        due.due("m below 0", x.lie(0, -1), CountedMissing.BAD);
        due.due("m 100", x.lie(0, 100), CountedMissing.BAD);
        due.due("UNKNOWN ahead of BAD", x.lie(2, 100), CountedMissing.UNKNOWN);
    }

    private static void leave(Due due) {
        CountedMissing x = Due.of("Z02P0a9P0a9P0a9P0a9P1b9P1b9A03A13A23A30A45");
        x.go(3, 1);
        x.go(5, 0);
        due.due("3", x.leave(0, 3), 0);
        due.due("99", x.leave(0, 99), 0);
        due.due("2", x.leave(0, 2), 1);
        due.due("1", x.leave(0, 1), 3);
        due.due("0", x.leave(0, 0), 7);
        due.due("another TOWN", x.leave(1, 0), 16);
        due.due("another TOWN, 1", x.leave(1, 1), 0);
        x.law(1);
        due.due("missed 1", x.leave(0, 1), 0);
        due.due("missed 0", x.leave(0, 0), 7);
        x.rumour(0, 2);
        due.due("RUMOURS are more", x.leave(0, 1), CountedMissing.NONE);
        due.due("as many as RUMOURS", x.leave(0, 2), 7);
        due.due("one more than RUMOURS", x.leave(0, 3), 0);
        x.die(1);
        due.due("the dead need not leave", x.leave(0, 2), 5);
        x.go(0, 1);
        due.due("nor those away", x.leave(0, 2), 4);
    }

    private static void leaveNotTheFirst(Due due) {
        CountedMissing x = Due.of("Z02P0a9P0a9P0b9P0c9P0d9A02A12A13A14A03");
        x.go(2, 1);
        x.go(3, 1);
        x.go(4, 1);
        due.due("all five", x.leave(0, 5), 0);
        due.due("4: either, the least", x.leave(0, 4), 1);
        due.due("3: either, the least", x.leave(0, 3), 1);
        due.due("2: the second", x.leave(0, 2), 2);
        due.due("1: both", x.leave(0, 1), 3);
        x.law(2);
        due.due("names 2: the second", x.leave(0, 2), 2);
        due.due("names 1: both", x.leave(0, 1), 3);
        x = Due.of("Z02P0a9P0a9P0a9P0a9P0a9A04A14A24A34A03");
        x.go(4, 1);
        due.due("of like pairs the least", x.leave(0, 2), 3);
    }

    private static void leaveRefused(Due due) {
        CountedMissing x = Due.of("Z02");
        due.due("no such town", x.leave(2, 0), CountedMissing.UNKNOWN);
        due.due("town below 0", x.leave(-1, 0), CountedMissing.UNKNOWN);
        due.due("m below 0", x.leave(0, -1), CountedMissing.BAD);
        due.due("m 100", x.leave(0, 100), CountedMissing.BAD);
        due.due("UNKNOWN ahead of BAD", x.leave(2, -1), CountedMissing.UNKNOWN);
        x.rumour(0, 1);
        due.due("BAD ahead of NONE", x.leave(0, -1), CountedMissing.BAD);
    }

    private static void changesNothing(Due due) {
        CountedMissing x = twoAway("0");
        x.forgotten(2);
        x.lie(0, 4);
        x.leave(0, 0);
        due.due("COUNT", x.town(0, 0), 1);
        due.due("pairs", x.about(6), 3);
        due.due("alive", x.about(4), 127);
        due.due("year", x.about(3), 1);
        due.due("ACTS", x.about(7), 4);
        due.due("asks", x.person(0, 6), 36);
    }
}
