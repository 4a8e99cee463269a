/** Promises 22 and 23: keep, again. */
public final class SlotsTest {
    public static void main(String[] args) {
        Due due = new Due("SlotsTest");
        keepAndAgain(due);
        twoSlots(due);
        whatIsNotKept(due);
        actsAndSlots(due);
        refused(due);
        due.end();
    }

    private static void keepAndAgain(Due due) {
        CountedMissing x = Due.of("Z03P0a9P0b9P0c9A01A02");
        x.year();
        x.go(1, 2);
        x.year();
        x.die(1);
        x.rumour(2, 6);
        due.due("keep", x.keep(0), 2);
        due.due("ACTS stay", x.about(7), 5);
        x.year();
        x.go(2, 1);
        x.go(0, 1);
        due.due("again", x.again(0), 2);
        due.due("year", x.about(3), 2);
        due.due("where 0", x.person(0, 3), 0);
        due.due("where 1", x.person(1, 3), 2);
        due.due("since 1", x.person(1, 4), 1);
        due.due("died 1", x.person(1, 5), 2);
        due.due("where 2", x.person(2, 3), 0);
        due.due("since 2", x.person(2, 4), 0);
        due.due("RUMOURS", x.town(2, 2), 6);
        due.due("missed", x.about(5), 2);
        due.due("no ACTS", x.about(7), 0);
        due.due("nothing to undo", x.undo(), CountedMissing.LATE);
        due.due("goes on", x.go(2, 1), 0);
        due.due("a second time", x.again(0), 2);
        due.due("as it was kept", x.person(2, 3), 0);
    }

    private static void twoSlots(Due due) {
        CountedMissing x = Due.of("Z02P0a9");
        due.due("keep 0", x.keep(0), 0);
        x.year();
        x.go(0, 1);
        due.due("keep 1", x.keep(1), 1);
        x.year();
        due.due("again 0", x.again(0), 0);
        due.due("where", x.person(0, 3), 0);
        due.due("again 1", x.again(1), 1);
        due.due("where then", x.person(0, 3), 1);
        x.year();
        due.due("keep over", x.keep(0), 2);
        x.year();
        due.due("again the new one", x.again(0), 2);
        due.due("the other slot as before", x.again(1), 1);
    }

    private static void whatIsNotKept(Due due) {
        CountedMissing x = Due.of("Z02P0a9");
        x.keep(0);
        x.law(2);
        x.wipe();
        due.due("again", x.again(0), 0);
        due.due("LAW", x.about(2), 2);
        due.due("THE TEXT", x.about(8), 0);
        due.due("THE CENSUS", x.about(1), 1);
        Due.tell(x, "Z01P");
        due.due("LATE", x.census(), CountedMissing.LATE);
        due.due("kept still", x.again(0), 0);
        Due.tell(x, "Z01");
        x.census();
        due.due("gone", x.again(0), CountedMissing.LATE);
    }

    private static void actsAndSlots(Due due) {
        CountedMissing x = Due.of("Z02P0a9");
        x.year();
        x.keep(1);
        due.due("undone in spite of keep", x.undo(), 0);
        due.due("year 0", x.about(3), 0);
        due.due("what is kept stays", x.again(1), 1);
        due.due("year 1", x.about(3), 1);
    }

    private static void refused(Due due) {
        CountedMissing x = Due.of("Z02P0a9");
        x.year();
        for (int slot : new int[] {-1, 2, Integer.MIN_VALUE, Integer.MAX_VALUE}) {
            due.due("keep " + slot, x.keep(slot), CountedMissing.UNKNOWN);
            due.due("again " + slot, x.again(slot), CountedMissing.UNKNOWN);
        }
        due.due("none kept in 0", x.again(0), CountedMissing.LATE);
        x.keep(0);
        due.due("none kept in 1", x.again(1), CountedMissing.LATE);
        due.due("nothing changed", x.about(7), 1);
    }
}
