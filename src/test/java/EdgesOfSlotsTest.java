/** The edges of promises 22 and 23: keep, again; sentence by sentence. */
public final class EdgesOfSlotsTest {
    private static final int UNKNOWN = -1, LATE = -3, NONE = -9;
    private static final int[] FAR_OFF = {Integer.MIN_VALUE, -2, -1, 2, 3, 32, 256, Integer.MAX_VALUE};

    public static void main(String[] args) {
        Due due = new Due("EdgesOfSlotsTest");
        slotsThereAre(due);
        noneKept(due);
        goneByCensus(due);
        whatIsKept(due);
        keptAsItWas(due);
        keptOver(due);
        noActs(due);
        whatIsNotKept(due);
        due.end();
    }

    private static void slotsThereAre(Due due) {
        due.sentence("SLOTS 0 .. 1 keep where PEOPLE are");
        for (CountedMissing x : new CountedMissing[] {new CountedMissing(), Due.of("Z04P0a0")}) {
            for (int far : FAR_OFF) {
                due.due("keep " + far, x.keep(far), UNKNOWN);
                due.due("again " + far, x.again(far), UNKNOWN);
            }
            due.due("again 0: none was kept by that", x.again(0), LATE);
            due.due("again 1: none was kept by that", x.again(1), LATE);
            due.due("keep 0", x.keep(0), 0);
            due.due("keep 1", x.keep(1), 0);
            due.due("again 0", x.again(0), 0);
            due.due("again 1", x.again(1), 0);
        }
    }

    private static void noneKept(Due due) {
        due.sentence("They are as they were kept: THE YEAR. UNKNOWN; LATE: none were kept.");
        for (int slot = 0; slot <= 1; slot++) {
            CountedMissing x = Due.of("Z02P0a0");
            Due.years(x, 3);
            due.due("none in " + slot, x.again(slot), LATE);
            due.due("THE YEAR stays", x.about(3), 3);
            due.due("ACTS stay", x.about(7), 3);
            due.due("kept in the other", x.keep(1 - slot), 3);
            due.due("still none in " + slot, x.again(slot), LATE);
            due.due("ACTS stay still", x.about(7), 3);
            due.due("the other", x.again(1 - slot), 3);
        }
    }

    private static void goneByCensus(Due due) {
        due.sentence("what was kept is gone");
        CountedMissing x = Due.of("Z02P0a0");
        x.keep(0);
        x.keep(1);
        x.year();
        Due.tell(x, "Z02P0a");
        due.due("a FAULT", x.census(), LATE);
        due.due("0 is kept still", x.again(0), 0);
        due.due("1 is kept still", x.again(1), 0);
        Due.tell(x, "Z02P0a0");
        due.due("census", x.census(), 1);
        due.due("0 is gone", x.again(0), LATE);
        due.due("1 is gone", x.again(1), LATE);
        due.due("kept anew", x.keep(1), 0);
        due.due("0 is gone still", x.again(0), LATE);
        due.due("1 is there", x.again(1), 0);
    }

    private static void whatIsKept(Due due) {
        due.sentence("keep where PEOPLE are, who died when, RUMOURS, THE YEAR");
        for (int slot = 0; slot <= 1; slot++) {
            CountedMissing x = Due.of("Z04P0a9P0b9P0c9P3d9A01A02");
            Due.years(x, 2);
            x.go(1, 3);
            x.go(3, 0);
            Due.years(x, 2);
            x.die(1);
            for (int town = 0; town < 4; town++) {
                Due.rumours(x, town, 99 - town);
            }
            due.due("keep", x.keep(slot), 4);
            x.year();
            x.go(0, 1);
            x.go(2, 1);
            x.go(3, 3);
            x.die(3);
            due.due("again", x.again(slot), 4);
            due.due("THE YEAR", x.about(3), 4);
            int[][] people = {{0, 0, NONE}, {3, 2, 4}, {0, 0, NONE}, {0, 2, NONE}};
            for (int i = 0; i < 4; i++) {
                due.due("where is " + i, x.person(i, 3), people[i][0]);
                due.due("since " + i, x.person(i, 4), people[i][1]);
                due.due("died " + i, x.person(i, 5), people[i][2]);
                due.due("RUMOURS in " + i, x.town(i, 2), 99 - i);
            }
            due.due("alive", x.about(4), 13);
            due.due("MISSED till HOME HEARS", x.forgotten(1), 7);
        }
    }

    private static void keptAsItWas(Due due) {
        due.sentence("They are as they were kept: THE YEAR.");
        CountedMissing x = Due.of("Z02P0a9");
        x.keep(0);
        for (int round = 0; round < 5; round++) {
            due.due("what is done later", x.go(0, 1), 0);
            x.rumour(1, 9);
            x.year();
            x.die(0);
            due.due("changes nothing that was kept", x.again(0), 0);
            due.due("alive", x.person(0, 5), NONE);
            due.due("RUMOURS", x.town(1, 2), 0);
        }
        x.year();
        x.keep(1);
        due.due("undo stays possible", x.undo(), 0);
        due.due("and changes nothing that was kept", x.again(1), 1);
    }

    private static void keptOver(Due due) {
        due.sentence("They are kept: THE YEAR. UNKNOWN.");
        CountedMissing x = Due.of("Z02P0a9");
        due.due("keep 0", x.keep(0), 0);
        x.year();
        due.due("keep 1", x.keep(1), 1);
        x.year();
        due.due("keep 0 over", x.keep(0), 2);
        due.due("again 1", x.again(1), 1);
        due.due("again 0 is the later", x.again(0), 2);
        due.due("keep 1 over", x.keep(1), 2);
        x.year();
        due.due("again 1 is the later", x.again(1), 2);
    }

    private static void noActs(Due due) {
        due.sentence("(no ACTS when one goes on)");
        CountedMissing x = Due.of("Z02P0a9");
        Due.years(x, 20);
        due.due("keep", x.keep(0), 20);
        due.due("ACTS stay by keep", x.about(7), 16);
        due.due("again", x.again(0), 20);
        due.due("no ACTS", x.about(7), 0);
        due.due("none to undo", x.undo(), LATE);
        due.due("THE YEAR stays", x.about(3), 20);
        x.go(0, 1);
        due.due("one ACT", x.about(7), 1);
        due.due("it is undone", x.undo(), 0);
        due.due("none more", x.undo(), LATE);
        due.due("again without ACTS", x.again(0), 20);
        Due.years(x, 17);
        due.due("16 ACTS", x.undo(), 15);
        due.due("THE YEAR", x.about(3), 36);
    }

    private static void whatIsNotKept(Due due) {
        due.sentence("SLOTS 0 .. 1 keep where PEOPLE are, who died when, RUMOURS, THE YEAR");
        CountedMissing x = Due.of("Z02P0a9P0b9A01");
        x.keep(0);
        x.law(2);
        x.write(8, Due.bytes("P0a9P0b9"));
        due.due("again", x.again(0), 0);
        due.due("LAW stays", x.about(2), 2);
        due.due("THE TEXT stays", x.about(8), 22);
        due.due("pairs", x.about(6), 1);
        due.due("PEOPLE", x.about(1), 2);
        x.year();
        x.keep(1);
        due.due("the other slot stays", x.again(0), 0);
        due.due("kept by that one", x.again(1), 1);
    }
}
