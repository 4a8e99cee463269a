/** What is refused changes nothing, nor does what only asks; and which of several refusals is told. */
public final class RefusedTest {
    private static final int UNKNOWN = -1, BAD = -2, LATE = -3, FULL = -4, NONE = -9;

    public static void main(String[] args) {
        Due due = new Due("RefusedTest");
        newObject(due);
        text(new Unchanged(due, RefusedTest::full), due);
        views(new Unchanged(due, RefusedTest::full), due);
        acts(new Unchanged(due, RefusedTest::full), due);
        lies(new Unchanged(due, RefusedTest::full), due);
        guessed(new Unchanged(due, RefusedTest::full), due);
        slots(new Unchanged(due, RefusedTest::full), due);
        late(new Unchanged(due, RefusedTest::crowded), due);
        questions(new Unchanged(due, RefusedTest::full), due);
        toldFirst(due);
        due.end();
    }

    /** Six PEOPLE of two HOMES, 5 dead in 2; TOWN 1 full of RUMOURS, ACTS full, TEXT of 77 bytes, slot 0 kept. */
    private static void full(CountedMissing x) {
        Due.tell(x, "Z14P0a9P0b9P0c3P1d9P1e2P3f9A01A02A12A34A43A10");
        x.census();
        x.year();
        x.go(1, 3);
        x.keep(0);
        x.year();
        x.go(4, 0);
        x.go(5, 2);
        x.die(5);
        x.rumour(2, 4);
        Due.rumours(x, 1, 99);
        x.law(0);
        Due.tell(x, "Z01P0a0P0b0A01P0a0P0a0P0a0P0a0P0a0P0a0A10A20A30A40A50A60A70A02A03A04A05A06A07");
    }

    /** Seven of one HOME, THE TEXT is a CENSUS, no ACTS, both slots kept, in THE YEAR 2. */
    private static void crowded(CountedMissing x) {
        Due.tell(x, "Z02P0a9P0b9P0c9P0d9P0e9P0f9P0a9P1b9A01A12A23");
        x.census();
        x.keep(1);
        Due.years(x, 2);
        x.go(1, 1);
        x.rumour(0, 2);
        x.keep(0);
        x.again(0);
    }

    private static void newObject(Due due) {
        due.sentence("What is refused changes nothing.");
        Unchanged none = new Unchanged(due, x -> { });
        none.by("census", CountedMissing::census, LATE);
        none.by("undo", CountedMissing::undo, LATE);
        none.by("again", x -> x.again(0), LATE);
        none.by("write", x -> x.write(9, 0), BAD);
        none.by("go", x -> x.go(0, 0), UNKNOWN);
        none.by("die", x -> x.die(0), UNKNOWN);
        none.by("rumour", x -> x.rumour(1, 1), UNKNOWN);
        none.by("law", x -> x.law(3), BAD);
    }

    private static void text(Unchanged full, Due due) {
        due.sentence("BAD; FULL: it would be longer than 80 (nothing comes).");
        full.by("write 0", x -> x.write(0, 'P'), BAD);
        full.by("write -1", x -> x.write(-1, 'P'), BAD);
        full.by("write 9", x -> x.write(9, 'P'), BAD);
        for (int n = 4; n <= 8; n++) {
            int size = n;
            full.by("write " + n, x -> x.write(size, -1), FULL);
        }
        due.sentence("LATE: a FAULT.");
        full.by("census", CountedMissing::census, LATE);
    }

    private static void views(Unchanged full, Due due) {
        due.sentence("What is refused changes nothing.");
        full.by("about -1", x -> x.about(-1), BAD);
        full.by("about 9", x -> x.about(9), BAD);
        full.by("person -1", x -> x.person(-1, 0), UNKNOWN);
        full.by("person 6", x -> x.person(6, 0), UNKNOWN);
        full.by("person 0, -1", x -> x.person(0, -1), BAD);
        full.by("person 0, 8", x -> x.person(0, 8), BAD);
        full.by("town -1", x -> x.town(-1, 0), UNKNOWN);
        full.by("town 4", x -> x.town(4, 0), UNKNOWN);
        full.by("town 0, -1", x -> x.town(0, -1), BAD);
        full.by("town 0, 6", x -> x.town(0, 6), BAD);
        full.by("law -1", x -> x.law(-1), BAD);
        full.by("law 3", x -> x.law(3), BAD);
    }

    private static void acts(Unchanged full, Due due) {
        due.sentence("What is refused changes nothing.");
        full.by("go -1", x -> x.go(-1, 0), UNKNOWN);
        full.by("go 6", x -> x.go(6, 0), UNKNOWN);
        full.by("go to -1", x -> x.go(0, -1), UNKNOWN);
        full.by("go to 4", x -> x.go(0, 4), UNKNOWN);
        full.by("go where it is, at HOME", x -> x.go(0, 0), LATE);
        full.by("go where it is, away", x -> x.go(1, 3), LATE);
        full.by("go, dead, HOME", x -> x.go(5, 3), LATE);
        full.by("go, dead, where it was", x -> x.go(5, 2), LATE);
        full.by("die -1", x -> x.die(-1), UNKNOWN);
        full.by("die 6", x -> x.die(6), UNKNOWN);
        full.by("die, dead", x -> x.die(5), LATE);
        full.by("rumour in -1", x -> x.rumour(-1, 1), UNKNOWN);
        full.by("rumour in 4", x -> x.rumour(4, 1), UNKNOWN);
        full.by("rumour of 0", x -> x.rumour(0, 0), BAD);
        full.by("rumour of 10", x -> x.rumour(0, 10), BAD);
        full.by("rumour of 1 more than 99", x -> x.rumour(1, 1), FULL);
        full.by("rumour of 9 more than 99", x -> x.rumour(1, 9), FULL);
    }

    private static void lies(Unchanged full, Due due) {
        due.sentence("What is refused changes nothing.");
        full.by("forgotten -1", x -> x.forgotten(-1), UNKNOWN);
        full.by("forgotten 6", x -> x.forgotten(6), UNKNOWN);
        full.by("lie in -1", x -> x.lie(-1, 0), UNKNOWN);
        full.by("lie in 4", x -> x.lie(4, 0), UNKNOWN);
        full.by("lie of -1", x -> x.lie(0, -1), BAD);
        full.by("lie of 100", x -> x.lie(0, 100), BAD);
        full.by("leave -1", x -> x.leave(-1, 0), UNKNOWN);
        full.by("leave 4", x -> x.leave(4, 0), UNKNOWN);
        full.by("leave to -1", x -> x.leave(0, -1), BAD);
        full.by("leave to 100", x -> x.leave(0, 100), BAD);
    }

    private static void guessed(Unchanged full, Due due) {
        due.sentence("What is refused changes nothing.");
        full.by("spans in 4", x -> x.spans(4, 0, 0), UNKNOWN);
        full.by("spans of 100", x -> x.spans(0, 100, 0), BAD);
        full.by("spans what 3", x -> x.spans(0, 0, 3), BAD);
        full.by("toAsk in -1", x -> x.toAsk(-1, 0), UNKNOWN);
        full.by("toAsk of 100", x -> x.toAsk(0, 100), BAD);
        full.by("retold in 4", x -> x.retold(4, 1, 0, 0), UNKNOWN);
        full.by("retold of 0 YEARS", x -> x.retold(0, 0, 0, 0), BAD);
        full.by("retold of 4 YEARS", x -> x.retold(0, 4, 0, 0), BAD);
        full.by("retold of -1", x -> x.retold(0, 1, -1, 0), BAD);
        full.by("retold of 10", x -> x.retold(0, 1, 10, 0), BAD);
        full.by("retold what 2", x -> x.retold(0, 1, 0, 2), BAD);
        full.by("chance in 4", x -> x.chance(4, 0, 0, true), UNKNOWN);
        full.by("chance of 100", x -> x.chance(0, 100, 0, true), BAD);
        full.by("chance by 11", x -> x.chance(0, 0, 11, false), BAD);
    }

    private static void slots(Unchanged full, Due due) {
        due.sentence("What is refused changes nothing.");
        full.by("keep -1", x -> x.keep(-1), UNKNOWN);
        full.by("keep 2", x -> x.keep(2), UNKNOWN);
        full.by("again -1", x -> x.again(-1), UNKNOWN);
        full.by("again 2", x -> x.again(2), UNKNOWN);
        full.by("again 1", x -> x.again(1), LATE);
    }

    private static void late(Unchanged crowded, Due due) {
        due.sentence("What is refused changes nothing.");
        crowded.by("undo", CountedMissing::undo, LATE);
        crowded.by("retold of seven", x -> x.retold(0, 1, 0, 0), LATE);
        crowded.by("retold of seven, surely", x -> x.retold(0, 3, 0, 1), LATE);
        crowded.by("again 2", x -> x.again(2), UNKNOWN);
        crowded.by("write 9", x -> x.write(9, -1), BAD);
        due.sentence("NONE: RUMOURS alone are more.");
        crowded.by("leave", x -> x.leave(0, 1), NONE);
        due.sentence("NONE: there is no set, or nobody has that HOME.");
        crowded.by("toAsk", x -> x.toAsk(0, 9), NONE);
        due.sentence("THE TEXT is THE CENSUS (THE TEXT itself stays");
        crowded.by("fault", CountedMissing::fault, NONE);
    }

    private static void questions(Unchanged full, Due due) {
        due.sentence("In what follows nothing is changed.");
        full.by("fault", CountedMissing::fault, 71);
        full.by("about", x -> x.about(5), 18);
        full.by("person", x -> x.person(0, 7), 2);
        full.by("town", x -> x.town(0, 0), 1);
        full.by("forgotten", x -> x.forgotten(1), 11);
        full.by("forgotten, dead", x -> x.forgotten(5), 2);
        full.by("lie", x -> x.lie(0, 2), 1);
        full.by("lie of too many", x -> x.lie(0, 99), NONE);
        full.by("leave", x -> x.leave(0, 0), 1);
        full.by("spans", x -> x.spans(0, 1, 0), 2);
        full.by("spans, the most", x -> x.spans(0, 2, 2), 2);
        full.by("toAsk", x -> x.toAsk(0, 1), 0);
        full.by("retold", x -> x.retold(0, 2, 12, 0), 2);
        full.by("retold, surely", x -> x.retold(0, 2, 12, 1), 4);
        full.by("chance", x -> x.chance(0, 1, 5, false), 8);
    }

    private static void toldFirst(Due due) {
        due.sentence("Of several what is told first.");
        CountedMissing x = new CountedMissing();
        full(x);
        due.due("write: BAD ahead of FULL", x.write(9, 0), BAD);
        due.due("person: UNKNOWN ahead of BAD", x.person(6, 8), UNKNOWN);
        due.due("town: UNKNOWN ahead of BAD", x.town(4, 6), UNKNOWN);
        due.due("go: UNKNOWN ahead of LATE, dead", x.go(5, 4), UNKNOWN);
        due.due("rumour: UNKNOWN ahead of BAD", x.rumour(4, 10), UNKNOWN);
        due.due("rumour: BAD ahead of FULL", x.rumour(1, 10), BAD);
        due.due("rumour: BAD ahead of FULL, 0", x.rumour(1, 0), BAD);
        due.due("lie: UNKNOWN ahead of BAD", x.lie(4, 100), UNKNOWN);
        due.due("leave: UNKNOWN ahead of BAD", x.leave(4, 100), UNKNOWN);
        due.due("leave: BAD ahead of NONE", x.leave(1, -1), BAD);
        due.due("spans: UNKNOWN ahead of BAD", x.spans(4, 100, 3), UNKNOWN);
        due.due("spans: BAD ahead of NONE", x.spans(0, 99, 3), BAD);
        due.due("toAsk: UNKNOWN ahead of BAD", x.toAsk(4, 100), UNKNOWN);
        due.due("toAsk: BAD ahead of NONE", x.toAsk(2, 100), BAD);
        due.due("retold: UNKNOWN ahead of BAD", x.retold(4, 0, -1, 2), UNKNOWN);
        due.due("chance: UNKNOWN ahead of BAD", x.chance(4, 100, 11, true), UNKNOWN);
        due.due("again: UNKNOWN ahead of LATE", x.again(2), UNKNOWN);
        x = new CountedMissing();
        crowded(x);
        due.due("retold: BAD ahead of LATE, n", x.retold(0, 4, 0, 0), BAD);
        due.due("retold: BAD ahead of LATE, told", x.retold(0, 1, 10, 0), BAD);
        due.due("retold: BAD ahead of LATE, what", x.retold(0, 1, 0, 2), BAD);
        due.due("retold: UNKNOWN ahead of LATE", x.retold(2, 1, 0, 0), UNKNOWN);
    }
}
