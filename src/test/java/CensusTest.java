/** Promises 1 to 9: the new object, THE TEXT, FAULT, THE CENSUS and what is told of it. */
public final class CensusTest {
    private static final String TWO = "Z01P0a0P0a0";
    private static final String EIGHT = "Z01P0a0P0b1P0c2P0d3P0e4P0f5P0a6P0b7";
    private static final String TWELVE_PAIRS = "A01A02A03A04A10A12A13A14A20A21A23A24";

    public static void main(String[] args) {
        Due due = new Due("CensusTest");
        newObject(due);
        write(due);
        writeFull(due);
        wipe(due);
        faultsOfHeads(due);
        faultsOfPeople(due);
        faultsOfPairs(due);
        faultsAtTheLimits(due);
        census(due);
        censusForgets(due);
        about(due);
        person(due);
        town(due);
        counts(due);
        eight(due);
        law(due);
        due.end();
    }

    private static void newObject(Due due) {
        CountedMissing x = new CountedMissing();
        for (int what = 0; what <= 8; what++) {
            due.due("new about " + what, x.about(what), what == 0 ? 1 : 0);
        }
        for (int what = 0; what <= 5; what++) {
            due.due("new town " + what, x.town(0, what), 0);
        }
        due.due("new town 1", x.town(1, 0), CountedMissing.UNKNOWN);
        due.due("new person", x.person(0, 0), CountedMissing.UNKNOWN);
        due.due("new undo", x.undo(), CountedMissing.LATE);
        due.due("new again", x.again(0), CountedMissing.LATE);
        due.due("new keep", x.keep(1), 0);
        due.due("new law", x.law(2), 0);
        due.due("new rumour", x.rumour(0, 4), 4);
        due.due("new go", x.go(0, 0), CountedMissing.UNKNOWN);
    }

    private static void write(Due due) {
        CountedMissing x = new CountedMissing();
        due.due("highest first", x.write(3, 0x5A3031L), 3);
        due.due("no fault", x.fault(), CountedMissing.NONE);
        due.due("the lowest alone", x.write(1, 0x4141414141414150L), 4);
        due.due("one P", x.fault(), 4);
        due.due("the lowest two", x.write(2, 0x7777777777773061L), 6);
        due.due("home and name", x.fault(), 6);
        due.due("memory", x.write(1, 0xFFFFFFFFFFFFFF39L), 7);
        due.due("a person", x.fault(), CountedMissing.NONE);
        x = new CountedMissing();
        due.due("eight", x.write(8, Due.bytes("Z01P0a0P")), 8);
        due.due("eight bytes", x.fault(), 8);
        x = new CountedMissing();
        due.due("below 0", x.write(8, -1L), 8);
        due.due("255", x.fault(), 0);
        x = new CountedMissing();
        due.due("Z and 128", x.write(1, 'Z' + 128), 1);
        due.due("no Z", x.fault(), 0);
        for (int n : new int[] {0, -1, 9, 10, Integer.MIN_VALUE, Integer.MAX_VALUE}) {
            due.due("write of " + n, x.write(n, 90), CountedMissing.BAD);
        }
        due.due("as long as before", x.about(8), 1);
    }

    private static void writeFull(Due due) {
        CountedMissing x = new CountedMissing();
        Due.tell(x, "Z01");
        for (int k = 1; k <= 9; k++) {
            due.due("write " + k, x.write(8, 0), 3 + 8 * k);
        }
        due.due("83", x.write(8, 0), CountedMissing.FULL);
        due.due("81", x.write(6, 0), CountedMissing.FULL);
        due.due("still 75", x.about(8), 75);
        due.due("80", x.write(5, 0), 80);
        due.due("one more", x.write(1, 0), CountedMissing.FULL);
        due.due("BAD ahead of FULL", x.write(9, 0), CountedMissing.BAD);
        due.due("BAD ahead of FULL, 0", x.write(0, 0), CountedMissing.BAD);
        due.due("fault of 80", x.fault(), 3);
        due.due("wipe 80", x.wipe(), 80);
    }

    private static void wipe(Due due) {
        CountedMissing x = Due.of(TWO);
        due.due("wipe", x.wipe(), 11);
        due.due("wipe again", x.wipe(), 0);
        due.due("empty", x.fault(), 0);
        due.due("bytes", x.about(8), 0);
        due.due("THE CENSUS stays", x.about(1), 2);
        due.due("write anew", x.write(3, Due.bytes("Z13")), 3);
        due.due("nothing of the old", x.fault(), CountedMissing.NONE);
    }

    private static void fault(Due due, String text, int want) {
        CountedMissing x = Due.of("Z23P2f4");
        Due.tell(x, text);
        due.due("fault of " + text, x.fault(), want);
        due.due("census of " + text + " unread", x.about(0) + 10 * x.about(1) + 100 * x.about(2), 213);
        if (want != CountedMissing.NONE) {
            due.due("census of " + text, x.census(), CountedMissing.LATE);
            due.due("person after " + text, x.person(0, 0) + 10 * x.person(0, 1) + 100 * x.person(0, 2), 452);
        }
    }

    private static void faultsOfHeads(Due due) {
        fault(due, "", 0);
        fault(due, "Z", 1);
        fault(due, "Z0", 2);
        fault(due, "Z01", CountedMissing.NONE);
        fault(due, "Z24", CountedMissing.NONE);
        fault(due, "z01", 0);
        fault(due, "Y", 0);
        fault(due, "P0a0", 0);
        fault(due, "Z/", 1);
        fault(due, "Z31", 1);
        fault(due, "ZZ", 1);
        fault(due, "Z00", 2);
        fault(due, "Z05", 2);
        fault(due, "Z0 ", 2);
        fault(due, "Z01Z", 3);
        fault(due, "Z01p", 3);
        fault(due, "Z01B", 3);
        fault(due, "Z01\0", 3);
    }

    private static void faultsOfPeople(Due due) {
        fault(due, "Z01P", 4);
        fault(due, "Z01P0", 5);
        fault(due, "Z01P0a", 6);
        fault(due, "Z01P0a9", CountedMissing.NONE);
        fault(due, "Z01P0f0", CountedMissing.NONE);
        fault(due, "Z01P1", 4);
        fault(due, "Z03P2a0P3", 8);
        fault(due, "Z04P3a0P4", 8);
        fault(due, "Z04P3a0P/", 8);
        fault(due, "Z01P0g", 5);
        fault(due, "Z01P0`", 5);
        fault(due, "Z01P0A", 5);
        fault(due, "Z01P0a:", 6);
        fault(due, "Z01P0a/", 6);
        fault(due, "Z01P0aP", 6);
        fault(due, "Z01P0a0Q", 7);
    }

    private static void faultsOfPairs(Due due) {
        fault(due, "Z01A", 3);
        fault(due, "Z01P0a0A", 7);
        fault(due, TWO + "A", 12);
        fault(due, TWO + "A0", 13);
        fault(due, TWO + "A01", CountedMissing.NONE);
        fault(due, TWO + "A2", 12);
        fault(due, TWO + "A/", 12);
        fault(due, TWO + "A9", 12);
        fault(due, TWO + "AA", 12);
        fault(due, TWO + "A00", 13);
        fault(due, TWO + "A11", 13);
        fault(due, TWO + "A02", 13);
        fault(due, TWO + "A0/", 13);
        fault(due, TWO + "A02P0a0", 13);
        fault(due, TWO + "A01A0", 15);
        fault(due, TWO + "A01A10", CountedMissing.NONE);
        fault(due, TWO + "A01A10A", 17);
        fault(due, TWO + "A01P0a0A0", 20);
        fault(due, TWO + "A01P0a0A01", 20);
        fault(due, TWO + "A01P0a0A02A2", 23);
        fault(due, TWO + "A01P0a0A02A0", 22);
        fault(due, TWO + "A01P0a0A02A21A20A12A10", CountedMissing.NONE);
        fault(due, TWO + "A01P0a0A02A21A20A12A10A", 33);
    }

    private static void faultsAtTheLimits(Due due) {
        fault(due, EIGHT, CountedMissing.NONE);
        fault(due, EIGHT + "P", 35);
        fault(due, EIGHT + "A78", 37);
        fault(due, EIGHT + "A76", CountedMissing.NONE);
        fault(due, EIGHT + TWELVE_PAIRS, CountedMissing.NONE);
        fault(due, EIGHT + TWELVE_PAIRS + "A", 71);
        fault(due, EIGHT + TWELVE_PAIRS + "P", 71);
        fault(due, EIGHT + TWELVE_PAIRS + "AAAAAAAAA", 71);
        fault(due, EIGHT.substring(0, 31) + TWELVE_PAIRS + "P0b7", CountedMissing.NONE);
        fault(due, EIGHT.substring(0, 31) + TWELVE_PAIRS + "P0b7P", 71);
    }

    private static void census(Due due) {
        CountedMissing x = new CountedMissing();
        due.due("LATE", x.census(), CountedMissing.LATE);
        Due.tell(x, "Z24P3f9P0a0A10");
        due.due("not yet", x.about(0), 1);
        due.due("two", x.census(), 2);
        due.due("THE TEXT stays", x.about(8), 14);
        due.due("towns", x.about(0), 4);
        due.due("law", x.about(2), 2);
        due.due("pairs", x.about(6), 1);
        due.due("asks", x.person(1, 6), 1);
        due.due("once more", x.census(), 2);
        due.due("one pair still", x.about(6), 1);
        Due.tell(x, "Z01P");
        due.due("LATE for a fault", x.census(), CountedMissing.LATE);
        due.due("nothing changed", x.about(0), 4);
        Due.tell(x, "Z03");
        due.due("nobody", x.census(), 0);
        due.due("nobody there", x.about(1), 0);
        due.due("nobody asks", x.about(6), 0);
        due.due("no person", x.person(0, 0), CountedMissing.UNKNOWN);
        Due.tell(x, "Z03P1b2P1c3");
        due.due("two others", x.census(), 2);
        due.due("no old pairs", x.person(1, 6), 0);
        due.due("home of one", x.person(0, 3), 1);
    }

    private static void censusForgets(Due due) {
        CountedMissing x = Due.of("Z04P0a9P0b9A01");
        x.year();
        x.go(1, 3);
        x.die(1);
        x.year();
        x.rumour(2, 5);
        x.law(2);
        x.keep(0);
        x.keep(1);
        due.due("census anew", x.census(), 2);
        due.due("law anew", x.about(2), 0);
        due.due("year anew", x.about(3), 0);
        due.due("alive anew", x.about(4), 3);
        due.due("no ACTS", x.about(7), 0);
        due.due("nothing to undo", x.undo(), CountedMissing.LATE);
        due.due("no RUMOURS", x.town(2, 2), 0);
        due.due("at home", x.person(1, 3), 0);
        due.due("since 0", x.person(1, 4), 0);
        due.due("not dead", x.person(1, 5), CountedMissing.NONE);
        due.due("slot 0 is gone", x.again(0), CountedMissing.LATE);
        due.due("slot 1 is gone", x.again(1), CountedMissing.LATE);
    }

    private static void about(Due due) {
        CountedMissing x = Due.of("Z12P0a9P0b9P1c9A01A10A20");
        x.year();
        x.go(1, 1);
        x.go(2, 0);
        x.die(2);
        int[] want = {2, 3, 1, 1, 3, 2, 3, 4, 24};
        for (int what = 0; what < want.length; what++) {
            due.due("about " + what, x.about(what), want[what]);
        }
        for (int what : new int[] {-1, 9, Integer.MIN_VALUE, Integer.MAX_VALUE}) {
            due.due("about " + what, x.about(what), CountedMissing.BAD);
        }
    }

    private static void person(Due due) {
        CountedMissing x = Due.of("Z04P3f7P3a0P0e9A01A02A20");
        x.year();
        x.go(1, 1);
        x.year();
        x.die(1);
        int[] zero = {3, 5, 7, 3, 0, CountedMissing.NONE, 6, 2};
        int[] one = {3, 0, 0, 1, 1, 2, 0, 0};
        int[] two = {0, 4, 9, 0, 0, CountedMissing.NONE, 1, 0};
        for (int what = 0; what < 8; what++) {
            due.due("person 0, " + what, x.person(0, what), zero[what]);
            due.due("person 1, " + what, x.person(1, what), one[what]);
            due.due("person 2, " + what, x.person(2, what), two[what]);
        }
        due.due("no such what", x.person(0, 8), CountedMissing.BAD);
        due.due("what below 0", x.person(0, -1), CountedMissing.BAD);
        due.due("no such person", x.person(3, 0), CountedMissing.UNKNOWN);
        due.due("person below 0", x.person(-1, 0), CountedMissing.UNKNOWN);
        due.due("UNKNOWN ahead of BAD", x.person(3, 8), CountedMissing.UNKNOWN);
        due.due("far off", x.person(Integer.MAX_VALUE, Integer.MIN_VALUE), CountedMissing.UNKNOWN);
    }

    private static void town(Due due) {
        CountedMissing x = Due.of("Z03P0a9P0b9P0b9P2c9P0d9A01A02A10A43A31");
        x.go(1, 1);
        x.go(3, 0);
        x.die(4);
        x.rumour(0, 2);
        int[] zero = {3, 3, 2, 23, 2, 2};
        int[] one = {0, 1, 0, 0, 0, 0};
        int[] two = {0, 0, 0, 8, 8, 0};
        for (int what = 0; what < 6; what++) {
            due.due("town 0, " + what, x.town(0, what), zero[what]);
            due.due("town 1, " + what, x.town(1, what), one[what]);
            due.due("town 2, " + what, x.town(2, what), two[what]);
        }
        due.due("no such what", x.town(0, 6), CountedMissing.BAD);
        due.due("what below 0", x.town(0, -1), CountedMissing.BAD);
        due.due("no such town", x.town(3, 0), CountedMissing.UNKNOWN);
        due.due("town below 0", x.town(-1, 0), CountedMissing.UNKNOWN);
        due.due("UNKNOWN ahead of BAD", x.town(3, 6), CountedMissing.UNKNOWN);
    }

    /** The three LAWS, with RUMOURS, memories and more than one HOME. */
    private static void counts(Due due) {
        CountedMissing x = Due.of("Z03P0a9P0b0P0c9P0c9P0d9P1e9P1e9A02A03A04A12A13A45A56");
        x.go(2, 1);
        x.go(3, 2);
        x.go(4, 1);
        x.go(6, 0);
        int[] zero = {5, 3, 2};
        int[] one = {1, 1, 1};
        counted(due, x, "at once", zero, one);
        x.year();
        x.rumour(0, 7);
        counted(due, x, "a memory has ended", new int[] {10, 10, 9}, one);
        x.go(2, 2);
        counted(due, x, "remembered anew", new int[] {11, 10, 9}, one);
        x.die(0);
        counted(due, x, "who is dead misses nobody", new int[] {8, 8, 8}, one);
        x.undo();
        x.go(0, 1);
        counted(due, x, "nor does who is away", new int[] {8, 8, 8}, one);
    }

    private static void counted(Due due, CountedMissing x, String when, int[] zero, int[] one) {
        for (int law = 0; law < 3; law++) {
            x.law(law);
            due.due(when + ", law " + law + " of town 0", x.town(0, 0), zero[law]);
            due.due(when + ", law " + law + " of town 1", x.town(1, 0), one[law]);
        }
    }

    /** As many as there may be, the first and the last of them missed. */
    private static void eight(Due due) {
        CountedMissing x = Due.of("Z24P0a9P0b9P0c9P0d9P0e9P0f9P0a9P0b9A10A37A32A20A67");
        x.go(0, 3);
        x.go(2, 1);
        x.go(7, 2);
        due.due("alive", x.about(4), 255);
        due.due("missed", x.about(5), 133);
        due.due("HOME", x.town(0, 3), 255);
        due.due("missing", x.town(0, 4), 133);
        due.due("missed there", x.town(0, 5), 133);
        due.due("truly", x.town(0, 1), 5);
        due.due("names a, b, c", x.town(0, 0), 3);
        due.due("whom 3 misses", x.person(3, 7), 132);
        due.due("0 is forgotten", x.forgotten(0), 10);
        due.due("7 is forgotten", x.forgotten(7), 10);
        due.due("4 is there", x.forgotten(4), 0);
        due.due("no other names", x.lie(0, 4), CountedMissing.NONE);
        due.due("names 2", x.leave(0, 2), 2);
        due.due("names 1", x.leave(0, 1), 10);
        due.due("names 0", x.leave(0, 0), 74);
        due.due("4, 5 and 6 are free", x.spans(0, 3, 0), 8);
        due.due("the first of these", x.toAsk(0, 3), 4);
        due.due("of eight", x.chance(0, 0, 3, true), 1);
        due.due("far too many", x.retold(0, 1, 0, 0), CountedMissing.LATE);
        x.law(0);
        due.due("pairs", x.town(0, 0), 4);
        due.due("all lies", x.lie(0, 15), 11);
        due.due("more than all", x.lie(0, 16), CountedMissing.NONE);
    }

    private static void law(Due due) {
        CountedMissing x = Due.of("Z11");
        due.due("law 2", x.law(2), 1);
        due.due("law 0", x.law(0), 2);
        due.due("law 0 again", x.law(0), 0);
        for (int law : new int[] {-1, 3, Integer.MIN_VALUE, Integer.MAX_VALUE}) {
            due.due("law " + law, x.law(law), CountedMissing.BAD);
        }
        due.due("still 0", x.about(2), 0);
        due.due("no ACT", x.about(7), 0);
        x.law(1);
        due.due("law 1", x.about(2), 1);
    }
}
