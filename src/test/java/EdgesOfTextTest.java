/** The edges of promises 1 to 5: the new object, write, wipe, fault, census; sentence by sentence. */
public final class EdgesOfTextTest {
    private static final int UNKNOWN = -1, BAD = -2, LATE = -3, FULL = -4, NONE = -9;
    private static final int[] FAR_OFF = {Integer.MIN_VALUE, -8, -1, 0, 9, 10, 16, 255, 256, 257, Integer.MAX_VALUE};

    private static final String TWO = "Z01P0a0P0a0";
    private static final String THREE = TWO + "P0a0";
    private static final String SEVEN = THREE + "P0a0P0a0P0a0P0a0";
    private static final String EIGHT = SEVEN + "P0a0";
    private static final String ELEVEN_PAIRS = "A01A02A03A10A12A13A20A21A23A30A31";
    private static final String TWELVE_PAIRS = ELEVEN_PAIRS + "A32";

    public static void main(String[] args) {
        Due due = new Due("EdgesOfTextTest");
        newObject(due);
        newObjectAnswers(due);
        writeSizes(due);
        writeOrder(due);
        writeFull(due);
        wipe(due);
        faultOfLength(due);
        faultOfHead(due);
        faultOfPerson(due);
        faultOfPair(due);
        faultWhenAllAreTold(due);
        faultIsTheFirst(due);
        censusCounts(due);
        censusLate(due);
        censusBegins(due);
        due.end();
    }

    private static void newObject(Due due) {
        CountedMissing x = new CountedMissing();
        due.sentence("One TOWN, nobody.");
        due.due("TOWNS", x.about(0), 1);
        due.due("the TOWN", x.town(0, 3), 0);
        due.due("no second TOWN", x.town(1, 3), UNKNOWN);
        due.due("no TOWN below", x.town(-1, 3), UNKNOWN);
        due.due("PEOPLE", x.about(1), 0);
        due.due("nobody", x.person(0, 0), UNKNOWN);
        due.due("nobody alive", x.about(4), 0);
        due.due("nobody MISSED", x.about(5), 0);
        due.due("no pairs", x.about(6), 0);
        due.due("nobody truly", x.town(0, 1), 0);
        due.sentence("At first LAW is 0, there is one TOWN, nobody. THE YEAR is 0 at first");
        due.due("LAW", x.about(2), 0);
        due.due("what LAW was", x.law(1), 0);
        due.due("THE YEAR", x.about(3), 0);
        due.due("no ACTS", x.about(7), 0);
        due.due("an empty TEXT", x.about(8), 0);
        due.due("no RUMOURS", x.town(0, 2), 0);
        due.due("COUNT", x.town(0, 0), 0);
    }

    /** What every call answers where there is one TOWN and nobody. */
    private static void newObjectAnswers(Due due) {
        CountedMissing x = new CountedMissing();
        due.sentence("One TOWN, nobody.");
        due.due("wipe", x.wipe(), 0);
        due.due("fault", x.fault(), 0);
        due.due("census", x.census(), LATE);
        due.due("go", x.go(0, 0), UNKNOWN);
        due.due("die", x.die(0), UNKNOWN);
        due.due("undo", x.undo(), LATE);
        due.due("forgotten", x.forgotten(0), UNKNOWN);
        due.due("lie 0", x.lie(0, 0), 0);
        due.due("lie 1", x.lie(0, 1), NONE);
        due.due("leave", x.leave(0, 0), 0);
        due.due("sets", x.spans(0, 0, 0), 1);
        due.due("sets of 1", x.spans(0, 1, 0), 0);
        due.due("fewest there", x.spans(0, 0, 1), 0);
        due.due("most there", x.spans(0, 0, 2), 0);
        due.due("toAsk", x.toAsk(0, 0), NONE);
        due.due("ways", x.retold(0, 3, 0, 0), 1);
        due.due("surely", x.retold(0, 3, 0, 1), 0);
        due.due("chance of 0, above", x.chance(0, 0, 10, true), 1);
        due.due("chance of 0, below", x.chance(0, 0, 10, false), 1);
        due.due("chance of 1, above", x.chance(0, 1, 10, true), 0);
        due.due("chance of 1, below", x.chance(0, 1, 10, false), 1);
        due.due("again 0", x.again(0), LATE);
        due.due("again 1", x.again(1), LATE);
        due.due("keep", x.keep(1), 0);
        due.due("again", x.again(1), 0);
        due.due("rumour", x.rumour(0, 1), 1);
        due.due("year", x.year(), 1);
    }

    private static void writeSizes(Due due) {
        due.sentence("n bytes (1 .. 8) of v");
        for (int n = 1; n <= 8; n++) {
            CountedMissing x = new CountedMissing();
            due.due("write " + n, x.write(n, 0), n);
            due.due("how long " + n, x.about(8), n);
            due.due("write " + n + " behind", x.write(n, -1), 2 * n);
        }
        for (int n : FAR_OFF) {
            if (n < 1 || n > 8) {
                CountedMissing x = new CountedMissing();
                x.write(5, 0);
                due.due("write " + n, x.write(n, 90), BAD);
                due.due("as long as before", x.about(8), 5);
            }
        }
    }

    /** Whatever stands in v above the lowest n is left out, signs and all. */
    private static void writeOrder(Due due) {
        due.sentence("the lowest n, the highest of these first, come behind THE TEXT");
        String text = "Z01P0a0P";
        for (int n = 1; n <= 8; n++) {
            long low = Due.bytes(text.substring(0, n));
            for (long high : new long[] {0, -1, 0x5A5A5A5A5A5A5A5AL, Long.MIN_VALUE}) {
                CountedMissing x = new CountedMissing();
                x.write(n, n == 8 ? low : high << 8 * n | low);
                due.due("fault of the lowest " + n, x.fault(), n == 3 || n == 7 ? NONE : n);
            }
        }
        CountedMissing x = new CountedMissing();
        x.write(3, Due.bytes("10Z"));
        due.due("the lowest is the last", x.fault(), 0);
        Due.tell(x, "Z24");
        x.write(8, Due.bytes("P3f9P0a0"));
        due.due("behind THE TEXT", x.census(), 2);
        due.due("the first told", x.person(0, 0), 3);
        due.due("the second told", x.person(1, 0), 0);
    }

    private static void writeFull(Due due) {
        due.sentence("FULL: it would be longer than 80 (nothing comes)");
        for (int n = 1; n <= 8; n++) {
            CountedMissing x = ofLength(80 - n);
            due.due("80 by " + n, x.write(n, 0), 80);
            due.due("81 by 1", x.write(1, 0), FULL);
            due.due(n + " behind 80", x.write(n, 0), FULL);
            due.due("still 80", x.about(8), 80);
            x = ofLength(81 - n);
            due.due("81 by " + n, x.write(n, 0), FULL);
            due.due("nothing comes of " + n, x.about(8), 81 - n);
            due.due("wiped", x.wipe(), 81 - n);
            due.due("not full now", x.write(n, 0), n);
        }
    }

    private static CountedMissing ofLength(int length) {
        CountedMissing x = new CountedMissing();
        for (int left = length; left > 0; left -= 8) {
            x.write(Math.min(left, 8), 0);
        }
        return x;
    }

    private static void wipe(Due due) {
        due.sentence("THE TEXT is empty: how long it was.");
        CountedMissing x = new CountedMissing();
        due.due("empty at first", x.wipe(), 0);
        x.write(1, 'Z');
        due.due("one byte", x.wipe(), 1);
        due.due("empty", x.wipe(), 0);
        due.due("how long", x.about(8), 0);
        due.due("fault of nothing", x.fault(), 0);
        due.due("no CENSUS", x.census(), LATE);
        x = ofLength(80);
        due.due("80 bytes", x.wipe(), 80);
        due.due("empty again", x.wipe(), 0);
        due.due("from the beginning", x.write(3, Due.bytes("Z01")), 3);
        due.due("nothing of the 80", x.fault(), NONE);
    }

    private static int faultOf(String text) {
        CountedMissing x = new CountedMissing();
        Due.tell(x, text);
        return x.fault();
    }

    private static void faultOfLength(Due due) {
        due.sentence("its length, if it is only not at its end; NONE: none.");
        String text = "Z24P3f9P0a0A01A10";
        String ends = "...*...*...*..*..*";
        for (int length = 0; length <= text.length(); length++) {
            due.due("length " + length, faultOf(text.substring(0, length)), ends.charAt(length) == '*' ? NONE : length);
        }
        due.due("the longest there is", faultOf(EIGHT + TWELVE_PAIRS), NONE);
        due.due("and all but its end", faultOf(EIGHT + ELEVEN_PAIRS + "A3"), 70);
    }

    /** Of all bytes only the allowed ones may come behind this beginning; with these it is whole, or not at its end. */
    private static void only(Due due, String before, String allowed, boolean whole) {
        for (char next = 0; next < 256; next++) {
            int good = whole ? NONE : before.length() + 1;
            int want = allowed.indexOf(next) < 0 ? before.length() : good;
            due.due("byte " + (int) next + " behind " + before, faultOf(before + next), want);
        }
    }

    private static void faultOfHead(Due due) {
        due.sentence("A CENSUS is a TEXT: Z, LAW (0 .. 2), n, then PARTS, none or more");
        only(due, "", "Z", false);
        only(due, "Z", "012", false);
        due.sentence("0 .. n - 1 (n 1 ..");
        only(due, "Z0", "1234", true);
        only(due, "Z2", "1234", true);
        due.sentence("then PARTS, none or more");
        only(due, "Z01", "P", false);
        due.due("a CENSUS without PARTS", Due.of("Z14").about(1), 0);
    }

    private static void faultOfPerson(Due due) {
        due.sentence("a PERSON whose HOME is TOWN t");
        only(due, "Z01P", "0", false);
        only(due, "Z02P", "01", false);
        only(due, "Z03P", "012", false);
        only(due, "Z04P", "0123", false);
        due.sentence("of NAME a (a .. f; many may have one)");
        only(due, "Z04P3", "abcdef", false);
        only(due, "Z01P0a0P0", "abcdef", false);
        due.sentence("who remembers for m YEARS (0 .. 9)");
        only(due, "Z04P3f", "0123456789", true);
        due.sentence("both told ahead of it");
        only(due, "Z04P3f9", "P", false);
        only(due, TWO, "PA", false);
    }

    private static void faultOfPair(Due due) {
        due.sentence("PERSON i ASKS after PERSON j (unlike, both told ahead of it, no such pair twice");
        only(due, TWO + "A", "01", false);
        only(due, TWO + "A0", "1", true);
        only(due, TWO + "A1", "0", true);
        only(due, THREE + "A1", "02", true);
        only(due, TWO + "A01", "PA", false);
        only(due, THREE + "A01A", "012", false);
        only(due, THREE + "A01A0", "2", true);
        only(due, THREE + "A01A1", "02", true);
        only(due, EIGHT + "A", "01234567", false);
        only(due, EIGHT + "A7", "0123456", true);
        only(due, EIGHT + "A0", "1234567", true);
        due.due("told behind it", faultOf(TWO + "A02P0a0"), 13);
        due.due("told ahead of it", faultOf(THREE + "A02"), NONE);
        due.due("the other way round is another pair", faultOf(TWO + "A01A10"), NONE);
        due.due("one of another HOME", faultOf("Z02P0a0P1a0A01A10"), NONE);
    }

    /** A byte is at fault as soon as nothing behind it could make a CENSUS. */
    private static void faultWhenAllAreTold(Due due) {
        due.sentence("the place (from 0) of the first byte by which THE TEXT can be no CENSUS, whatever came behind it");
        only(due, TWO + "A01A", "1", false);
        only(due, TWO + "A10A", "0", false);
        only(due, TWO + "A01A10", "P", false);
        only(due, TWO + "A01A10P0a0", "PA", false);
        only(due, TWO + "A01A10P0a0A", "012", false);
        only(due, THREE + "A01A02A", "12", false);
        only(due, THREE + "A01A02A20A21A", "1", false);
        only(due, THREE + "A01A02A20A21A10A12", "P", false);
        only(due, EIGHT + "A01A02A03A04A05A06A", "01234567", false);
        only(due, EIGHT + "A01A02A03A04A05A06A0", "7", true);
        only(due, EIGHT + "A01A02A03A04A05A06A07A", "1234567", false);
        due.sentence("(8 at most)");
        only(due, SEVEN, "PA", false);
        only(due, EIGHT, "A", false);
        due.sentence("12 pairs at most");
        only(due, EIGHT + ELEVEN_PAIRS, "A", false);
        only(due, EIGHT + TWELVE_PAIRS, "", false);
        only(due, SEVEN + TWELVE_PAIRS, "P", false);
        only(due, SEVEN + ELEVEN_PAIRS, "PA", false);
        only(due, SEVEN + TWELVE_PAIRS + "P0a0", "", false);
        only(due, THREE + "P0a0" + TWELVE_PAIRS, "P", false);
        only(due, THREE + "P0a0" + TWELVE_PAIRS + "P0a0", "P", false);
    }

    private static void faultIsTheFirst(Due due) {
        due.sentence("FAULT; NONE.");
        due.due("all wrong", faultOf("aaaa"), 0);
        due.due("LAW and n", faultOf("Z35"), 1);
        due.due("n and a PART", faultOf("Z05Q"), 2);
        due.due("HOME and NAME", faultOf("Z04P4g"), 4);
        due.due("NAME and YEARS", faultOf("Z04P3gx"), 5);
        due.due("the asker and the asked", faultOf(TWO + "A25"), 12);
        due.due("good bytes behind it", faultOf("Z01P0a0X" + "P0a0"), 7);
        due.sentence("(its length set aside)");
        String longest = EIGHT + TWELVE_PAIRS;
        due.due("80 bytes", faultOf(longest + "P0a0P0a0P"), 71);
        due.due("80 other bytes", faultOf(longest.substring(0, 68) + "AAAAAAAAAAAA"), 69);
        due.due("80 bytes of nothing", ofLength(80).fault(), 0);
    }

    private static void censusCounts(Due due) {
        due.sentence("how many PEOPLE. LATE: a FAULT.");
        for (int people = 0; people <= 8; people++) {
            CountedMissing x = Due.of(EIGHT.substring(0, 3 + 4 * people));
            due.due("PEOPLE", x.census(), people);
            due.due("about PEOPLE", x.about(1), people);
            due.due("all alive", x.about(4), (1 << people) - 1);
            due.due("all of that HOME", x.town(0, 3), (1 << people) - 1);
            due.due("no one more", x.person(people, 0), UNKNOWN);
        }
        due.sentence("PEOPLE numbered as they are told");
        CountedMissing x = Due.of("Z04P3a1P2b2A10P1c3A20A21P0d4A32");
        for (int i = 0; i < 4; i++) {
            due.due("HOME of " + i, x.person(i, 0), 3 - i);
            due.due("NAME of " + i, x.person(i, 1), i);
            due.due("YEARS of " + i, x.person(i, 2), i + 1);
            due.due("whom " + i + " ASKS after", x.person(i, 6), new int[] {0, 1, 3, 4}[i]);
        }
        due.due("pairs", x.about(6), 4);
    }

    private static void censusLate(Due due) {
        due.sentence("LATE: a FAULT.");
        String[] faults = {"", "Z", "Z0", "Z01P", "Z01P0", "Z01P0a", TWO + "A", TWO + "A0", "z01", "Z31", "Z05",
            "Z01A", "Z01P1a0", "Z01P0g0", "Z01P0a:", TWO + "A00", TWO + "A01A01", EIGHT + "P0a0",
            EIGHT + TWELVE_PAIRS + "A40", EIGHT + TWELVE_PAIRS + "P0a0P0a0P"};
        for (String fault : faults) {
            CountedMissing x = Due.of("Z23P2f4P1e3A01");
            Due.tell(x, fault);
            x.year();
            x.keep(0);
            due.due("census of " + fault, x.census(), LATE);
            due.due("LAW", x.about(2), 2);
            due.due("TOWNS", x.about(0), 3);
            due.due("PEOPLE", x.about(1), 2);
            due.due("THE YEAR", x.about(3), 1);
            due.due("HOME", x.person(0, 0), 2);
            due.due("NAME", x.person(0, 1), 5);
            due.due("YEARS", x.person(0, 2), 4);
            due.due("asks", x.person(0, 6), 2);
            due.due("pairs", x.about(6), 1);
            due.due("ACTS", x.about(7), 1);
            due.due("THE TEXT", x.about(8), fault.length());
            due.due("kept", x.again(0), 1);
        }
    }

    private static void censusBegins(Due due) {
        due.sentence("THE TEXT is THE CENSUS (THE TEXT itself stays; no RUMOURS, no ACTS; what was kept is gone)");
        CountedMissing x = Due.of("Z04P0a9P3b9A01");
        for (int town = 0; town < 4; town++) {
            Due.rumours(x, town, 99);
        }
        x.go(0, 2);
        x.die(1);
        x.keep(0);
        x.keep(1);
        x.law(1);
        due.due("census", x.census(), 2);
        due.due("THE TEXT stays", x.about(8), 14);
        due.due("without a fault", x.fault(), NONE);
        for (int town = 0; town < 4; town++) {
            due.due("RUMOURS in " + town, x.town(town, 2), 0);
        }
        due.due("ACTS", x.about(7), 0);
        due.due("undo", x.undo(), LATE);
        due.due("slot 0", x.again(0), LATE);
        due.due("slot 1", x.again(1), LATE);
        due.due("LAW of THE TEXT", x.about(2), 0);
        due.sentence("THE YEAR is 0 at first; all are at HOME and alive, since THE YEAR 0.");
        Due.years(x, 3);
        x.go(0, 3);
        x.census();
        due.due("THE YEAR", x.about(3), 0);
        due.due("alive", x.about(4), 3);
        for (int i = 0; i < 2; i++) {
            due.due("at HOME " + i, x.person(i, 3), 3 * i);
            due.due("since " + i, x.person(i, 4), 0);
            due.due("not dead " + i, x.person(i, 5), NONE);
        }
        due.sentence("THE TEXT itself stays");
        x.write(4, Due.bytes("P1c2"));
        due.due("written on", x.census(), 3);
        due.due("the one told behind", x.person(2, 0), 1);
    }
}
