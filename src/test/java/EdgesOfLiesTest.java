/** The edges of promises 15 to 17: forgotten, lie, leave; sentence by sentence. */
public final class EdgesOfLiesTest {
    private static final int UNKNOWN = -1, BAD = -2, NONE = -9;
    private static final int[] FAR_OFF = {Integer.MIN_VALUE, -256, -1, 8, 32, 256, Integer.MAX_VALUE};
    private static final int[] NO_COUNT = {Integer.MIN_VALUE, -100, -1, 100, 101, 256, Integer.MAX_VALUE};

    public static void main(String[] args) {
        Due due = new Due("EdgesOfLiesTest");
        forgottenUnknown(due);
        forgottenNow(due);
        forgottenLater(due);
        forgottenDead(due);
        forgottenByTheLast(due);
        lieRefused(due);
        lieAsMany(due);
        lieAskers(due);
        lieMissing(due);
        lieRemembered(due);
        lieByLaw(due);
        lieBeyondTwelve(due);
        lieUpToAll(due);
        leaveRefused(due);
        leaveAsFew(due);
        leaveWho(due);
        leaveLeast(due);
        leaveByLaw(due);
        leaveRumours(due);
        due.end();
    }

    private static void forgottenUnknown(Due due) {
        due.sentence("FORGOTTEN. UNKNOWN.");
        CountedMissing x = Due.of("Z01P0a0P0b0P0c0");
        for (int far : FAR_OFF) {
            due.due("person " + far, x.forgotten(far), UNKNOWN);
        }
        due.due("the PERSON behind the last", x.forgotten(3), UNKNOWN);
        due.due("the last PERSON", x.forgotten(2), 0);
    }

    private static void forgottenNow(Due due) {
        due.sentence("THE YEAR, if nobody does now.");
        CountedMissing x = Due.of("Z02P0a9P0b9P0c9P1d9A01A02A31");
        Due.years(x, 5);
        due.due("at HOME", x.forgotten(1), 5);
        x.go(2, 1);
        due.due("MISSED", x.forgotten(2), 15);
        x.go(0, 1);
        due.due("who ASKS is away", x.forgotten(2), 5);
        due.due("nobody ASKS after it", x.forgotten(0), 5);
        x.undo();
        x.die(0);
        due.due("who ASKS is dead", x.forgotten(2), 5);
        x.go(1, 1);
        due.due("one of another HOME ASKS", x.forgotten(1), 5);
        due.due("the dead, at HOME", x.forgotten(0), 5);
    }

    private static void forgottenLater(Due due) {
        due.sentence("the first YEAR (THE YEAR, or later) in which nobody MISSES one (if nothing else happens)");
        for (int years = 0; years <= 9; years++) {
            CountedMissing x = Due.of("Z02P0a" + years + "P0b0A01");
            Due.years(x, 3);
            x.go(1, 1);
            for (int year = 3; year <= 14; year++) {
                due.due("in " + year + ", remembered for " + years, x.forgotten(1), Math.max(year, 4 + years));
                x.year();
            }
        }
        CountedMissing x = Due.of("Z02P0a9P0b0A01");
        Due.years(x, 100);
        x.go(1, 1);
        due.due("in a late YEAR", x.forgotten(1), 110);
        due.due("THE YEAR stays", x.about(3), 100);
    }

    private static void forgottenDead(Due due) {
        due.sentence("from that YEAR on one is not MISSING");
        for (int years = 0; years <= 4; years++) {
            for (int town = 1; town <= 3; town++) {
                CountedMissing x = Due.of("Z04P0a" + years + "P0b0A01");
                x.year();
                x.go(1, town);
                x.die(1);
                due.due("dead in " + town + ", remembered for " + years, x.forgotten(1),
                        1 + Math.min(town, years + 1));
            }
        }
        CountedMissing x = Due.of("Z04P3a9P3b0A01");
        x.die(1);
        due.due("dead at HOME", x.forgotten(1), 0);
    }

    private static void forgottenByTheLast(Due due) {
        due.sentence("in which nobody MISSES one");
        CountedMissing x = Due.of("Z02P0a9P0b5P0c2P0d0A03A13A23");
        x.go(3, 1);
        due.due("the longest remembers", x.forgotten(3), 10);
        x.go(0, 1);
        due.due("but for one away", x.forgotten(3), 6);
        x.die(1);
        due.due("and one dead", x.forgotten(3), 3);
        x.die(2);
        due.due("nobody", x.forgotten(3), 0);
    }

    private static void lieRefused(Due due) {
        due.sentence("A LIE; NONE. UNKNOWN; BAD: m.");
        CountedMissing x = Due.of("Z03P0a9");
        for (int far : FAR_OFF) {
            due.due("town " + far, x.lie(far, 0), UNKNOWN);
            due.due("UNKNOWN is told first of " + far, x.lie(far, -1), UNKNOWN);
        }
        due.due("the TOWN behind the last", x.lie(3, 100), UNKNOWN);
        for (int m : NO_COUNT) {
            due.due("m " + m, x.lie(2, m), BAD);
        }
        due.due("m 0", x.lie(2, 0), 0);
        due.due("m 99", x.lie(2, 99), NONE);
    }

    private static void lieAsMany(Due due) {
        due.sentence("by which COUNT is m (0 .. 99) or more; NONE: it can not be.");
        CountedMissing x = Due.of("Z02P0a9P0b9P0c9P0d9A02A03");
        x.go(2, 1);
        x.go(3, 1);
        int[] want = {0, 0, 0, 1, 2, NONE, NONE};
        for (int m = 0; m < want.length; m++) {
            due.due("m " + m, x.lie(0, m), want[m]);
        }
        Due.rumours(x, 0, 95);
        due.due("m 97", x.lie(0, 97), 0);
        due.due("m 98", x.lie(0, 98), 1);
        due.due("m 99", x.lie(0, 99), 2);
        x.go(0, 1);
        due.due("without who ASKS", x.lie(0, 95), 0);
        due.due("one is there", x.lie(0, 98), 3);
        due.due("NONE", x.lie(0, 99), NONE);
        Due.rumours(x, 0, 4);
        due.due("RUMOURS alone", x.lie(0, 99), 0);
    }

    private static void lieAskers(Due due) {
        due.sentence("one alive and at HOME there");
        CountedMissing x = Due.of("Z03P0a9P0b9P0c9P1d9");
        x.go(2, 1);
        due.due("two there", x.lie(0, 2), 2);
        due.due("no three", x.lie(0, 3), NONE);
        x.die(0);
        due.due("one dead", x.lie(0, 1), 1);
        due.due("no two", x.lie(0, 2), NONE);
        x.undo();
        x.go(0, 2);
        due.due("one away, and MISSING itself", x.lie(0, 2), 2);
        due.due("no three again", x.lie(0, 3), NONE);
        x.go(1, 2);
        due.due("nobody there", x.lie(0, 1), NONE);
        x.go(3, 0);
        due.due("one of another HOME there", x.lie(0, 1), NONE);
        due.due("where others are", x.lie(2, 1), NONE);
    }

    private static void lieMissing(Due due) {
        due.sentence("one of that HOME that is MISSING and that this one would remember");
        CountedMissing x = Due.of("Z04P0a9P0b9P1c9");
        due.due("nobody MISSING", x.lie(0, 1), NONE);
        x.go(2, 2);
        due.due("one of another HOME", x.lie(0, 1), NONE);
        x.go(1, 2);
        due.due("one of that HOME", x.lie(0, 1), 1);
        x.die(1);
        due.due("dead, not HEARD", x.lie(0, 1), 1);
        x.year();
        due.due("the last YEAR ahead", x.lie(0, 1), 1);
        x.year();
        due.due("HEARD", x.lie(0, 1), NONE);
        due.sentence("not yet such a pair");
        x = Due.of("Z02P0a9P0b9A01");
        x.go(1, 1);
        due.due("it is one already", x.lie(0, 1), 0);
        due.due("not twice", x.lie(0, 2), NONE);
    }

    private static void lieRemembered(Due due) {
        due.sentence("that this one would remember");
        for (int years = 0; years <= 9; years++) {
            CountedMissing x = Due.of("Z02P0a" + years + "P0b0");
            x.year();
            x.go(1, 1);
            for (int ago = 0; ago <= 10; ago++) {
                due.due(ago + " YEARS ago, remembered for " + years, x.lie(0, 1), ago <= years ? 1 : NONE);
                x.year();
            }
        }
        CountedMissing x = Due.of("Z02P0a0P0b0A01");
        x.go(1, 1);
        x.year();
        due.due("it ASKS, but would not remember", x.lie(0, 1), NONE);
    }

    private static void lieByLaw(Due due) {
        due.sentence("by LAW 1 how many are MISSED; by LAW 2 how many NAMES they have");
        CountedMissing x = Due.of("Z12P0a9P0b9P0c9P0c9P0d9A02");
        x.go(2, 1);
        x.go(3, 1);
        x.go(4, 1);
        int[] missed = {0, 0, 1, 2, NONE};
        int[] names = {0, 0, 1, NONE, NONE};
        for (int m = 0; m < 5; m++) {
            x.law(1);
            due.due("MISSED " + m, x.lie(0, m), missed[m]);
            x.law(2);
            due.due("NAMES " + m, x.lie(0, m), names[m]);
        }
        Due.rumours(x, 0, 9);
        due.due("NAMES and RUMOURS", x.lie(0, 11), 1);
        due.due("NAMES and RUMOURS, too many", x.lie(0, 12), NONE);
        x.law(1);
        due.due("MISSED and RUMOURS", x.lie(0, 12), 2);
        due.due("MISSED and RUMOURS, too many", x.lie(0, 13), NONE);
    }

    private static void lieBeyondTwelve(Due due) {
        due.sentence("the fewest new pairs (be there more than 12 then, too)");
        CountedMissing x = Due.of("Z02P0a0P0a0P0a0P0a0P0a0P0a0P0a0P0a0A04A05A06A07A14A15A16A17A24A25A26A27");
        for (int i = 4; i < 8; i++) {
            x.go(i, 1);
        }
        due.due("12 are there", x.lie(0, 12), 0);
        due.due("13", x.lie(0, 13), 1);
        due.due("16", x.lie(0, 16), 4);
        due.due("17", x.lie(0, 17), NONE);
        due.due("pairs that ASK", x.about(6), 12);
    }

    private static void lieUpToAll(Due due) {
        due.sentence("NONE: it can not be.");
        for (int away = 0; away <= 8; away++) {
            CountedMissing x = Due.of("Z02P0a0P0b0P0c0P0d0P0e0P0f0P0a0P0b0");
            for (int i = 0; i < away; i++) {
                x.go(i, 1);
            }
            int all = away * (8 - away);
            due.due("all of " + all, x.lie(0, all), all);
            due.due("more than " + all, x.lie(0, all + 1), NONE);
            x.law(1);
            int missed = away == 8 ? 0 : away;
            due.due("all MISSED", x.lie(0, missed), missed);
            due.due("more MISSED", x.lie(0, missed + 1), NONE);
            x.law(2);
            due.due("all NAMES", x.lie(0, Math.min(missed, 6)), Math.min(missed, 6));
            due.due("more NAMES", x.lie(0, Math.min(missed, 6) + 1), NONE);
        }
    }

    private static void leaveRefused(Due due) {
        due.sentence("TO LEAVE; NONE. UNKNOWN; BAD: m (0 .. 99).");
        CountedMissing x = Due.of("Z03P0a9");
        for (int far : FAR_OFF) {
            due.due("town " + far, x.leave(far, 0), UNKNOWN);
            due.due("UNKNOWN is told first of " + far, x.leave(far, -1), UNKNOWN);
        }
        due.due("the TOWN behind the last", x.leave(3, 100), UNKNOWN);
        x.rumour(2, 1);
        for (int m : NO_COUNT) {
            due.due("m " + m, x.leave(2, m), BAD);
        }
        due.due("m 0", x.leave(1, 0), 0);
        due.due("m 99", x.leave(1, 99), 0);
    }

    private static void leaveAsFew(Due due) {
        due.sentence("so that COUNT is m or less, if these MISS nobody");
        CountedMissing x = Due.of("Z02P0a9P0b9P0c9P0d9P0e9A03A04A13A24");
        x.go(3, 1);
        x.go(4, 1);
        int[] want = {7, 3, 1, 1, 0, 0};
        for (int m = 0; m < want.length; m++) {
            due.due("m " + m, x.leave(0, m), want[m]);
        }
        due.due("m 99", x.leave(0, 99), 0);
        due.due("a TOWN that is nobody's HOME", x.leave(1, 0), 0);
        due.sentence("they are not MISSED themselves by that");
        x = Due.of("Z02P0a9P0b9P0c9A02A10A12");
        x.go(2, 1);
        due.due("1 would MISS 0", x.leave(0, 1), 1);
        due.due("both", x.leave(0, 0), 3);
    }

    private static void leaveWho(Due due) {
        due.sentence("the fewest of those that are alive and at HOME there");
        CountedMissing x = Due.of("Z02P0a9P0b9P0c9P0d9P1e9P1f9A03A13A23A45");
        x.go(3, 1);
        x.go(5, 0);
        due.due("all three that MISS", x.leave(0, 0), 7);
        x.die(0);
        due.due("not the dead", x.leave(0, 0), 6);
        x.go(1, 1);
        due.due("nor who is away", x.leave(0, 0), 4);
        due.due("one of another TOWN", x.leave(1, 0), 16);
        x.go(2, 1);
        due.due("nobody is there", x.leave(0, 0), 0);
        x.go(4, 0);
        due.due("of another HOME", x.leave(0, 0), 0);
        x = Due.of("Z02P0a9P0b9P0c9P0d9P0e9P0f9P0a9P0b9A07A17A27A37A47A57A67");
        x.go(7, 1);
        due.due("seven", x.leave(0, 0), 127);
        due.due("six of seven", x.leave(0, 1), 63);
        due.due("one of seven", x.leave(0, 6), 1);
        x = Due.of("Z02P0a9P0b9P0c9P0d9P0e9P0f9P0a9P0b9A70");
        x.go(0, 1);
        due.due("the last", x.leave(0, 0), 128);
    }

    private static void leaveLeast(Due due) {
        due.sentence("as bits; of like ones the least");
        CountedMissing x = Due.of("Z02P0a9P0b9P0c9P0d9P0e9A04A14A24A34A30");
        x.go(4, 1);
        due.due("one of four", x.leave(0, 3), 1);
        due.due("two of four", x.leave(0, 2), 3);
        due.due("three of four", x.leave(0, 1), 7);
        x = Due.of("Z02P0a9P0b9P0c9P0d9P0e9P0f9A04A14A24A25A34A35");
        x.go(4, 1);
        x.go(5, 1);
        due.due("one that MISSES one", x.leave(0, 5), 1);
        due.due("one of those that MISS two, the least", x.leave(0, 4), 4);
        due.due("2 and the least", x.leave(0, 3), 5);
        due.due("both of them", x.leave(0, 2), 12);
        due.due("and the least to them", x.leave(0, 1), 13);
    }

    private static void leaveByLaw(Due due) {
        due.sentence("by LAW 1 how many are MISSED; by LAW 2 how many NAMES they have");
        CountedMissing x = Due.of("Z12P0a9P0b9P0c9P0d9P0d9P0e9A03A04A14A25");
        x.go(3, 1);
        x.go(4, 1);
        x.go(5, 1);
        int[] missed = {7, 3, 1, 0};
        int[] names = {7, 4, 0, 0};
        for (int m = 0; m < 4; m++) {
            x.law(1);
            due.due("MISSED " + m, x.leave(0, m), missed[m]);
            x.law(2);
            due.due("NAMES " + m, x.leave(0, m), names[m]);
        }
    }

    private static void leaveRumours(Due due) {
        due.sentence("NONE: RUMOURS alone are more.");
        CountedMissing x = Due.of("Z02P0a9P0b9A01");
        x.go(1, 1);
        x.rumour(0, 5);
        due.due("fewer than RUMOURS", x.leave(0, 4), NONE);
        due.due("as many as RUMOURS", x.leave(0, 5), 1);
        due.due("one more", x.leave(0, 6), 0);
        due.due("none", x.leave(0, 0), NONE);
        due.due("RUMOURS elsewhere", x.leave(1, 0), 0);
        x.undo();
        Due.rumours(x, 0, 99);
        due.due("98 of 99", x.leave(0, 98), NONE);
        due.due("99 of 99", x.leave(0, 99), 1);
        x.year();
        due.due("a YEAR later", x.leave(0, 0), 1);
    }
}
