/** From the document's first line to its last: the sentences that take many objects or calls to be looked at whole. */
public final class FirstToLastTest {
    private static final int NONE = -9;
    private static final int MOST_CALLS = 512;
    private static final String EIGHT = "P0a9P0b9P0c9P0d9P0e9P0f9P0a9P0b9";

    public static void main(String[] args) {
        Due due = new Due("FirstToLastTest");
        callsOfYears(due);
        callsOfAll(due);
        setsAreBits(due);
        textOfBytes(due);
        hears(due);
        missingAtItsHome(due);
        spansOfWhatIsNotKnown(due);
        spansOfEachCount(due);
        toAsk(due);
        retoldFigures(due);
        retoldAllWays(due);
        retoldOfAnyState(due);
        refusals(due);
        none(due);
        promised(due);
        due.end();
    }

    private static void callsOfYears(Due due) {
        due.sentence("An object is used for at most 512 calls after it has been made");
        CountedMissing x = new CountedMissing();
        x.write(3, Due.bytes("Z24"));
        x.census();
        for (int year = 1; year <= MOST_CALLS - 2; year++) {
            due.due("call " + (year + 2), x.year(), year);
        }
        x = new CountedMissing();
        for (int call = 1; call <= MOST_CALLS; call++) {
            due.due("call " + call, call % 2 == 0 ? x.wipe() : x.write(8, 0), 8);
        }
    }

    /** Each answer is what a young object in that state answers. */
    private static void callsOfAll(Due due) {
        String text = "Z02" + EIGHT.substring(0, 24) + "A01A12A23A34A45A50";
        CountedMissing x = Due.of(text);
        // Told by 1 call of wipe, 6 of write, 1 of census; from then on a census every eighth call.
        for (int calls = 8; calls < MOST_CALLS; calls++) {
            CountedMissing young = Due.of(text);
            if (calls % 8 > 1) {
                young.go(1, 1);
            }
            due.due("call " + (calls + 1), asked(x, calls), asked(young, calls));
        }
    }

    private static long asked(CountedMissing x, int k) {
        switch (k % 8) {
            case 0:
                return x.census();
            case 1:
                return x.go(1, 1);
            case 2:
                return x.lie(0, k / 8 % 6);
            case 3:
                return x.leave(0, 0);
            case 4:
                return x.spans(0, k / 8 % 4, k % 3);
            case 5:
                return x.toAsk(0, k / 8 % 4);
            case 6:
                return x.retold(0, 3, k % 333, 0);
            default:
                return x.chance(0, k / 8 % 4, k / 8 % 11, true);
        }
    }

    private static void setsAreBits(Due due) {
        due.sentence("sets of them bits");
        for (int i = 0; i < 8; i++) {
            int j = (i + 3) % 8;
            CountedMissing x = Due.of("Z02" + EIGHT + "A" + i + j);
            due.due("after whom " + i + " ASKS", x.person(i, 6), 1 << j);
            x.go(j, 1);
            due.due("whom " + i + " MISSES", x.person(i, 7), 1 << j);
            due.due("who is MISSED", x.about(5), 1 << j);
            due.due("who is MISSING", x.town(0, 4), 1 << j);
            due.due("who of these is MISSED", x.town(0, 5), 1 << j);
            due.due("TO LEAVE", x.leave(0, 0), 1 << i);
            x.die(i);
            due.due("who is alive", x.about(4), 255 - (1 << i));
            String towns = "P0a0P0b0P0c0P0d0P0e0P0f0P0a0P0b0";
            x = Due.of("Z02" + towns.substring(0, 4 * i) + "P1c0" + towns.substring(4 * i + 4));
            due.due("whose HOME it is", x.town(1, 3), 1 << i);
            due.due("whose HOME the other is", x.town(0, 3), 255 - (1 << i));
        }
        for (int i = 0; i < 6; i++) {
            int j = (i + 1) % 6;
            CountedMissing x = Due.of("Z01" + EIGHT.substring(0, 24) + "A" + i + j);
            due.due("who surely went", x.retold(0, 1, 1, 1), 1 << j);
        }
    }

    private static void textOfBytes(Due due) {
        due.sentence("THE TEXT is bytes (80 at most)");
        CountedMissing x = new CountedMissing();
        for (int k = 1; k <= 80; k++) {
            due.due("byte " + k, x.write(1, 255 - k), k);
            due.due("bytes", x.about(8), k);
        }
        due.due("no more", x.write(1, 'Z'), -4);
        due.sentence("come behind THE TEXT: how long it is.");
        for (int n = 1; n <= 8; n++) {
            x = new CountedMissing();
            for (int k = n; k <= 80; k += n) {
                due.due(n + " bytes", x.write(n, Long.MIN_VALUE), k);
            }
            due.due("fewer than " + n + " are left", x.write(n, 0), -4);
        }
    }

    private static void hears(Due due) {
        due.sentence("its HOME HEARS of it so many YEARS later as that TOWN is away from its HOME");
        for (int home = 0; home < 4; home++) {
            for (int where = 0; where < 4; where++) {
                CountedMissing x = Due.of("Z04P" + home + "a9");
                Due.years(x, 3);
                x.go(0, where);
                due.due("HOME " + home + ", dead in " + where, x.die(0), 3 + Math.abs(home - where));
                heardFrom(due, x, home, 3 + Math.abs(home - where));
            }
        }
    }

    private static void heardFrom(Due due, CountedMissing x, int home, int heard) {
        due.sentence("(it HEARS in the YEAR in which one died and so many YEARS later; from that YEAR on one is not MISSING)");
        for (int year = 3; year <= 8; year++) {
            due.due("in " + year + ", HEARD in " + heard, x.town(home, 4), year < heard ? 1 : 0);
            x.year();
        }
    }

    private static void missingAtItsHome(Due due) {
        due.sentence("One is MISSING at its HOME, if it is not there (elsewhere, or dead)");
        for (int home = 0; home < 4; home++) {
            CountedMissing x = Due.of("Z04P" + home + "a9");
            for (int where = 0; where < 4; where++) {
                x.go(0, where);
                for (int town = 0; town < 4; town++) {
                    due.due("HOME " + home + ", in " + where + ", asked of " + town, x.town(town, 4),
                            town == home && where != home ? 1 : 0);
                }
            }
        }
    }

    private static void spansOfWhatIsNotKnown(Due due) {
        due.sentence("it is not known who of a HOME is there, who is away since THE YEAR");
        CountedMissing x = Due.of("Z02P0a0P0b0P0c0A01A02A12");
        int[] sets = {4, 2, 2, 0};
        for (int act = 0; act < 5; act++) {
            for (int c = 0; c < sets.length; c++) {
                due.due("sets of " + c + " behind " + act + " ACTS", x.spans(0, c, 0), sets[c]);
            }
            due.holds("ACT " + act + " is done", act(x, act) >= 0);
        }
    }

    /** A PERSON goes, another dies, RUMOURS, and YEARS go by. */
    private static int act(CountedMissing x, int k) {
        return k == 0 ? x.go(1, 1) : k == 1 ? x.die(0) : k == 2 ? x.rumour(0, 9) : x.year();
    }

    private static void spansOfEachCount(Due due) {
        due.sentence("COUNT is c (0 .. 99): how many sets of those that are away there are by that");
        String[] texts = {"Z01", "Z01P0a0", "Z01P0a0P0b0A01A10", "Z01" + EIGHT + "A01A02A03A04A05A06A07A10A20A30A40A50",
            "Z11" + EIGHT + "A01A12A23A34A45A56A67A70A02A13A24A35", "Z21" + EIGHT + "A76A65A54A43A32A21A10A07"};
        for (String text : texts) {
            CountedMissing x = Due.of(text);
            int all = 1 << x.about(1);
            int left = all;
            for (int c = 0; c <= 99; c++) {
                due.due(text + ", chance of " + c, x.chance(0, c, 5, true) * all, left * x.chance(0, c, 5, false));
                left -= x.spans(0, c, 0);
            }
            due.due(text + ", sets of any COUNT", left, 0);
        }
    }

    private static void toAsk(Due due) {
        due.sentence("of those of that HOME the one of whom it is best to hear whether it is there: of the sets in which it is away");
        CountedMissing x = Due.of("Z01P0a0P0b0P0c0A01A02");
        due.due("of five, 0 is away in 4, 1 and 2 in 2", x.toAsk(0, 0), 1);
        due.due("of two, 0 is away in none, 1 and 2 in one", x.toAsk(0, 1), 1);
        due.due("of one", x.toAsk(0, 2), 0);
        due.due("of none", x.toAsk(0, 3), NONE);
        x = Due.of("Z01P0a0P0b0P0c0A20");
        due.due("of six, 0 is away in 2, 1 in 3, 2 in 4", x.toAsk(0, 0), 1);
        due.due("of two, 0 is away in both, 1 in one, 2 in none", x.toAsk(0, 1), 1);
        x = Due.of("Z02P1a0P0b0P0c0P0d0A12A02A32");
        due.due("of five, 1 and 3 are away in 2, 2 in 1", x.toAsk(0, 0), 1);
        due.due("of two, 1 and 3 are away in one each", x.toAsk(0, 1), 1);
        due.due("the HOME of one alone", x.toAsk(1, 0), 0);
    }

    private static void retoldFigures(Due due) {
        due.sentence("for each of n YEARS (1 .. 3) c (0 .. 9), the first YEAR's as the first figure");
        CountedMissing x = Due.of("Z01P0a9P0b9P0c9P0d9A01A02A03");
        due.due("1, 2, 3", x.retold(0, 3, 123, 0), 6);
        due.due("3, 2, 1", x.retold(0, 3, 321, 0), 0);
        due.due("0, 0, 3", x.retold(0, 3, 3, 0), 1);
        due.due("0, 3, 3", x.retold(0, 3, 33, 0), 1);
        due.due("3, 3, 0: who ASKS goes last", x.retold(0, 3, 330, 0), 1);
        due.due("3, 3, 0, surely", x.retold(0, 3, 330, 1), 15);
        due.due("0, 3", x.retold(0, 2, 3, 0), 1);
        due.due("3", x.retold(0, 1, 3, 1), 14);
        due.due("3, 0, surely", x.retold(0, 2, 30, 1), 15);
        due.due("0, 9", x.retold(0, 2, 9, 0), 0);
    }

    private static void retoldAllWays(Due due) {
        due.sentence("RUMOURS aside, COUNT in each YEAR is so: in how many ways; who surely went (bits).");
        String[] texts = {"Z01", "Z01P0a0", "Z01P0a1P0b0A01A10", "Z01P0a0P0b1P0c2A01A12A20A02",
            "Z11P0a0P0b1P0c9P0a0A01A12A23A30", "Z21P0a0P0a1P0b2P0b0P0c1A01A12A23A34A40A03"};
        for (String text : texts) {
            for (int n = 1; n <= 3; n++) {
                int people = Due.of(text).about(1);
                due.due(text + ", ways of " + n + " YEARS", waysOfAll(text, n), power(n + 1, people));
            }
        }
    }

    /** Whatever may be told, each of a HOME stays or goes in one of n YEARS. */
    private static long waysOfAll(String text, int n) {
        CountedMissing x = Due.of(text);
        long ways = 0;
        for (int told = 0; told < power(10, n); told++) {
            if (told % 400 == 0) {
                x = Due.of(text);
            }
            ways += x.retold(0, n, told, 0);
        }
        return ways;
    }

    private static long power(int base, int exponent) {
        return exponent == 0 ? 1 : base * power(base, exponent - 1);
    }

    private static void retoldOfAnyState(Due due) {
        due.sentence("all of a HOME are there ahead of the first YEAR; each stays, or goes in one of these YEARS for good");
        CountedMissing x = Due.of("Z02P0a1P0b0P0c0A01A02");
        for (int act = 0; act < 5; act++) {
            due.due("nobody goes, or 0 ahead of the others", x.retold(0, 1, 0, 0), 5);
            due.due("both remembered", x.retold(0, 2, 12, 0), 2);
            due.due("both remembered, surely", x.retold(0, 2, 12, 1), 6);
            due.due("the first one not for two YEARS", x.retold(0, 3, 121, 0), 2);
            due.due("for good: no one is remembered anew", x.retold(0, 3, 101, 0), 0);
            due.holds("ACT " + act + " is done", act(x, act) >= 0);
        }
    }

    private static void refusals(Due due) {
        due.sentence("UNKNOWN -1 (there is no such PERSON, TOWN, SLOT), BAD -2, LATE -3, FULL -4.");
        CountedMissing x = Due.of("Z01P0a0");
        due.due("no PERSON", x.die(1), -1);
        due.due("no TOWN", x.town(1, 0), -1);
        due.due("no SLOT", x.keep(2), -1);
        due.due("BAD", x.law(3), -2);
        due.due("BAD as a long", x.chance(0, 100, 0, false), -2);
        due.due("LATE", x.undo(), -3);
        Due.rumours(x, 0, 99);
        due.due("FULL", x.rumour(0, 1), -4);
    }

    private static void none(Due due) {
        due.sentence("NONE is -9.");
        CountedMissing x = Due.of("Z01P0a0");
        due.due("fault", x.fault(), -9);
        due.due("person", x.person(0, 5), -9);
        due.due("lie", x.lie(0, 1), -9);
        due.due("spans", x.spans(0, 1, 1), -9);
        due.due("toAsk", x.toAsk(0, 1), -9);
        due.due("retold", x.retold(0, 1, 1, 1), -9);
        x.rumour(0, 1);
        due.due("leave", x.leave(0, 0), -9);
    }

    private static void promised(Due due) {
        due.sentence("One GOES: since when it was where it was.");
        CountedMissing x = Due.of("Z03P0a9P0b9P1c9A01");
        Due.years(x, 2);
        due.due("from HOME", x.go(1, 2), 0);
        x.year();
        due.due("from elsewhere", x.go(1, 1), 2);
        due.sentence("A RUMOUR: how many there are.");
        due.due("the first", x.rumour(0, 4), 4);
        due.due("more", x.rumour(0, 9), 13);
        due.due("elsewhere", x.rumour(1, 1), 1);
        due.sentence("Of a TOWN COUNT (what = 0), how many there TRULY are (1), RUMOURS (2), whose HOME it is");
        int[] zero = {14, 1, 13, 3};
        int[] one = {1, 2, 1, 4};
        for (int what = 0; what < 4; what++) {
            due.due("town 0, " + what, x.town(0, what), zero[what]);
            due.due("town 1, " + what, x.town(1, what), one[what]);
        }
        due.sentence("One DIES: the YEAR in which its HOME HEARS.");
        due.due("away", x.die(1), 4);
        due.due("at HOME", x.die(2), 3);
    }
}
