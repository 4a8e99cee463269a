import java.math.BigInteger;
import java.util.ArrayList;
import java.util.HashSet;
import java.util.List;
import java.util.Set;
import java.util.regex.Pattern;

/**
 * The document once more, as slowly and plainly as it reads: nothing is held but THE TEXT, the parts of THE CENSUS and
 * a log of all that happened; every answer is found by going through the log and through all that could be.
 */
final class SlowMissing {
    private static final Pattern SHAPE = Pattern.compile("Z[0-2][1-4](P[0-3][a-f][0-9]|A[0-7][0-7])*");
    private static final String SIGNS = "0123456789abcdefPAZ";
    private static final int GO = 0, DIE = 1, YEAR = 2, RUMOUR = 3;

    private String text = "";
    private int law = 0;
    private int towns = 1;
    private List<String> people = new ArrayList<>();
    private List<String> pairs = new ArrayList<>();
    private List<int[]> log = new ArrayList<>();
    private int undoable = 0;
    private final List<List<int[]>> slots = new ArrayList<>(List.of(new ArrayList<>(), new ArrayList<>()));
    private final boolean[] kept = new boolean[2];

    // ---- the census

    int write(int n, long v) {
        if (n < 1 || n > 8) {
            return -2;
        }
        if (text.length() + n > 80) {
            return -4;
        }
        StringBuilder more = new StringBuilder();
        for (int k = 0; k < n; k++) {
            more.insert(0, (char) (v & 255));
            v >>>= 8;
        }
        text += more;
        return text.length();
    }

    int wipe() {
        int length = text.length();
        text = "";
        return length;
    }

    /** Whether this whole text is a CENSUS. */
    private static boolean isCensus(String text) {
        if (!SHAPE.matcher(text).matches()) {
            return false;
        }
        int towns = text.charAt(2) - '0';
        int people = 0;
        Set<String> pairs = new HashSet<>();
        for (int at = 3; at < text.length(); at += text.charAt(at) == 'P' ? 4 : 3) {
            if (text.charAt(at) == 'P') {
                people++;
                if (text.charAt(at + 1) - '0' >= towns) {
                    return false;
                }
            } else {
                int i = text.charAt(at + 1) - '0';
                int j = text.charAt(at + 2) - '0';
                if (i == j || i >= people || j >= people || !pairs.add(i + " " + j)) {
                    return false;
                }
            }
        }
        return people <= 8 && pairs.size() <= 12;
    }

    /** Whether so many signs or fewer could come behind this text to make it a CENSUS; three are enough for any. */
    private static boolean canBeCensus(String text, int more) {
        if (isCensus(text)) {
            return true;
        }
        for (int k = 0; k < SIGNS.length() && more > 0; k++) {
            if (canBeCensus(text + SIGNS.charAt(k), more - 1)) {
                return true;
            }
        }
        return false;
    }

    int fault() {
        if (isCensus(text)) {
            return -9;
        }
        // What a longer beginning can be, a shorter one can be, too.
        int good = 0;
        int bad = text.length() + 1;
        while (bad - good > 1) {
            int middle = (good + bad) / 2;
            if (canBeCensus(text.substring(0, middle), 3)) {
                good = middle;
            } else {
                bad = middle;
            }
        }
        return bad - 1;
    }

    int census() {
        if (!isCensus(text)) {
            return -3;
        }
        law = text.charAt(1) - '0';
        towns = text.charAt(2) - '0';
        people = new ArrayList<>();
        pairs = new ArrayList<>();
        for (int at = 3; at < text.length(); at += text.charAt(at) == 'P' ? 4 : 3) {
            if (text.charAt(at) == 'P') {
                people.add(text.substring(at + 1, at + 4));
            } else {
                pairs.add(text.substring(at + 1, at + 3));
            }
        }
        log = new ArrayList<>();
        undoable = 0;
        kept[0] = false;
        kept[1] = false;
        return people.size();
    }

    private boolean noPerson(int person) {
        return person < 0 || person >= people.size();
    }

    private boolean noTown(int town) {
        return town < 0 || town >= towns;
    }

    int about(int what) {
        int bits = 0;
        for (int i = 0; i < people.size(); i++) {
            if (what == 4 && died(i) == -9 || what == 5 && missedAt(i, theYear())) {
                bits += 1 << i;
            }
        }
        return switch (what) {
            case 0 -> towns;
            case 1 -> people.size();
            case 2 -> law;
            case 3 -> theYear();
            case 4, 5 -> bits;
            case 6 -> pairs.size();
            case 7 -> undoable;
            case 8 -> text.length();
            default -> -2;
        };
    }

    int person(int person, int what) {
        if (noPerson(person)) {
            return -1;
        }
        int bits = 0;
        for (int j = 0; j < people.size(); j++) {
            if (what == 6 && asks(person, j) || what == 7 && misses(person, j, theYear())) {
                bits += 1 << j;
            }
        }
        return switch (what) {
            case 0 -> home(person);
            case 1 -> name(person) - 'a';
            case 2 -> memory(person);
            case 3 -> where(person);
            case 4 -> since(person);
            case 5 -> died(person);
            case 6, 7 -> bits;
            default -> -2;
        };
    }

    int town(int town, int what) {
        if (noTown(town)) {
            return -1;
        }
        int bits = 0;
        int truly = 0;
        for (int i = 0; i < people.size(); i++) {
            truly += died(i) == -9 && where(i) == town ? 1 : 0;
            boolean told = what == 3 || what == 4 && missing(i, theYear()) || what == 5 && missedAt(i, theYear());
            bits += home(i) == town && told ? 1 << i : 0;
        }
        return switch (what) {
            case 0 -> count(town);
            case 1 -> truly;
            case 2 -> rumours(town);
            case 3, 4, 5 -> bits;
            default -> -2;
        };
    }

    int law(int law) {
        if (law < 0 || law > 2) {
            return -2;
        }
        int was = this.law;
        this.law = law;
        return was;
    }

    // ---- what the log tells

    private int theYear() {
        return (int) log.stream().filter(act -> act[0] == YEAR).count();
    }

    private int home(int person) {
        return people.get(person).charAt(0) - '0';
    }

    private char name(int person) {
        return people.get(person).charAt(1);
    }

    private int memory(int person) {
        return people.get(person).charAt(2) - '0';
    }

    private boolean asks(int i, int j) {
        return pairs.contains(i + "" + j);
    }

    private int where(int person) {
        int where = home(person);
        for (int[] act : log) {
            if (act[0] == GO && act[1] == person) {
                where = act[2];
            }
        }
        return where;
    }

    /** The YEAR of the last act of that kind that this person did, or so much if there was none. */
    private int lastYearOf(int kind, int person, int otherwise) {
        int year = 0;
        int last = otherwise;
        for (int[] act : log) {
            if (act[0] == YEAR) {
                year++;
            } else if (act[0] == kind && act[1] == person) {
                last = year;
            }
        }
        return last;
    }

    private int since(int person) {
        return lastYearOf(GO, person, 0);
    }

    private int died(int person) {
        return lastYearOf(DIE, person, -9);
    }

    private int rumours(int town) {
        int sum = 0;
        for (int[] act : log) {
            if (act[0] == YEAR) {
                sum = 0;
            } else if (act[0] == RUMOUR && act[1] == town) {
                sum += act[2];
            }
        }
        return sum;
    }

    private boolean atHome(int person) {
        return died(person) == -9 && where(person) == home(person);
    }

    private boolean missing(int person, int year) {
        if (atHome(person)) {
            return false;
        }
        return died(person) == -9 || year < died(person) + Math.abs(where(person) - home(person));
    }

    private boolean wouldMiss(int i, int j, int year) {
        return i != j && home(i) == home(j) && atHome(i) && missing(j, year) && since(j) + memory(i) >= year;
    }

    private boolean misses(int i, int j, int year) {
        return asks(i, j) && wouldMiss(i, j, year);
    }

    private boolean missedAt(int person, int year) {
        for (int i = 0; i < people.size(); i++) {
            if (misses(i, person, year)) {
                return true;
            }
        }
        return false;
    }

    /** What a LAW makes of pairs of one that MISSES and one that is MISSED. */
    private int byLaw(List<String> missing) {
        Set<Object> counted = new HashSet<>();
        for (String pair : missing) {
            int missed = pair.charAt(1) - '0';
            counted.add(law == 0 ? pair : law == 1 ? (Object) missed : (Object) name(missed));
        }
        return counted.size();
    }

    private List<String> missingPairs(int town) {
        List<String> found = new ArrayList<>();
        for (String pair : pairs) {
            int i = pair.charAt(0) - '0';
            if (home(i) == town && misses(i, pair.charAt(1) - '0', theYear())) {
                found.add(pair);
            }
        }
        return found;
    }

    private int count(int town) {
        return byLaw(missingPairs(town)) + rumours(town);
    }

    // ---- acts

    private void act(int... act) {
        log.add(act);
        undoable = Math.min(16, undoable + 1);
    }

    int go(int person, int town) {
        if (noPerson(person) || noTown(town)) {
            return -1;
        }
        if (died(person) != -9 || where(person) == town) {
            return -3;
        }
        int since = since(person);
        act(GO, person, town);
        return since;
    }

    int die(int person) {
        if (noPerson(person)) {
            return -1;
        }
        if (died(person) != -9) {
            return -3;
        }
        act(DIE, person);
        return theYear() + Math.abs(where(person) - home(person));
    }

    int year() {
        act(YEAR);
        return theYear();
    }

    int rumour(int town, int n) {
        if (noTown(town)) {
            return -1;
        }
        if (n < 1 || n > 9) {
            return -2;
        }
        if (rumours(town) + n > 99) {
            return -4;
        }
        act(RUMOUR, town, n);
        return rumours(town);
    }

    int undo() {
        if (undoable == 0) {
            return -3;
        }
        log.remove(log.size() - 1);
        return --undoable;
    }

    // ---- lies

    int forgotten(int person) {
        if (noPerson(person)) {
            return -1;
        }
        int year = theYear();
        while (missedAt(person, year)) {
            year++;
        }
        return year;
    }

    /** Tries all sets of new pairs. */
    int lie(int town, int m) {
        if (noTown(town)) {
            return -1;
        }
        if (m < 0 || m > 99) {
            return -2;
        }
        List<String> could = new ArrayList<>();
        for (int i = 0; i < people.size(); i++) {
            for (int j = 0; j < people.size(); j++) {
                if (home(i) == town && wouldMiss(i, j, theYear()) && !asks(i, j)) {
                    could.add(i + "" + j);
                }
            }
        }
        int fewest = Integer.MAX_VALUE;
        List<String> now = missingPairs(town);
        int wanted = m - rumours(town);
        for (int set = 0; set < 1 << could.size(); set++) {
            int size = Integer.bitCount(set);
            if (size < fewest) {
                List<String> then = new ArrayList<>(now);
                for (int k = 0; k < could.size(); k++) {
                    if ((set & 1 << k) != 0) {
                        then.add(could.get(k));
                    }
                }
                fewest = byLaw(then) >= wanted ? size : fewest;
            }
        }
        return fewest == Integer.MAX_VALUE ? -9 : fewest;
    }

    int leave(int town, int m) {
        if (noTown(town)) {
            return -1;
        }
        if (m < 0 || m > 99) {
            return -2;
        }
        List<String> now = missingPairs(town);
        for (int size = 0; size <= people.size(); size++) {
            for (int set = 0; set < 1 << people.size(); set++) {
                if (Integer.bitCount(set) == size && mayLeave(set, town)) {
                    List<String> then = new ArrayList<>(now);
                    for (int i = 0; i < people.size(); i++) {
                        if ((set & 1 << i) != 0) {
                            String asker = "" + i;
                            then.removeIf(pair -> pair.startsWith(asker));
                        }
                    }
                    if (byLaw(then) + rumours(town) <= m) {
                        return set;
                    }
                }
            }
        }
        return -9;
    }

    private boolean mayLeave(int set, int town) {
        for (int i = 0; i < people.size(); i++) {
            if ((set & 1 << i) != 0 && !(home(i) == town && atHome(i))) {
                return false;
            }
        }
        return true;
    }

    // ---- guessed

    private List<Integer> ofHome(int town) {
        List<Integer> found = new ArrayList<>();
        for (int i = 0; i < people.size(); i++) {
            if (home(i) == town) {
                found.add(i);
            }
        }
        return found;
    }

    private List<Set<Integer>> parts(List<Integer> whole) {
        List<Set<Integer>> parts = new ArrayList<>();
        parts.add(new HashSet<>());
        for (int one : whole) {
            for (Set<Integer> part : new ArrayList<>(parts)) {
                Set<Integer> more = new HashSet<>(part);
                more.add(one);
                parts.add(more);
            }
        }
        return parts;
    }

    private int countIfAway(List<Integer> home, Set<Integer> away) {
        List<String> missing = new ArrayList<>();
        for (String pair : pairs) {
            int i = pair.charAt(0) - '0';
            int j = pair.charAt(1) - '0';
            if (home.contains(i) && !away.contains(i) && away.contains(j)) {
                missing.add(pair);
            }
        }
        return byLaw(missing);
    }

    private List<Set<Integer>> setsOf(int town, int c) {
        List<Integer> home = ofHome(town);
        List<Set<Integer>> sets = parts(home);
        sets.removeIf(away -> countIfAway(home, away) != c);
        return sets;
    }

    int spans(int town, int c, int what) {
        if (noTown(town)) {
            return -1;
        }
        if (c < 0 || c > 99 || what < 0 || what > 2) {
            return -2;
        }
        List<Set<Integer>> sets = setsOf(town, c);
        if (what == 0) {
            return sets.size();
        }
        int all = ofHome(town).size();
        List<Integer> there = new ArrayList<>();
        sets.forEach(away -> there.add(all - away.size()));
        there.sort(null);
        return there.isEmpty() ? -9 : there.get(what == 1 ? 0 : there.size() - 1);
    }

    int toAsk(int town, int c) {
        if (noTown(town)) {
            return -1;
        }
        if (c < 0 || c > 99) {
            return -2;
        }
        List<Set<Integer>> sets = setsOf(town, c);
        int best = -9;
        long most = -1;
        for (int i : ofHome(town)) {
            long away = sets.stream().filter(set -> set.contains(i)).count();
            long fewer = Math.min(away, sets.size() - away);
            if (fewer > most && !sets.isEmpty()) {
                most = fewer;
                best = i;
            }
        }
        return best;
    }

    int retold(int town, int n, int told, int what) {
        if (noTown(town)) {
            return -1;
        }
        if (n < 1 || n > 3 || told < 0 || ("" + told).length() > n || what < 0 || what > 1) {
            return -2;
        }
        List<Integer> home = ofHome(town);
        if (home.size() > 6) {
            return -3;
        }
        String figures = "000".substring(0, n - ("" + told).length()) + told;
        int ways = 0;
        int surely = -1;
        for (int way = 0; way < Math.round(Math.pow(n + 1, home.size())); way++) {
            int[] went = new int[8];
            int rest = way;
            int gone = 0;
            for (int i : home) {
                went[i] = rest % (n + 1) == 0 ? 99 : rest % (n + 1);
                gone |= went[i] == 99 ? 0 : 1 << i;
                rest /= n + 1;
            }
            if (toldSo(home, went, figures)) {
                ways++;
                surely &= gone;
            }
        }
        return what == 0 ? ways : ways == 0 ? -9 : surely;
    }

    /** Whether so many are counted in each YEAR, if each went in that YEAR (99: never). */
    private boolean toldSo(List<Integer> home, int[] went, String figures) {
        for (int year = 1; year <= figures.length(); year++) {
            List<String> missing = new ArrayList<>();
            for (String pair : pairs) {
                int i = pair.charAt(0) - '0';
                int j = pair.charAt(1) - '0';
                if (home.contains(i) && home.contains(j) && went[i] > year && went[j] <= year
                        && year - went[j] <= memory(i)) {
                    missing.add(pair);
                }
            }
            if (byLaw(missing) != figures.charAt(year - 1) - '0') {
                return false;
            }
        }
        return true;
    }

    long chance(int town, int c, int x, boolean upper) {
        if (noTown(town)) {
            return -1;
        }
        if (c < 0 || c > 99 || x < 0 || x > 10) {
            return -2;
        }
        List<Integer> home = ofHome(town);
        BigInteger above = BigInteger.ZERO;
        for (Set<Integer> away : parts(home)) {
            if (countIfAway(home, away) >= c) {
                above = above.add(BigInteger.valueOf(x).pow(away.size())
                        .multiply(BigInteger.valueOf(10 - x).pow(home.size() - away.size())));
            }
        }
        BigInteger below = BigInteger.TEN.pow(home.size());
        return (upper ? above : below).divide(above.gcd(below)).longValueExact();
    }

    // ---- slots

    int keep(int slot) {
        if (slot != 0 && slot != 1) {
            return -1;
        }
        slots.set(slot, new ArrayList<>(log));
        kept[slot] = true;
        return theYear();
    }

    int again(int slot) {
        if (slot != 0 && slot != 1) {
            return -1;
        }
        if (!kept[slot]) {
            return -3;
        }
        log = new ArrayList<>(slots.get(slot));
        undoable = 0;
        return theYear();
    }
}
