/** A census in which each town counts its absent, by who asks after them. */
public final class CountedMissing {
    public static final int UNKNOWN = -1, BAD = -2, LATE = -3, FULL = -4, NONE = -9;

    private static final int MOST_BYTES = 80;
    private static final int MOST_TOWNS = 4;
    private static final int MOST_PEOPLE = 8;
    private static final int MOST_PAIRS = 12;
    private static final int MOST_ACTS = 16;
    private static final int MOST_RUMOURS = 99;
    private static final int MOST_COUNTED = 99;
    private static final int MOST_REMEMBERED = 9;
    private static final int MOST_RETOLD_YEARS = 3;
    private static final int MOST_RETOLD_PEOPLE = 6;
    private static final int LAWS = 3;
    private static final int NAMES = 6;
    private static final int SLOTS = 2;
    private static final int TENTHS = 10;

    private static final int LAW_OF_PAIRS = 0;
    private static final int LAW_OF_MISSED = 1;

    private final Script script = new Script();
    private final Reader reader = new Reader();
    private final Tally tally = new Tally();
    private final Retelling retelling = new Retelling();
    private final History acts = new History();
    private final World now = new World();
    private final World[] kept = {new World(), new World()};
    private final boolean[] isKept = new boolean[SLOTS];
    private final int[] misses = new int[MOST_PEOPLE];
    private Folk folk = new Folk();
    private Folk draft = new Folk();

    public CountedMissing() {
        now.begin(folk);
    }

    // ---- the census

    public int write(int n, long v) {
        if (n < 1 || n > 8) {
            return BAD;
        }
        return script.takeBytes(n, v) ? script.size() : FULL;
    }

    public int wipe() {
        int size = script.size();
        script.clear();
        return size;
    }

    public int fault() {
        return reader.faultOf(script, draft);
    }

    public int census() {
        if (reader.faultOf(script, draft) != NONE) {
            return LATE;
        }
        Folk old = folk;
        folk = draft;
        draft = old;
        now.begin(folk);
        acts.clear();
        for (int slot = 0; slot < SLOTS; slot++) {
            isKept[slot] = false;
        }
        return folk.people;
    }

    public int about(int what) {
        switch (what) {
            case 0:
                return folk.towns;
            case 1:
                return folk.people;
            case 2:
                return folk.law;
            case 3:
                return now.year;
            case 4:
                return aliveBits();
            case 5:
                return missedOf(everybody());
            case 6:
                return folk.pairs;
            case 7:
                return acts.size();
            case 8:
                return script.size();
            default:
                return BAD;
        }
    }

    public int person(int person, int what) {
        if (!folk.hasPerson(person)) {
            return UNKNOWN;
        }
        switch (what) {
            case 0:
                return folk.home[person];
            case 1:
                return folk.name[person];
            case 2:
                return folk.memory[person];
            case 3:
                return now.where[person];
            case 4:
                return now.since[person];
            case 5:
                return now.died[person];
            case 6:
                return folk.asks[person];
            case 7:
                return missedBy(person, now.year);
            default:
                return BAD;
        }
    }

    public int town(int town, int what) {
        if (!folk.hasTown(town)) {
            return UNKNOWN;
        }
        switch (what) {
            case 0:
                return countOf(town);
            case 1:
                return trulyIn(town);
            case 2:
                return now.rumours[town];
            case 3:
                return folk.ofHome(town);
            case 4:
                return missingOf(town);
            case 5:
                return missedOf(folk.ofHome(town));
            default:
                return BAD;
        }
    }

    public int law(int law) {
        if (law < 0 || law >= LAWS) {
            return BAD;
        }
        int old = folk.law;
        folk.law = law;
        return old;
    }

    // ---- acts

    public int go(int person, int town) {
        if (!folk.hasPerson(person) || !folk.hasTown(town)) {
            return UNKNOWN;
        }
        if (!now.isAlive(person) || now.where[person] == town) {
            return LATE;
        }
        acts.remember(now);
        int old = now.since[person];
        now.where[person] = town;
        now.since[person] = now.year;
        return old;
    }

    public int die(int person) {
        if (!folk.hasPerson(person)) {
            return UNKNOWN;
        }
        if (!now.isAlive(person)) {
            return LATE;
        }
        acts.remember(now);
        now.died[person] = now.year;
        return now.heardIn(person, folk);
    }

    public int year() {
        acts.remember(now);
        now.passYear();
        return now.year;
    }

    public int rumour(int town, int n) {
        if (!folk.hasTown(town)) {
            return UNKNOWN;
        }
        if (n < 1 || n > 9) {
            return BAD;
        }
        if (now.rumours[town] + n > MOST_RUMOURS) {
            return FULL;
        }
        acts.remember(now);
        now.rumours[town] += n;
        return now.rumours[town];
    }

    public int undo() {
        if (acts.size() == 0) {
            return LATE;
        }
        acts.bringBack(now);
        return acts.size();
    }

    // ---- lies

    public int forgotten(int person) {
        if (!folk.hasPerson(person)) {
            return UNKNOWN;
        }
        int first = now.year;
        // Nobody remembers longer than this, whenever one left.
        for (int k = 0; k <= MOST_REMEMBERED && isMissed(person, first); k++) {
            first++;
        }
        return first;
    }

    public int lie(int town, int m) {
        if (!folk.hasTown(town)) {
            return UNKNOWN;
        }
        if (m < 0 || m > MOST_COUNTED) {
            return BAD;
        }
        int count = countOf(town);
        if (count >= m) {
            return 0;
        }
        // By each law a new pair adds one at most, and one pair is enough for each that can be added.
        return mostCountByLies(town) >= m ? m - count : NONE;
    }

    public int leave(int town, int m) {
        if (!folk.hasTown(town)) {
            return UNKNOWN;
        }
        if (m < 0 || m > MOST_COUNTED) {
            return BAD;
        }
        if (now.rumours[town] > m) {
            return NONE;
        }
        return fewestToLeave(atHomeIn(town), m - now.rumours[town]);
    }

    // ---- guessed

    public int spans(int town, int c, int what) {
        if (!folk.hasTown(town)) {
            return UNKNOWN;
        }
        if (c < 0 || c > MOST_COUNTED || what < 0 || what > 2) {
            return BAD;
        }
        int home = folk.ofHome(town);
        int all = 1 << Integer.bitCount(home);
        int sets = 0;
        int fewest = NONE;
        int most = NONE;
        int away = 0;
        for (int k = 0; k < all; k++) {
            if (countIfAway(home, away) == c) {
                int there = Integer.bitCount(home & ~away);
                fewest = sets == 0 ? there : Math.min(fewest, there);
                most = Math.max(most, there);
                sets++;
            }
            away = nextPart(away, home);
        }
        return what == 0 ? sets : what == 1 ? fewest : most;
    }

    public int toAsk(int town, int c) {
        if (!folk.hasTown(town)) {
            return UNKNOWN;
        }
        if (c < 0 || c > MOST_COUNTED) {
            return BAD;
        }
        int home = folk.ofHome(town);
        int best = NONE;
        int bestFewer = -1;
        int sets = setsWithout(home, c, 0);
        for (int i = 0; i < folk.people && sets > 0; i++) {
            if (!has(home, i)) {
                continue;
            }
            int there = setsWithout(home, c, 1 << i);
            int fewer = Math.min(there, sets - there);
            if (fewer > bestFewer) {
                best = i;
                bestFewer = fewer;
            }
        }
        return best;
    }

    public int retold(int town, int n, int told, int what) {
        if (!folk.hasTown(town)) {
            return UNKNOWN;
        }
        if (n < 1 || n > MOST_RETOLD_YEARS || told < 0 || told >= powerOfTen(n) || what < 0 || what > 1) {
            return BAD;
        }
        int home = folk.ofHome(town);
        if (Integer.bitCount(home) > MOST_RETOLD_PEOPLE) {
            return LATE;
        }
        retelling.tellAll(folk, home, n, told);
        if (what == 0) {
            return retelling.ways;
        }
        return retelling.ways == 0 ? NONE : retelling.surely;
    }

    public long chance(int town, int c, int x, boolean upper) {
        if (!folk.hasTown(town)) {
            return UNKNOWN;
        }
        if (c < 0 || c > MOST_COUNTED || x < 0 || x > TENTHS) {
            return BAD;
        }
        int home = folk.ofHome(town);
        int size = Integer.bitCount(home);
        int all = 1 << size;
        long above = 0;
        int away = 0;
        for (int k = 0; k < all; k++) {
            if (countIfAway(home, away) >= c) {
                int gone = Integer.bitCount(away);
                above += power(x, gone) * power(TENTHS - x, size - gone);
            }
            away = nextPart(away, home);
        }
        long below = powerOfTen(size);
        long common = Math.max(1, commonDivisor(above, below));
        return (upper ? above : below) / common;
    }

    // ---- slots

    public int keep(int slot) {
        if (slot < 0 || slot >= SLOTS) {
            return UNKNOWN;
        }
        kept[slot].copyFrom(now);
        isKept[slot] = true;
        return now.year;
    }

    public int again(int slot) {
        if (slot < 0 || slot >= SLOTS) {
            return UNKNOWN;
        }
        if (!isKept[slot]) {
            return LATE;
        }
        now.copyFrom(kept[slot]);
        acts.clear();
        return now.year;
    }

    // ---- who is where, and who misses whom

    private int everybody() {
        return (1 << folk.people) - 1;
    }

    private int aliveBits() {
        int bits = 0;
        for (int i = 0; i < folk.people; i++) {
            if (now.isAlive(i)) {
                bits |= 1 << i;
            }
        }
        return bits;
    }

    private int trulyIn(int town) {
        int count = 0;
        for (int i = 0; i < folk.people; i++) {
            if (now.isAlive(i) && now.where[i] == town) {
                count++;
            }
        }
        return count;
    }

    private int atHomeIn(int town) {
        int bits = 0;
        for (int i = 0; i < folk.people; i++) {
            if (folk.home[i] == town && isAtHome(i)) {
                bits |= 1 << i;
            }
        }
        return bits;
    }

    private boolean isAtHome(int person) {
        return now.isAlive(person) && now.where[person] == folk.home[person];
    }

    private boolean isMissing(int person, int year) {
        if (now.isAlive(person)) {
            return now.where[person] != folk.home[person];
        }
        return year < now.heardIn(person, folk);
    }

    private int missingOf(int town) {
        int bits = 0;
        for (int i = 0; i < folk.people; i++) {
            if (folk.home[i] == town && isMissing(i, now.year)) {
                bits |= 1 << i;
            }
        }
        return bits;
    }

    /** Those of one's HOME that are MISSING and that one would remember in that YEAR, asked after or not. */
    private int rememberedBy(int person, int year) {
        int bits = 0;
        for (int j = 0; j < folk.people; j++) {
            if (folk.home[j] == folk.home[person] && isMissing(j, year)
                    && year - now.since[j] <= folk.memory[person]) {
                bits |= 1 << j;
            }
        }
        return bits;
    }

    private int missedBy(int person, int year) {
        return isAtHome(person) ? folk.asks[person] & rememberedBy(person, year) : 0;
    }

    private boolean isMissed(int person, int year) {
        for (int i = 0; i < folk.people; i++) {
            if (has(missedBy(i, year), person)) {
                return true;
            }
        }
        return false;
    }

    /** Of these people, whom somebody MISSES now. */
    private int missedOf(int people) {
        int bits = 0;
        for (int i = 0; i < folk.people; i++) {
            bits |= missedBy(i, now.year);
        }
        return bits & people;
    }

    // ---- counts

    private int countOf(int town) {
        int home = folk.ofHome(town);
        fillMisses();
        return countMissedBy(home) + now.rumours[town];
    }

    private void fillMisses() {
        for (int i = 0; i < folk.people; i++) {
            misses[i] = missedBy(i, now.year);
        }
    }

    /** The count, RUMOURS aside, if these alone miss as fillMisses found. */
    private int countMissedBy(int people) {
        tally.clear();
        for (int i = 0; i < folk.people; i++) {
            if (has(people, i)) {
                tally.addMissed(misses[i]);
            }
        }
        return tally.countByLaw(folk);
    }

    /** The count if each that could remember a missing one asked after it, too. */
    private int mostCountByLies(int town) {
        tally.clear();
        for (int i = 0; i < folk.people; i++) {
            if (folk.home[i] == town && isAtHome(i)) {
                tally.addMissed(rememberedBy(i, now.year));
            }
        }
        return tally.countByLaw(folk) + now.rumours[town];
    }

    private int fewestToLeave(int atHome, int mostCount) {
        fillMisses();
        int all = 1 << Integer.bitCount(atHome);
        int best = atHome;
        int leaving = 0;
        for (int k = 0; k < all; k++) {
            // The parts come from the least on, so of like ones the least stays.
            if (Integer.bitCount(leaving) < Integer.bitCount(best)
                    && countMissedBy(atHome & ~leaving) <= mostCount) {
                best = leaving;
            }
            leaving = nextPart(leaving, atHome);
        }
        return best;
    }

    private int countIfAway(int home, int away) {
        tally.clear();
        for (int i = 0; i < folk.people; i++) {
            if (has(home & ~away, i)) {
                tally.addMissed(folk.asks[i] & away);
            }
        }
        return tally.countByLaw(folk);
    }

    /** How many sets of those away the count allows in which these are there. */
    private int setsWithout(int home, int c, int there) {
        int mayGo = home & ~there;
        int all = 1 << Integer.bitCount(mayGo);
        int sets = 0;
        int away = 0;
        for (int k = 0; k < all; k++) {
            if (countIfAway(home, away) == c) {
                sets++;
            }
            away = nextPart(away, mayGo);
        }
        return sets;
    }

    // ---- sets and numbers

    private static boolean has(int bits, int person) {
        return (bits >> person & 1) != 0;
    }

    /** The next greater part of a set of bits; behind the whole set the empty one. */
    private static int nextPart(int part, int whole) {
        return (part - whole) & whole;
    }

    private static long power(int base, int exponent) {
        long product = 1;
        for (int k = 0; k < exponent; k++) {
            product *= base;
        }
        return product;
    }

    private static int powerOfTen(int exponent) {
        return (int) power(10, exponent);
    }

    private static long commonDivisor(long a, long b) {
        // Euclid's steps for numbers up to 10^8 are some 40 at most.
        for (int k = 0; k < 100 && b != 0; k++) {
            long rest = a % b;
            a = b;
            b = rest;
        }
        return a;
    }

    /** THE TEXT. */
    private static final class Script {
        private final byte[] bytes = new byte[MOST_BYTES];
        private int length;

        int size() {
            return length;
        }

        int byteAt(int place) {
            return place >= 0 && place < length ? bytes[place] & 255 : -1;
        }

        boolean takeBytes(int n, long v) {
            if (length + n > MOST_BYTES) {
                return false;
            }
            for (int k = n - 1; k >= 0; k--) {
                bytes[length] = (byte) (v >> 8 * k);
                length++;
            }
            return true;
        }

        void clear() {
            length = 0;
        }
    }

    /** Reads THE TEXT byte by byte; refuses a byte as soon as nothing behind it could make a CENSUS. */
    private static final class Reader {
        private static final int WANTS_Z = 0;
        private static final int WANTS_LAW = 1;
        private static final int WANTS_TOWNS = 2;
        private static final int WANTS_PART = 3;
        private static final int WANTS_HOME = 4;
        private static final int WANTS_NAME = 5;
        private static final int WANTS_MEMORY = 6;
        private static final int WANTS_ASKER = 7;
        private static final int WANTS_ASKED = 8;

        private int wants;
        private int asker;

        int faultOf(Script script, Folk folk) {
            folk.clear();
            wants = WANTS_Z;
            for (int place = 0; place < script.size(); place++) {
                if (!takes(script.byteAt(place), folk)) {
                    return place;
                }
            }
            return wants == WANTS_PART ? NONE : script.size();
        }

        private boolean takes(int sign, Folk folk) {
            switch (wants) {
                case WANTS_Z:
                    wants = WANTS_LAW;
                    return sign == 'Z';
                case WANTS_LAW:
                    folk.law = sign - '0';
                    wants = WANTS_TOWNS;
                    return folk.law >= 0 && folk.law < LAWS;
                case WANTS_TOWNS:
                    folk.towns = sign - '0';
                    wants = WANTS_PART;
                    return folk.towns >= 1 && folk.towns <= MOST_TOWNS;
                case WANTS_PART:
                    return takesPart(sign, folk);
                case WANTS_HOME:
                case WANTS_NAME:
                case WANTS_MEMORY:
                    return takesOfPerson(sign, folk);
                default:
                    return takesOfPair(sign - '0', folk);
            }
        }

        private boolean takesPart(int sign, Folk folk) {
            if (sign == 'P') {
                wants = WANTS_HOME;
                return folk.people < MOST_PEOPLE;
            }
            wants = WANTS_ASKER;
            return sign == 'A' && folk.mayAddPair();
        }

        private boolean takesOfPerson(int sign, Folk folk) {
            int person = folk.people;
            if (person >= MOST_PEOPLE) {
                return false;
            }
            if (wants == WANTS_HOME) {
                folk.home[person] = sign - '0';
                wants = WANTS_NAME;
                return folk.hasTown(sign - '0');
            }
            if (wants == WANTS_NAME) {
                folk.name[person] = sign - 'a';
                wants = WANTS_MEMORY;
                return sign >= 'a' && sign < 'a' + NAMES;
            }
            folk.memory[person] = sign - '0';
            folk.asks[person] = 0;
            folk.people++;
            wants = WANTS_PART;
            return sign >= '0' && sign <= '0' + MOST_REMEMBERED;
        }

        private boolean takesOfPair(int person, Folk folk) {
            if (wants == WANTS_ASKER) {
                asker = person;
                wants = WANTS_ASKED;
                return folk.mayAskMore(person);
            }
            wants = WANTS_PART;
            if (!folk.mayAsk(asker, person)) {
                return false;
            }
            folk.asks[asker] |= 1 << person;
            folk.pairs++;
            return true;
        }
    }

    /** What a CENSUS tells, and the LAW. */
    private static final class Folk {
        int law;
        int towns = 1;
        int people;
        int pairs;
        final int[] home = new int[MOST_PEOPLE];
        final int[] name = new int[MOST_PEOPLE];
        final int[] memory = new int[MOST_PEOPLE];
        final int[] asks = new int[MOST_PEOPLE];

        void clear() {
            law = LAW_OF_PAIRS;
            towns = 1;
            people = 0;
            pairs = 0;
        }

        boolean hasTown(int town) {
            return town >= 0 && town < towns;
        }

        boolean hasPerson(int person) {
            return person >= 0 && person < people;
        }

        boolean mayAddPair() {
            return pairs < MOST_PAIRS && pairs < people * (people - 1);
        }

        boolean mayAskMore(int asker) {
            return hasPerson(asker) && Integer.bitCount(asks[asker]) < people - 1;
        }

        boolean mayAsk(int asker, int asked) {
            return hasPerson(asker) && hasPerson(asked) && asker != asked && !has(asks[asker], asked);
        }

        int ofHome(int town) {
            int bits = 0;
            for (int i = 0; i < people; i++) {
                if (home[i] == town) {
                    bits |= 1 << i;
                }
            }
            return bits;
        }

        int namesOf(int bits) {
            int names = 0;
            for (int i = 0; i < people; i++) {
                if (has(bits, i)) {
                    names |= 1 << name[i];
                }
            }
            return names;
        }
    }

    /** Where PEOPLE are, who died when, RUMOURS and THE YEAR. */
    private static final class World {
        int year;
        final int[] where = new int[MOST_PEOPLE];
        final int[] since = new int[MOST_PEOPLE];
        final int[] died = new int[MOST_PEOPLE];
        final int[] rumours = new int[MOST_TOWNS];

        void begin(Folk folk) {
            year = 0;
            for (int i = 0; i < MOST_PEOPLE; i++) {
                where[i] = folk.home[i];
                since[i] = 0;
                died[i] = NONE;
            }
            clearRumours();
        }

        void clearRumours() {
            for (int town = 0; town < MOST_TOWNS; town++) {
                rumours[town] = 0;
            }
        }

        void passYear() {
            year++;
            clearRumours();
        }

        boolean isAlive(int person) {
            return died[person] == NONE;
        }

        /** The YEAR in which the HOME of a dead one HEARS of it. */
        int heardIn(int person, Folk folk) {
            return died[person] + Math.abs(where[person] - folk.home[person]);
        }

        void copyFrom(World other) {
            year = other.year;
            for (int i = 0; i < MOST_PEOPLE; i++) {
                where[i] = other.where[i];
                since[i] = other.since[i];
                died[i] = other.died[i];
            }
            for (int town = 0; town < MOST_TOWNS; town++) {
                rumours[town] = other.rumours[town];
            }
        }
    }

    /** How all was ahead of each of the last ACTS, in a ring that is made once. */
    private static final class History {
        private final World[] ahead = new World[MOST_ACTS];
        private int first;
        private int count;

        History() {
            for (int k = 0; k < MOST_ACTS; k++) {
                ahead[k] = new World();
            }
        }

        int size() {
            return count;
        }

        void clear() {
            count = 0;
        }

        void remember(World now) {
            if (count == MOST_ACTS) {
                first = (first + 1) % MOST_ACTS;
                count--;
            }
            ahead[(first + count) % MOST_ACTS].copyFrom(now);
            count++;
        }

        void bringBack(World now) {
            if (count > 0) {
                count--;
                now.copyFrom(ahead[(first + count) % MOST_ACTS]);
            }
        }
    }

    /** Gathers who is missed, and counts by the LAW. */
    private static final class Tally {
        private int pairs;
        private int missed;

        void clear() {
            pairs = 0;
            missed = 0;
        }

        void addMissed(int bits) {
            pairs += Integer.bitCount(bits);
            missed |= bits;
        }

        int countByLaw(Folk folk) {
            if (folk.law == LAW_OF_PAIRS) {
                return pairs;
            }
            return Integer.bitCount(folk.law == LAW_OF_MISSED ? missed : folk.namesOf(missed));
        }
    }

    /** Goes through all ways in which those of a HOME may have left, year by year. */
    private static final class Retelling {
        private final int[] left = new int[MOST_RETOLD_YEARS];
        private final int[] counts = new int[MOST_RETOLD_YEARS];
        private final Tally tally = new Tally();
        private int years;
        int ways;
        int surely;

        void tellAll(Folk folk, int home, int n, int told) {
            years = Math.min(n, MOST_RETOLD_YEARS);
            int figures = told;
            for (int year = years - 1; year >= 0; year--) {
                counts[year] = figures % 10;
                figures /= 10;
            }
            ways = 0;
            surely = home;
            tellFrom(this, folk, 0, home);
        }

        private static void tellFrom(Retelling tale, Folk folk, int year, int there) {
            if (year >= tale.years) {
                tale.ways++;
                tale.surely &= ~there;
                return;
            }
            int all = 1 << Integer.bitCount(there);
            int going = 0;
            for (int k = 0; k < all; k++) {
                tale.left[year] = going;
                if (tale.countIn(folk, year, there & ~going) == tale.counts[year]) {
                    tellFrom(tale, folk, year + 1, there & ~going);
                }
                going = nextPart(going, there);
            }
        }

        private int countIn(Folk folk, int year, int there) {
            tally.clear();
            for (int i = 0; i < folk.people; i++) {
                if (has(there, i)) {
                    tally.addMissed(folk.asks[i] & leftSince(year - folk.memory[i], year));
                }
            }
            return tally.countByLaw(folk);
        }

        private int leftSince(int from, int to) {
            int bits = 0;
            for (int year = Math.max(from, 0); year <= to && year < MOST_RETOLD_YEARS; year++) {
                bits |= left[year];
            }
            return bits;
        }
    }
}
