/** A machine that makes small talk smaller. */
public final class SmallerTalk {
    private static final int KINDS = 5;
    private static final int WEATHER = 0;
    private static final int LEAST_SIZE = 2;
    private static final int MOST_SIZE = 99;
    private static final int MOST_TOPICS = 12;

    private static final int LEAST_GEAR = 2;
    private static final int MOST_GEAR = 9;
    private static final int LEAST_STONES = 1;
    private static final int MOST_STONES = 4;
    private static final int FIRST_MESH = 3;
    private static final int MOST_MESH = 20;
    private static final int NODS_PER_BOTTLE = 6;

    private static final int MOST_TALKERS = 6;
    private static final int MOST_PATIENCE = 30;
    private static final int NOISE_PER_PATIENCE = 20;
    private static final int MOST_MINUTES_BETWEEN = 9;

    private static final int MOST_MINUTES = 60;
    private static final int MOST_MINUTES_AHEAD = 100;
    private static final int MINUTES_FOR_GEAR = 10;
    private static final int MINUTES_FOR_PUSH = 5;

    private static final int NONE = -1;
    private static final int LOUDER_THAN_ANY = MOST_TOPICS * MOST_SIZE + 1;
    private static final int MORE_THAN_ANY_PATIENCE = MOST_PATIENCE + 1;
    private static final long DIGEST_START = 2039L;
    private static final long DIGEST_FACTOR = 31L;

    private final Room now;
    // Kept from call to call, so that a look ahead makes no new objects.
    private final Room trial;

    public SmallerTalk() {
        now = new Room();
        trial = new Room();
    }

    // ---- the machine

    public int put(int kind, int size) throws IllegalArgumentException, IllegalStateException {
        requireTopic(kind, size);
        if (now.belt.isFull()) {
            throw new IllegalStateException("there are 12 topics");
        }
        int place = now.belt.count;
        now.belt.append(kind, size);
        return place;
    }

    public int pushToFront(int place) throws IndexOutOfBoundsException {
        requirePlace(place);
        int size = now.belt.sizes[place];
        now.belt.moveToFront(place);
        return size;
    }

    public int drop(int place) throws IndexOutOfBoundsException {
        requirePlace(place);
        now.belt.takeOff(place);
        return now.belt.count;
    }

    public int setGear(int gear) throws IllegalArgumentException {
        if (gear < LEAST_GEAR || gear > MOST_GEAR) {
            throw new IllegalArgumentException("gear is not 2 to 9");
        }
        int before = now.gear;
        now.gear = gear;
        return before;
    }

    public int setStones(int stones) throws IllegalArgumentException {
        if (stones < LEAST_STONES || stones > MOST_STONES) {
            throw new IllegalArgumentException("stones is not 1 to 4");
        }
        int before = now.stones;
        now.stones = stones;
        return before;
    }

    public int setMesh(int mesh) throws IllegalArgumentException {
        if (mesh < 0 || mesh > MOST_MESH) {
            throw new IllegalArgumentException("mesh is not 0 to 20");
        }
        int before = now.mesh;
        now.mesh = mesh;
        return before;
    }

    public int addTalker(int kind, int size, int minutes) throws IllegalArgumentException, IllegalStateException {
        requireTopic(kind, size);
        if (minutes < 1 || minutes > MOST_MINUTES_BETWEEN) {
            throw new IllegalArgumentException("minutes is not 1 to 9");
        }
        if (now.company.isFull()) {
            throw new IllegalStateException("there are 6 talkers");
        }
        int talker = now.company.count;
        now.company.join(kind, size, minutes);
        return talker;
    }

    public int pass(int minutes) throws IllegalArgumentException {
        requireMinutes(minutes);
        int before = now.company.countPresent();
        now.letMinutesGo(minutes);
        return before - now.company.countPresent();
    }

    // ---- the belt

    public int minute() {
        return now.minute;
    }

    public int topics() {
        return now.belt.count;
    }

    public int sizeAt(int place) throws IndexOutOfBoundsException {
        requirePlace(place);
        return now.belt.sizes[place];
    }

    public int kindAt(int place) throws IndexOutOfBoundsException {
        requirePlace(place);
        return now.belt.kinds[place];
    }

    public int largest() {
        return now.belt.placeOfLargest();
    }

    public int noise() {
        return now.belt.loudness();
    }

    public int topicsOf(int kind) throws IndexOutOfBoundsException {
        if (!isKind(kind)) {
            throw new IndexOutOfBoundsException("kind is not 0 to 4");
        }
        return now.belt.countOf(kind);
    }

    public int turnsToNod(int place) throws IndexOutOfBoundsException {
        requirePlace(place);
        int size = now.belt.sizes[place];
        int turns = 0;
        // Each turn makes the size less, so there are never as many turns as the largest size.
        while (size >= LEAST_SIZE && turns < MOST_SIZE) {
            size = ground(size, now.gear);
            turns++;
        }
        return turns;
    }

    // ---- what comes out

    public int nods() {
        return now.nods;
    }

    public int bottles() {
        return now.bottles;
    }

    public int sieved() {
        return now.sieved;
    }

    public int gear() {
        return now.gear;
    }

    public int stones() {
        return now.stones;
    }

    public int mesh() {
        return now.mesh;
    }

    // ---- talkers

    public int talkers() {
        return now.company.count;
    }

    public int present() {
        return now.company.countPresent();
    }

    public boolean isPresent(int talker) throws IndexOutOfBoundsException {
        requireTalker(talker);
        return now.company.isThere(talker);
    }

    public int patienceOf(int talker) throws IndexOutOfBoundsException {
        requireTalker(talker);
        return now.company.patience[talker];
    }

    public int exitOf(int talker) throws IndexOutOfBoundsException {
        requireTalker(talker);
        return now.company.exits[talker];
    }

    public int nextToGo() {
        return now.company.leastPatient();
    }

    // ---- what would be

    public int noiseIn(int minutes) throws IllegalArgumentException {
        requireMinutes(minutes);
        trial.copyFrom(now);
        trial.letMinutesGo(minutes);
        return trial.belt.loudness();
    }

    public int minutesUntilQuiet() {
        trial.copyFrom(now);
        for (int minutes = 0; minutes <= MOST_MINUTES_AHEAD; minutes++) {
            if (trial.belt.count == 0) {
                return minutes;
            }
            trial.letMinuteGo();
        }
        return NONE;
    }

    public int minutesUntilExit(int talker) throws IndexOutOfBoundsException {
        requireTalker(talker);
        trial.copyFrom(now);
        for (int minutes = 0; minutes <= MOST_MINUTES_AHEAD; minutes++) {
            if (!trial.company.isThere(talker)) {
                return minutes;
            }
            trial.letMinuteGo();
        }
        return NONE;
    }

    public int bestGear() {
        int best = LEAST_GEAR;
        int least = LOUDER_THAN_ANY;
        for (int gear = LEAST_GEAR; gear <= MOST_GEAR; gear++) {
            trial.copyFrom(now);
            trial.gear = gear;
            trial.letMinutesGo(MINUTES_FOR_GEAR);
            int loudness = trial.belt.loudness();
            if (loudness < least) {
                least = loudness;
                best = gear;
            }
        }
        return best;
    }

    public int bestPush() {
        int best = NONE;
        int least = LOUDER_THAN_ANY;
        for (int place = 0; place < now.belt.count; place++) {
            trial.copyFrom(now);
            trial.belt.moveToFront(place);
            trial.letMinutesGo(MINUTES_FOR_PUSH);
            int loudness = trial.belt.loudness();
            if (loudness < least) {
                least = loudness;
                best = place;
            }
        }
        return best;
    }

    public int bottlesIn(int minutes) throws IllegalArgumentException {
        requireMinutes(minutes);
        trial.copyFrom(now);
        trial.letMinutesGo(minutes);
        return trial.bottles;
    }

    public double meanPatience() {
        int there = now.company.countPresent();
        if (there == 0) {
            return 0.0;
        }
        return (double) now.company.patienceInAll() / (double) there;
    }

    public long digest() {
        long d = DIGEST_START;
        d = mixed(d, minute());
        d = mixed(d, topics());
        d = mixed(d, noise());
        d = mixed(d, nods());
        d = mixed(d, bottles());
        d = mixed(d, sieved());
        d = mixed(d, gear());
        d = mixed(d, stones());
        d = mixed(d, mesh());
        d = mixed(d, talkers());
        d = mixed(d, present());
        d = mixed(d, bestGear());
        d = mixed(d, bestPush());
        return withTalkers(withTopics(d));
    }

    private long withTopics(long digest) {
        long d = digest;
        for (int place = 0; place < now.belt.count; place++) {
            d = mixed(d, now.belt.sizes[place]);
            d = mixed(d, now.belt.kinds[place]);
        }
        return d;
    }

    private long withTalkers(long digest) {
        long d = digest;
        for (int talker = 0; talker < now.company.count; talker++) {
            d = mixed(d, now.company.isThere(talker) ? 1L : 0L);
            d = mixed(d, now.company.patience[talker]);
            d = mixed(d, now.company.exits[talker]);
        }
        return d;
    }

    private static long mixed(long digest, long number) {
        return digest * DIGEST_FACTOR + number;
    }

    private static int ground(int size, int gear) {
        // A gear is never less than 2; the test keeps the division safe by itself.
        return gear < LEAST_GEAR ? size : size / gear;
    }

    private static boolean divides(int divisor, int number) {
        return divisor != 0 && number % divisor == 0;
    }

    private static boolean isKind(int kind) {
        return kind >= 0 && kind < KINDS;
    }

    private static void requireTopic(int kind, int size) throws IllegalArgumentException {
        if (!isKind(kind)) {
            throw new IllegalArgumentException("kind is not 0 to 4");
        }
        if (size < LEAST_SIZE || size > MOST_SIZE) {
            throw new IllegalArgumentException("size is not 2 to 99");
        }
    }

    private static void requireMinutes(int minutes) throws IllegalArgumentException {
        if (minutes < 1 || minutes > MOST_MINUTES) {
            throw new IllegalArgumentException("minutes is not 1 to 60");
        }
    }

    private void requirePlace(int place) throws IndexOutOfBoundsException {
        if (!now.belt.holds(place)) {
            throw new IndexOutOfBoundsException("there is no topic at this place");
        }
    }

    private void requireTalker(int talker) throws IndexOutOfBoundsException {
        if (!now.company.knows(talker)) {
            throw new IndexOutOfBoundsException("there is no such talker");
        }
    }

    /** The topics, in the order of their places. */
    private static final class Belt {
        final int[] kinds;
        final int[] sizes;
        int count;

        Belt() {
            kinds = new int[MOST_TOPICS];
            sizes = new int[MOST_TOPICS];
            count = 0;
        }

        void copyFrom(Belt other) {
            for (int place = 0; place < other.count; place++) {
                kinds[place] = other.kinds[place];
                sizes[place] = other.sizes[place];
            }
            count = other.count;
        }

        boolean isFull() {
            return count >= MOST_TOPICS;
        }

        boolean holds(int place) {
            return place >= 0 && place < count;
        }

        void append(int kind, int size) {
            if (isFull()) {
                return;
            }
            kinds[count] = kind;
            sizes[count] = size;
            count++;
        }

        void moveToFront(int place) {
            if (!holds(place)) {
                return;
            }
            int kind = kinds[place];
            int size = sizes[place];
            for (int to = place; to > 0; to--) {
                kinds[to] = kinds[to - 1];
                sizes[to] = sizes[to - 1];
            }
            kinds[0] = kind;
            sizes[0] = size;
        }

        void takeOff(int place) {
            if (!holds(place)) {
                return;
            }
            for (int from = place + 1; from < count; from++) {
                kinds[from - 1] = kinds[from];
                sizes[from - 1] = sizes[from];
            }
            count--;
        }

        int loudness() {
            int sum = 0;
            for (int place = 0; place < count; place++) {
                sum += sizes[place];
            }
            return sum;
        }

        int placeOfLargest() {
            int found = NONE;
            int most = 0;
            for (int place = 0; place < count; place++) {
                if (sizes[place] > most) {
                    most = sizes[place];
                    found = place;
                }
            }
            return found;
        }

        int countOf(int kind) {
            int found = 0;
            for (int place = 0; place < count; place++) {
                if (kinds[place] == kind) {
                    found++;
                }
            }
            return found;
        }

        /** Returns how many nods come of it. */
        int grind(int stones, int gear) {
            int before = count;
            int kept = 0;
            for (int place = 0; place < before; place++) {
                int size = place < stones ? ground(sizes[place], gear) : sizes[place];
                // The place is the one from before: a topic that moves up to a nod's place is not ground as well.
                if (size >= LEAST_SIZE) {
                    kinds[kept] = kinds[place];
                    sizes[kept] = size;
                    kept++;
                }
            }
            count = kept;
            return before - kept;
        }

        /** Returns how many topics fall through. */
        int sift(int mesh) {
            int before = count;
            int kept = 0;
            for (int place = 0; place < before; place++) {
                if (kinds[place] != WEATHER || sizes[place] >= mesh) {
                    kinds[kept] = kinds[place];
                    sizes[kept] = sizes[place];
                    kept++;
                }
            }
            count = kept;
            return before - kept;
        }
    }

    /** The talkers, by their numbers, those who went as well. */
    private static final class Company {
        final int[] kinds;
        final int[] sizes;
        final int[] minutesBetween;
        final int[] patience;
        final int[] exits;
        int count;

        Company() {
            kinds = new int[MOST_TALKERS];
            sizes = new int[MOST_TALKERS];
            minutesBetween = new int[MOST_TALKERS];
            patience = new int[MOST_TALKERS];
            exits = new int[MOST_TALKERS];
            count = 0;
        }

        void copyFrom(Company other) {
            for (int talker = 0; talker < other.count; talker++) {
                kinds[talker] = other.kinds[talker];
                sizes[talker] = other.sizes[talker];
                minutesBetween[talker] = other.minutesBetween[talker];
                patience[talker] = other.patience[talker];
                exits[talker] = other.exits[talker];
            }
            count = other.count;
        }

        boolean isFull() {
            return count >= MOST_TALKERS;
        }

        boolean knows(int talker) {
            return talker >= 0 && talker < count;
        }

        boolean isThere(int talker) {
            return knows(talker) && exits[talker] == NONE;
        }

        void join(int kind, int size, int minutes) {
            if (isFull()) {
                return;
            }
            kinds[count] = kind;
            sizes[count] = size;
            minutesBetween[count] = minutes;
            patience[count] = MOST_PATIENCE;
            exits[count] = NONE;
            count++;
        }

        int countPresent() {
            int there = 0;
            for (int talker = 0; talker < count; talker++) {
                if (exits[talker] == NONE) {
                    there++;
                }
            }
            return there;
        }

        int patienceInAll() {
            int sum = 0;
            for (int talker = 0; talker < count; talker++) {
                if (exits[talker] == NONE) {
                    sum += patience[talker];
                }
            }
            return sum;
        }

        int leastPatient() {
            int found = NONE;
            int least = MORE_THAN_ANY_PATIENCE;
            for (int talker = 0; talker < count; talker++) {
                if (exits[talker] == NONE && patience[talker] < least) {
                    least = patience[talker];
                    found = talker;
                }
            }
            return found;
        }

        void hear(int loudness, int minute) {
            int change = loudness > 0 ? -(loudness / NOISE_PER_PATIENCE + 1) : 1;
            for (int talker = 0; talker < count; talker++) {
                if (exits[talker] == NONE) {
                    patience[talker] = Math.max(0, Math.min(MOST_PATIENCE, patience[talker] + change));
                    if (patience[talker] == 0) {
                        exits[talker] = minute;
                    }
                }
            }
        }

        void speak(int minute, Belt belt) {
            for (int talker = 0; talker < count; talker++) {
                if (exits[talker] == NONE && divides(minutesBetween[talker], minute)) {
                    belt.append(kinds[talker], sizes[talker]);
                }
            }
        }
    }

    /** All that a minute changes: the one that is, or one that is tried out. */
    private static final class Room {
        final Belt belt;
        final Company company;
        int gear;
        int stones;
        int mesh;
        int nods;
        int bottles;
        int sieved;
        int minute;

        Room() {
            belt = new Belt();
            company = new Company();
            gear = LEAST_GEAR;
            stones = LEAST_STONES;
            mesh = FIRST_MESH;
            nods = 0;
            bottles = 0;
            sieved = 0;
            minute = 0;
        }

        void copyFrom(Room other) {
            belt.copyFrom(other.belt);
            company.copyFrom(other.company);
            gear = other.gear;
            stones = other.stones;
            mesh = other.mesh;
            nods = other.nods;
            bottles = other.bottles;
            sieved = other.sieved;
            minute = other.minute;
        }

        void letMinutesGo(int minutes) {
            for (int gone = 0; gone < minutes; gone++) {
                letMinuteGo();
            }
        }

        void letMinuteGo() {
            nods += belt.grind(stones, gear);
            sieved += belt.sift(mesh);
            bottles += nods / NODS_PER_BOTTLE;
            nods = nods % NODS_PER_BOTTLE;
            company.hear(belt.loudness(), minute);
            company.speak(minute, belt);
            minute++;
        }
    }
}
