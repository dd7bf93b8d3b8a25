import java.util.NoSuchElementException;

/**
 * A federation of persons and tasks in which the least ready is handed the map.
 * All rows are made once, in the constructors, and used again by every call.
 */
public final class UnreadyLead {
    public static final int NONE = -1;

    private static final int PERSONS = 8;
    private static final int TASKS = 6;
    private static final int CLAUSES = 60;
    private static final int MOST_NEED = 200;
    private static final int HOURS_A_DAY = 24;
    private static final int LAST_DAY = 400;
    private static final int MOST_READINESS = 99;

    private static final int TAPE_ROOM = 600;
    private static final int LAW_ROOM = 150;
    private static final int WORK_ROOM = 150;
    private static final int BOOK_ROOM = 60;
    private static final int OPEN_AT_ONCE = 6;

    private static final int CANNOT_STAND = 1;
    private static final int NO_SUCH_NUMBER = 2;
    private static final int TOO_MANY = 3;
    private static final int FAULT_BASE = 10;
    private static final int WORKS_FULL = -20;

    private static final int WORKS = 16;
    private static final int IMAGES = 3;

    private static final int WAIT_HOURS = 99;
    private static final int FAR_HOURS = 500;
    private static final int DECADE_HOURS = 96;
    private static final int DECADE_SEEDS = 20;
    private static final int ODDS = 16;

    private static final int BAGS = 8;
    private static final int PLACES = 24;
    private static final int A_BOOT = 0;
    private static final int A_MAP = 1;
    private static final int A_TOWEL = 2;
    private static final int A_NAPKIN = 3;

    private static final int NO_ELEMENT = 0;
    private static final int BAD_ARGUMENT = 1;
    private static final int NOTHING_THERE = 2;
    private static final int OTHER_KIND = 3;
    private static final int NO_PLACE = 4;
    private static final int CUT_TOO_SHORT = 5;
    private static final int REASONS = 6;

    private final Text text = new Text();
    private final Federation members = new Federation();
    private final Federation draft = new Federation();
    private final Law rule = new Law();
    private final Rules rules = new Rules(members, rule);
    private final Program program = new Program();
    private final Book lines = new Book();
    private final State now = new State();
    private final State trial = new State();
    private final Past past = new Past();
    private final Plan giving = new Plan();
    private final Decade drawn = new Decade();
    private final Bags things = new Bags();
    private final int[] levels = new int[PERSONS];
    private final int[] leftBy = new int[MOST_READINESS + 1];
    private final int[] refused = new int[REASONS];

    public UnreadyLead() {
    }

    // ---- texts

    public int feed(int a, int b, int c, int d, int e) {
        if (text.size + 20 > TAPE_ROOM) {
            return NONE;
        }
        text.put(a);
        text.put(b);
        text.put(c);
        text.put(d);
        text.put(e);
        return text.size;
    }

    public int federation(int n) throws IllegalArgumentException {
        needLength(n, TAPE_ROOM);
        text.start(n);
        draft.take(text);
        if (text.fault != 0) {
            return text.fault - FAULT_BASE;
        }
        members.copyFrom(draft);
        rule.forget();
        lines.forget();
        past.forget();
        things.empty();
        program.refusals = 0;
        now.begin(members.packed);
        return members.persons;
    }

    public int law(int n) throws IllegalArgumentException {
        needLength(n, LAW_ROOM);
        text.start(n);
        rule.take(text);
        return text.fault != 0 ? text.fault - FAULT_BASE : 1;
    }

    public int work(int n) throws IllegalArgumentException {
        needLength(n, WORK_ROOM);
        if (past.works == WORKS) {
            text.start(0);
            return WORKS_FULL;
        }
        text.start(n);
        program.take(text, members);
        if (text.fault != 0) {
            return text.fault - FAULT_BASE;
        }
        past.keepWork(now);
        return program.run(rules, now);
    }

    public int book(int n) throws IllegalArgumentException {
        needLength(n, BOOK_ROOM);
        text.start(n);
        lines.take(text, members.persons);
        return text.fault != 0 ? text.fault - FAULT_BASE : lines.many;
    }

    public int fault() {
        return text.place;
    }

    public int undo() {
        if (past.works == 0) {
            return NONE;
        }
        past.undoWork(now);
        program.refusals = 0;
        return past.works;
    }

    // ---- what is now

    public int told(int what) throws IllegalArgumentException {
        switch (what) {
            case 0: return members.persons;
            case 1: return members.tasks;
            case 2: return now.day;
            case 3: return now.hour;
            case 4: return now.leaders();
            case 5: return now.ledTasks();
            case 6: return rules.doneTasks(now);
            case 7: return now.packed;
            case 8: return now.feigning;
            case 9: return lines.many;
            case 10: return program.refusals;
            case 11: return now.comings;
            default: return refuseArgument();
        }
    }

    public int person(int person, int what) throws NoSuchElementException, IllegalArgumentException {
        needPerson(person);
        switch (what) {
            case 0: return members.atFirst[person];
            case 1: return members.byHour[person];
            case 2: return members.readyAt(person, now.hour);
            case 3: return now.boots[person];
            case 4: return now.leads[person];
            case 5: return now.led[person];
            case 6: return rules.level(now, person);
            case 7: return rules.pace(now, person);
            default: return refuseArgument();
        }
    }

    public int task(int task, int what) throws NoSuchElementException, IllegalArgumentException {
        needTask(task);
        switch (what) {
            case 0: return members.needs[task];
            case 1: return now.done[task];
            case 2: return now.leaderOf(task);
            default: return refuseArgument();
        }
    }

    public int readiness(int person, int hour) throws NoSuchElementException, IllegalArgumentException {
        needPerson(person);
        needWithin(hour, 0, HOURS_A_DAY - 1);
        return rules.levelAt(now, person, hour);
    }

    public int would(int ready, int boots, int packed, int feint, int hour, int day, int led, int person)
            throws IllegalArgumentException {
        needWithin(ready, 0, 9);
        needWithin(boots, 0, 2);
        needWithin(packed, 0, 1);
        needWithin(feint, 0, 1);
        needWithin(hour, 0, HOURS_A_DAY - 1);
        needWithin(day, 0, LAST_DAY);
        needWithin(led, 0, 999);
        needWithin(person, 0, PERSONS - 1);
        rule.setBody(ready, boots, packed, feint);
        rule.setTime(hour, day, led, person);
        return asReadiness(rule.value());
    }

    // ---- who is caught

    public int caught() {
        return rules.leastReady(now, now.hour);
    }

    public int next(int k) throws IllegalArgumentException {
        needArgument(k >= 0);
        rules.fillLevels(now, levels);
        for (int p = 0; p < members.persons; p++) {
            if (now.leads[p] == NONE && aheadOf(p) == k) {
                return p;
            }
        }
        return NONE;
    }

    public int hours(int person) throws NoSuchElementException {
        needPerson(person);
        int bits = 0;
        for (int h = 0; h < HOURS_A_DAY; h++) {
            if (rules.leastReady(now, h) == person) {
                bits |= 1 << h;
            }
        }
        return bits;
    }

    public int waits(int person) throws NoSuchElementException {
        needPerson(person);
        trial.copyFrom(now);
        for (int h = 0; h <= WAIT_HOURS; h++) {
            if (rules.leastReady(trial, trial.hour) == person) {
                return h;
            }
            rules.passHour(trial);
        }
        return NONE;
    }

    public int ends(int task) throws NoSuchElementException {
        needTask(task);
        trial.copyFrom(now);
        for (int h = 0; h <= FAR_HOURS; h++) {
            if (rules.isDone(trial, task)) {
                return h;
            }
            if (trial.leaderOf(task) == NONE) {
                return NONE;
            }
            rules.passHour(trial);
        }
        return NONE;
    }

    // ---- leaders to tasks, hours ahead

    public int plan(int tasks) throws IllegalArgumentException {
        needBits(tasks, members.tasks);
        giving.make(rules, now, tasks);
        return giving.total;
    }

    public int gives(int task, int tasks) throws NoSuchElementException, IllegalArgumentException {
        needTask(task);
        needBits(tasks, members.tasks);
        giving.make(rules, now, tasks);
        return giving.given[task];
    }

    public int ahead(int n, int what) throws IllegalArgumentException {
        needWithin(n, 0, FAR_HOURS);
        needWithin(what, 0, 2);
        trial.copyFrom(now);
        for (int h = 0; h < n; h++) {
            rules.passHour(trial);
        }
        if (what == 0) {
            return rules.doneTasks(trial);
        }
        return what == 1 ? trial.doneOfAll() : trial.leaders();
    }

    // ---- which hour it is

    public int fits() {
        int bits = 0;
        for (int h = 0; h < HOURS_A_DAY; h++) {
            if (linesRight(h)) {
                bits |= 1 << h;
            }
        }
        return bits;
    }

    public int look(int what) throws IllegalArgumentException {
        needWithin(what, 0, 1);
        int hours = fits();
        int who = NONE;
        int fewest = NONE;
        for (int p = 0; p < members.persons; p++) {
            if (lines.levels[p] == NONE) {
                int worst = leftAtWorst(p, hours);
                if (who == NONE || worst < fewest) {
                    who = p;
                    fewest = worst;
                }
            }
        }
        return what == 0 ? who : fewest;
    }

    // ---- by numbers alone

    public int waiters(int v, int w, int what) throws IllegalArgumentException {
        needWithin(v, 0, 99);
        needWithin(w, 0, 99);
        needWithin(what, 0, 2);
        int rests = 0;
        int first = NONE;
        int together = 0;
        for (int both = 0; both < 4; both++) {
            int one = both / 2;
            int other = both % 2;
            if (keepsTo(one, other, v, w) && keepsTo(other, one, v, w)) {
                rests++;
                if (first == NONE) {
                    first = 10 * one + other;
                    together = has(one, other, v, w) + has(other, one, v, w);
                }
            }
        }
        if (what == 0) {
            return rests;
        }
        return what == 1 ? first : together;
    }

    public long found(int n, int k, int q, int part) throws IllegalArgumentException {
        needWithin(n, 0, 12);
        needWithin(k, 0, 13);
        needWithin(q, 0, ODDS);
        needWithin(part, 0, 1);
        long above = 0;
        for (int j = k; j <= n; j++) {
            above += choose(n, j) * power(q, j) * power(ODDS - q, n - j);
        }
        long below = power(ODDS, n);
        // what is below is a power of two, so only twos can be cut away
        for (int i = 0; i < 48 && below > 1 && above % 2 == 0; i++) {
            above /= 2;
            below /= 2;
        }
        return part == 0 ? above : below;
    }

    public int soup(int person, int persons, int n) throws NoSuchElementException, IllegalArgumentException {
        needPerson(person);
        needBits(persons, members.persons);
        needWithin(n, 0, 9999);
        if ((persons >> person & 1) == 0) {
            return 0;
        }
        rules.fillLevels(now, levels);
        int bound = MOST_READINESS;
        while (bound > 0 && handedOut(persons, bound) > n) {
            bound--;
        }
        return Math.min(levels[person], bound);
    }

    // ---- lists by readiness

    public int readiest(int what) throws IllegalArgumentException {
        needWithin(what, 0, 1);
        rules.fillLevels(now, levels);
        int who = NONE;
        int most = NONE;
        for (int p = 0; p < members.persons; p++) {
            if (levels[p] > most) {
                who = p;
                most = levels[p];
            }
        }
        return what == 0 ? who : most;
    }

    public int open() {
        int bits = 0;
        for (int t = 0; t < members.tasks; t++) {
            if (rules.canCome(now, t)) {
                bits |= 1 << t;
            }
        }
        return bits;
    }

    public int left(int tasks) throws IllegalArgumentException {
        needBits(tasks, members.tasks);
        int sum = 0;
        for (int t = 0; t < members.tasks; t++) {
            if ((tasks >> t & 1) == 1) {
                sum += members.needs[t] - now.done[t];
            }
        }
        return sum;
    }

    public int alike(int person) throws NoSuchElementException {
        needPerson(person);
        rules.fillLevels(now, levels);
        int bits = 0;
        for (int p = 0; p < members.persons; p++) {
            if (p != person && levels[p] == levels[person]) {
                bits |= 1 << p;
            }
        }
        return bits;
    }

    public int busy(int person) throws NoSuchElementException {
        needPerson(person);
        trial.copyFrom(now);
        for (int h = 0; h <= FAR_HOURS; h++) {
            if (trial.leads[person] == NONE) {
                return h;
            }
            rules.passHour(trial);
        }
        return NONE;
    }

    public int rank(int person) throws NoSuchElementException {
        needPerson(person);
        if (now.leads[person] != NONE) {
            return NONE;
        }
        rules.fillLevels(now, levels);
        return aheadOf(person);
    }

    public int fresh() {
        int bits = 0;
        for (int t = 0; t < members.tasks; t++) {
            if (now.done[t] == 0 && now.leaderOf(t) == NONE) {
                bits |= 1 << t;
            }
        }
        return bits;
    }

    public int quickest(int what) throws IllegalArgumentException {
        needWithin(what, 0, 1);
        int who = NONE;
        int most = NONE;
        for (int p = 0; p < members.persons; p++) {
            int pace = rules.pace(now, p);
            if (pace > most) {
                who = p;
                most = pace;
            }
        }
        return what == 0 ? who : most;
    }

    // ---- decades by seeds

    public int decade(int seed, int hours, int q, int what) throws IllegalArgumentException {
        needWithin(hours, 1, DECADE_HOURS);
        needWithin(q, 0, ODDS);
        needWithin(what, 0, 3);
        trial.copyFrom(now);
        drawn.go(rules, trial, seed, hours, q);
        switch (what) {
            case 0: return trial.doneOfAll() - now.doneOfAll();
            case 1: return trial.comings - now.comings;
            case 2: return trial.leaders();
            default: return trial.bootsOfAll();
        }
    }

    public int span(int seed, int many, int hours, int q, int what, int person) throws IllegalArgumentException {
        needWithin(many, 1, DECADE_SEEDS);
        needWithin(hours, 1, DECADE_HOURS);
        needWithin(q, 0, ODDS);
        needWithin(what, 0, 2);
        needWithin(person, 0, members.persons - 1);
        int least = 0;
        int most = 0;
        int leading = 0;
        for (int i = 0; i < many; i++) {
            trial.copyFrom(now);
            drawn.go(rules, trial, seed + i, hours, q);
            int gained = trial.doneOfAll() - now.doneOfAll();
            least = i == 0 ? gained : Math.min(least, gained);
            most = Math.max(most, gained);
            leading += trial.leads[person] != NONE ? 1 : 0;
        }
        if (what == 0) {
            return least;
        }
        return what == 1 ? most : leading;
    }

    // ---- bags

    public int bag(int bag, int kind, int n) throws IllegalArgumentException, NegativeArraySizeException {
        needBag(bag);
        needWithin(kind, A_BOOT, A_NAPKIN);
        needArgument(kind != A_MAP || n <= PLACES);
        if (kind == A_MAP && n < 0) {
            refused[CUT_TOO_SHORT]++;
            throw new NegativeArraySizeException();
        }
        things.put(bag, kind, n);
        return 1;
    }

    public int drop(int bag) throws IllegalArgumentException {
        needBag(bag);
        if (things.kinds[bag] == NONE) {
            return 0;
        }
        things.kinds[bag] = NONE;
        return 1;
    }

    public int kind(int bag) throws IllegalArgumentException {
        needBag(bag);
        return things.kinds[bag];
    }

    public int wear(int bag) throws IllegalArgumentException, NullPointerException, ClassCastException {
        needBag(bag);
        needThing(bag);
        needKind(bag, A_BOOT, A_BOOT);
        return things.sizes[bag];
    }

    public int fold(int bag) throws IllegalArgumentException, NullPointerException, ClassCastException {
        needBag(bag);
        needThing(bag);
        needKind(bag, A_TOWEL, A_NAPKIN);
        int folds = things.sizes[bag];
        things.sizes[bag] = things.kinds[bag] == A_TOWEL ? 2 * folds + 1 : folds + 1;
        return things.sizes[bag];
    }

    public int mark(int bag, int place, int v)
            throws IllegalArgumentException, NullPointerException, ClassCastException, IndexOutOfBoundsException {
        needPlace(bag, place);
        int was = things.places[bag * PLACES + place];
        things.places[bag * PLACES + place] = v;
        return was;
    }

    public int read(int bag, int place)
            throws IllegalArgumentException, NullPointerException, ClassCastException, IndexOutOfBoundsException {
        needPlace(bag, place);
        return things.places[bag * PLACES + place];
    }

    public int copy(int bag, int place, int other, int at, int n)
            throws IllegalArgumentException, NullPointerException, ClassCastException, IndexOutOfBoundsException {
        needBag(bag);
        needBag(other);
        needThing(bag);
        needThing(other);
        needKind(bag, A_MAP, A_MAP);
        needKind(other, A_MAP, A_MAP);
        needRoom(things.sizes[bag], place, n);
        needRoom(things.sizes[other], at, n);
        System.arraycopy(things.places, bag * PLACES + place, things.places, other * PLACES + at, n);
        return n;
    }

    // ---- images and counts

    public int image() {
        if (past.images == IMAGES) {
            return NONE;
        }
        past.takeImage(now);
        return past.images;
    }

    public int restore() {
        if (past.images == 0) {
            return NONE;
        }
        past.restoreImage(now);
        program.refusals = 0;
        return past.images;
    }

    public int status(int what) {
        return what >= 0 && what < REASONS ? refused[what] : NONE;
    }

    public int count(int what) {
        switch (what) {
            case 0: return past.images;
            case 1: return text.size;
            case 2: return past.works;
            case 3: return things.full();
            default: return NONE;
        }
    }

    // ---- refusals of calls

    private int refuseArgument() {
        refused[BAD_ARGUMENT]++;
        throw new IllegalArgumentException();
    }

    private void needArgument(boolean fine) {
        if (!fine) {
            refused[BAD_ARGUMENT]++;
            throw new IllegalArgumentException();
        }
    }

    private void needWithin(int v, int least, int most) {
        needArgument(v >= least && v <= most);
    }

    private void needLength(int n, int most) {
        needWithin(n, 0, Math.min(most, text.size));
    }

    private void needBits(int bits, int many) {
        needArgument(bits >= 0 && bits < 1 << many);
    }

    private void needPerson(int p) {
        if (p < 0 || p >= members.persons) {
            refused[NO_ELEMENT]++;
            throw new NoSuchElementException();
        }
    }

    private void needTask(int t) {
        if (t < 0 || t >= members.tasks) {
            refused[NO_ELEMENT]++;
            throw new NoSuchElementException();
        }
    }

    private void needBag(int bag) {
        needWithin(bag, 0, BAGS - 1);
    }

    private void needThing(int bag) {
        if (things.kinds[bag] == NONE) {
            refused[NOTHING_THERE]++;
            throw new NullPointerException();
        }
    }

    private void needKind(int bag, int least, int most) {
        if (things.kinds[bag] < least || things.kinds[bag] > most) {
            refused[OTHER_KIND]++;
            throw new ClassCastException();
        }
    }

    private void needRoom(int size, int place, int n) {
        // size less n cannot wrap behind the test that n is not below 0, place and n together could
        if (n < 0 || place < 0 || place > size - n) {
            refused[NO_PLACE]++;
            throw new IndexOutOfBoundsException();
        }
    }

    private void needPlace(int bag, int place) {
        needBag(bag);
        needThing(bag);
        needKind(bag, A_MAP, A_MAP);
        needRoom(things.sizes[bag], place, 1);
    }

    // ---- parts of the answers

    /** By the levels as they were filled last. */
    private int aheadOf(int person) {
        int ahead = 0;
        for (int p = 0; p < members.persons; p++) {
            boolean before = levels[p] < levels[person] || levels[p] == levels[person] && p < person;
            if (now.leads[p] == NONE && before) {
                ahead++;
            }
        }
        return ahead;
    }

    private boolean linesRight(int hour) {
        for (int p = 0; p < members.persons; p++) {
            if (lines.levels[p] != NONE && rules.levelAt(now, p, hour) != lines.levels[p]) {
                return false;
            }
        }
        return true;
    }

    private int leftAtWorst(int person, int hours) {
        for (int i = 0; i <= MOST_READINESS; i++) {
            leftBy[i] = 0;
        }
        int worst = 0;
        for (int h = 0; h < HOURS_A_DAY; h++) {
            if ((hours >> h & 1) == 1) {
                int level = rules.levelAt(now, person, h);
                leftBy[level]++;
                worst = Math.max(worst, leftBy[level]);
            }
        }
        return worst;
    }

    private int handedOut(int persons, int bound) {
        int sum = 0;
        for (int p = 0; p < members.persons; p++) {
            if ((persons >> p & 1) == 1) {
                sum += Math.min(levels[p], bound);
            }
        }
        return sum;
    }

    private static int asReadiness(int value) {
        return Math.max(0, Math.min(MOST_READINESS, value));
    }

    /** What one has who does mine (0 begins, 1 waits) while the other one does its. */
    private static int has(int mine, int its, int v, int w) {
        if (mine == its) {
            return mine == 0 ? w : -w;
        }
        return mine == 0 ? 0 : v;
    }

    private static boolean keepsTo(int mine, int its, int v, int w) {
        return has(mine, its, v, w) >= has(1 - mine, its, v, w);
    }

    private static long choose(int n, int k) {
        long ways = 1;
        for (int i = 1; i <= k; i++) {
            ways = ways * (n - k + i) / i;
        }
        return ways;
    }

    private static long power(int base, int times) {
        long product = 1;
        for (int i = 0; i < times; i++) {
            product *= base;
        }
        return product;
    }

    /** The tape, and the text that is taken from its beginning. */
    private static final class Text {
        final int[] bytes = new int[TAPE_ROOM];
        int size = 0;
        int end = 0;
        int at = 0;
        int from = 0;
        int fault = 0;
        int place = NONE;

        void put(int four) {
            for (int shift = 24; shift >= 0; shift -= 8) {
                if (size < TAPE_ROOM) {
                    bytes[size] = four >>> shift & 255;
                    size++;
                }
            }
        }

        /** The bytes stay readable up to n until more are fed, though the tape counts as empty. */
        void start(int n) {
            end = n;
            at = 0;
            from = 0;
            fault = 0;
            place = NONE;
            size = 0;
        }

        void fail(int kind, int where) {
            if (fault == 0) {
                fault = kind;
                place = where;
            }
        }

        int here() {
            return at >= 0 && at < end && at < TAPE_ROOM ? bytes[at] : NONE;
        }

        /** The first byte of what comes next, NONE at the end. */
        int peek() {
            for (int i = 0; i < TAPE_ROOM && here() == ' '; i++) {
                at++;
            }
            return here();
        }

        boolean skip(char sign) {
            if (peek() != sign) {
                return false;
            }
            at++;
            return true;
        }

        void need(char sign) {
            if (!skip(sign)) {
                fail(CANNOT_STAND, at);
            }
        }

        /** Goes behind a word; no letter there leaves an empty one. */
        void word() {
            peek();
            from = at;
            for (int i = 0; i < TAPE_ROOM && here() >= 'a' && here() <= 'z'; i++) {
                at++;
            }
        }

        boolean isWord(String word) {
            if (at - from != word.length()) {
                return false;
            }
            for (int i = 0; i < word.length(); i++) {
                int k = from + i;
                if (k < 0 || k >= TAPE_ROOM || bytes[k] != word.charAt(i)) {
                    return false;
                }
            }
            return true;
        }

        int number(int least, int most) {
            peek();
            from = at;
            int value = 0;
            for (int i = 0; i < TAPE_ROOM && here() >= '0' && here() <= '9'; i++) {
                // far above every limit already: more digits must not wrap it back below
                value = Math.min(10 * value + here() - '0', 100000);
                at++;
            }
            if (from == at) {
                fail(CANNOT_STAND, at);
            } else if (value < least || value > most) {
                fail(NO_SUCH_NUMBER, from);
            }
            return value;
        }
    }

    /** Who and what is told; no work changes it. */
    private static final class Federation {
        int persons = 0;
        int tasks = 0;
        int packed = 0;
        final int[] atFirst = new int[PERSONS];
        final int[] byHour = new int[PERSONS];
        final int[] needs = new int[TASKS];

        void copyFrom(Federation other) {
            persons = other.persons;
            tasks = other.tasks;
            packed = other.packed;
            for (int p = 0; p < PERSONS; p++) {
                atFirst[p] = other.atFirst[p];
                byHour[p] = other.byHour[p];
            }
            for (int t = 0; t < TASKS; t++) {
                needs[t] = other.needs[t];
            }
        }

        int readyAt(int person, int hour) {
            return (atFirst[person] + byHour[person] * hour) % 10;
        }

        void take(Text text) {
            persons = 0;
            tasks = 0;
            packed = 0;
            for (int clauses = 0; clauses <= CLAUSES && text.fault == 0 && text.peek() != NONE; clauses++) {
                text.word();
                takeClause(text, clauses);
                text.need(';');
            }
        }

        private void takeClause(Text text, int clauses) {
            boolean person = text.isWord("person");
            boolean task = text.isWord("task");
            if (!person && !task && !text.isWord("pack")) {
                text.fail(CANNOT_STAND, text.from);
            } else if (clauses >= CLAUSES || person && persons >= PERSONS || task && tasks >= TASKS) {
                text.fail(TOO_MANY, text.from);
            } else if (person) {
                atFirst[persons] = text.number(0, 9);
                byHour[persons] = text.number(0, 9);
                persons++;
            } else if (task) {
                needs[tasks] = text.number(1, MOST_NEED);
                tasks++;
            } else {
                packed |= 1 << text.number(0, persons - 1);
            }
        }
    }

    /** How ready one is held to be: the law's signs, what they work on ahead of them. */
    private static final class Law {
        static final int NUMBER = 0;
        static final int NAME = 1;
        static final int PLUS = 2;
        static final int MINUS = 3;
        static final int TIMES = 4;
        static final int BY = 5;
        static final int REST = 6;
        static final int LEAST = 7;
        static final int MOST = 8;
        static final int NAMES = 8;

        private boolean given = false;
        private int size = 0;
        private final int[] signs = new int[LAW_ROOM];
        private final int[] values = new int[LAW_ROOM];
        private int newSize = 0;
        private final int[] newSigns = new int[LAW_ROOM];
        private final int[] newValues = new int[LAW_ROOM];
        private final int[] stack = new int[LAW_ROOM];
        private final int[] names = new int[NAMES];

        void forget() {
            given = false;
        }

        void setBody(int ready, int boots, int packed, int feint) {
            names[0] = ready;
            names[1] = boots;
            names[2] = packed;
            names[3] = feint;
        }

        void setTime(int hour, int day, int led, int person) {
            names[4] = hour;
            names[5] = day;
            names[6] = led;
            names[7] = person;
        }

        /** What comes out by the names as they were set last. */
        int value() {
            if (!given) {
                return names[0] * 3 + names[1] * 20 + names[2] * 40 + names[3] * 9;
            }
            int top = 0;
            for (int i = 0; i < size && i < LAW_ROOM; i++) {
                if (signs[i] == NUMBER || signs[i] == NAME) {
                    if (top < LAW_ROOM) {
                        stack[top] = signs[i] == NUMBER ? values[i] : names[values[i] & NAMES - 1];
                        top++;
                    }
                } else if (top >= 2) {
                    top--;
                    int a = stack[top - 1];
                    int b = stack[top];
                    switch (signs[i]) {
                        case PLUS: a += b; break;
                        case MINUS: a -= b; break;
                        case TIMES: a *= b; break;
                        case BY: a = b == 0 ? 0 : a / b; break;
                        case REST: a = b == 0 ? 0 : a % b; break;
                        case LEAST: a = a <= b ? a : b; break;
                        default: a = a >= b ? a : b; break;
                    }
                    stack[top - 1] = a;
                }
            }
            return stack[0];
        }

        void take(Text text) {
            newSize = 0;
            takeSum(text, 0);
            if (text.fault == 0 && text.peek() != NONE) {
                text.fail(CANNOT_STAND, text.at);
            }
            if (text.fault == 0) {
                given = true;
                size = newSize;
                System.arraycopy(newSigns, 0, signs, 0, LAW_ROOM);
                System.arraycopy(newValues, 0, values, 0, LAW_ROOM);
            }
        }

        private void add(int sign, int value) {
            if (newSize < LAW_ROOM) {
                newSigns[newSize] = sign;
                newValues[newSize] = value;
                newSize++;
            }
        }

        private void takeSum(Text text, int open) {
            takeProduct(text, open);
            for (int i = 0; i < LAW_ROOM && text.fault == 0; i++) {
                int sign = text.skip('+') ? PLUS : text.skip('-') ? MINUS : NONE;
                if (sign == NONE) {
                    return;
                }
                takeProduct(text, open);
                add(sign, 0);
            }
        }

        private void takeProduct(Text text, int open) {
            takePart(text, open);
            for (int i = 0; i < LAW_ROOM && text.fault == 0; i++) {
                int sign = text.skip('*') ? TIMES : text.skip('/') ? BY : text.skip('%') ? REST : NONE;
                if (sign == NONE) {
                    return;
                }
                takePart(text, open);
                add(sign, 0);
            }
        }

        private void takePart(Text text, int open) {
            int first = text.peek();
            if (first >= '0' && first <= '9') {
                add(NUMBER, text.number(0, 999));
            } else if (first == '(') {
                takeBracket(text, open);
            } else {
                text.word();
                takeNamed(text, open);
            }
        }

        private void takeBracket(Text text, int open) {
            if (open >= OPEN_AT_ONCE) {
                text.fail(TOO_MANY, text.at);
                return;
            }
            text.need('(');
            takeSum(text, open + 1);
            text.need(')');
        }

        private void takeNamed(Text text, int open) {
            int name = nameOf(text);
            boolean least = text.isWord("least");
            if (name != NONE) {
                add(NAME, name);
            } else if (least || text.isWord("most")) {
                takePair(text, open, least ? LEAST : MOST);
            } else {
                text.fail(CANNOT_STAND, text.from);
            }
        }

        private void takePair(Text text, int open, int sign) {
            if (open >= OPEN_AT_ONCE) {
                text.fail(TOO_MANY, text.from);
                return;
            }
            text.need('[');
            if (text.fault == 0) {
                takeSum(text, open + 1);
            }
            text.need(',');
            if (text.fault == 0) {
                takeSum(text, open + 1);
            }
            text.need(']');
            add(sign, 0);
        }

        private static int nameOf(Text text) {
            if (text.isWord("ready")) {
                return 0;
            }
            if (text.isWord("boots")) {
                return 1;
            }
            if (text.isWord("packed")) {
                return 2;
            }
            if (text.isWord("feint")) {
                return 3;
            }
            if (text.isWord("hour")) {
                return 4;
            }
            if (text.isWord("day")) {
                return 5;
            }
            if (text.isWord("led")) {
                return 6;
            }
            return text.isWord("person") ? 7 : NONE;
        }
    }

    /** All that work changes. */
    private static final class State {
        static final int ROW = 5 + 3 * PERSONS + TASKS;

        int day = 0;
        int hour = 0;
        int comings = 0;
        int packed = 0;
        int feigning = 0;
        final int[] boots = new int[PERSONS];
        final int[] leads = new int[PERSONS];
        final int[] led = new int[PERSONS];
        final int[] done = new int[TASKS];

        State() {
            for (int p = 0; p < PERSONS; p++) {
                leads[p] = NONE;
            }
        }

        void begin(int packedAtFirst) {
            day = 0;
            hour = 0;
            comings = 0;
            packed = packedAtFirst;
            feigning = 0;
            for (int p = 0; p < PERSONS; p++) {
                boots[p] = 0;
                leads[p] = NONE;
                led[p] = 0;
            }
            for (int t = 0; t < TASKS; t++) {
                done[t] = 0;
            }
        }

        void copyFrom(State other) {
            day = other.day;
            hour = other.hour;
            comings = other.comings;
            packed = other.packed;
            feigning = other.feigning;
            for (int p = 0; p < PERSONS; p++) {
                boots[p] = other.boots[p];
                leads[p] = other.leads[p];
                led[p] = other.led[p];
            }
            for (int t = 0; t < TASKS; t++) {
                done[t] = other.done[t];
            }
        }

        void writeTo(int[] rows, int row) {
            int at = row * ROW;
            if (at < 0 || at > rows.length - ROW) {
                return;
            }
            rows[at] = day;
            rows[at + 1] = hour;
            rows[at + 2] = comings;
            rows[at + 3] = packed;
            rows[at + 4] = feigning;
            System.arraycopy(boots, 0, rows, at + 5, PERSONS);
            System.arraycopy(leads, 0, rows, at + 5 + PERSONS, PERSONS);
            System.arraycopy(led, 0, rows, at + 5 + 2 * PERSONS, PERSONS);
            System.arraycopy(done, 0, rows, at + 5 + 3 * PERSONS, TASKS);
        }

        void takeFrom(int[] rows, int row) {
            int at = row * ROW;
            if (at < 0 || at > rows.length - ROW) {
                return;
            }
            day = rows[at];
            hour = rows[at + 1];
            comings = rows[at + 2];
            packed = rows[at + 3];
            feigning = rows[at + 4];
            System.arraycopy(rows, at + 5, boots, 0, PERSONS);
            System.arraycopy(rows, at + 5 + PERSONS, leads, 0, PERSONS);
            System.arraycopy(rows, at + 5 + 2 * PERSONS, led, 0, PERSONS);
            System.arraycopy(rows, at + 5 + 3 * PERSONS, done, 0, TASKS);
        }

        boolean bootOn(int p) {
            if (boots[p] == 2) {
                return false;
            }
            boots[p]++;
            return true;
        }

        boolean bootsOff(int p) {
            if (boots[p] == 0) {
                return false;
            }
            boots[p] = 0;
            return true;
        }

        boolean sitDown(int p) {
            if (leads[p] == NONE) {
                return false;
            }
            leads[p] = NONE;
            return true;
        }

        int leaderOf(int task) {
            for (int p = 0; p < PERSONS; p++) {
                if (leads[p] == task) {
                    return p;
                }
            }
            return NONE;
        }

        int leaders() {
            int bits = 0;
            for (int p = 0; p < PERSONS; p++) {
                bits |= leads[p] != NONE ? 1 << p : 0;
            }
            return bits;
        }

        int ledTasks() {
            int bits = 0;
            for (int p = 0; p < PERSONS; p++) {
                bits |= leads[p] != NONE ? 1 << leads[p] : 0;
            }
            return bits;
        }

        int doneOfAll() {
            int sum = 0;
            for (int t = 0; t < TASKS; t++) {
                sum += done[t];
            }
            return sum;
        }

        int bootsOfAll() {
            int sum = 0;
            for (int p = 0; p < PERSONS; p++) {
                sum += boots[p];
            }
            return sum;
        }
    }

    /** What the federation and the law make of a state. */
    private static final class Rules {
        private final Federation members;
        private final Law rule;

        Rules(Federation members, Law rule) {
            this.members = members;
            this.rule = rule;
        }

        int levelAt(State s, int p, int hour) {
            rule.setBody(members.readyAt(p, hour), s.boots[p], s.packed >> p & 1, s.feigning >> p & 1);
            rule.setTime(hour, s.day, s.led[p], p);
            return asReadiness(rule.value());
        }

        int level(State s, int p) {
            return levelAt(s, p, s.hour);
        }

        int pace(State s, int p) {
            return 10 - levelAt(s, p, s.hour) / 10;
        }

        void fillLevels(State s, int[] levels) {
            for (int p = 0; p < members.persons && p < levels.length; p++) {
                levels[p] = levelAt(s, p, s.hour);
            }
        }

        /** Who is caught, were it that hour. */
        int leastReady(State s, int hour) {
            int who = NONE;
            int least = 0;
            for (int p = 0; p < members.persons; p++) {
                if (s.leads[p] == NONE) {
                    int level = levelAt(s, p, hour);
                    if (who == NONE || level < least) {
                        who = p;
                        least = level;
                    }
                }
            }
            return who;
        }

        boolean isDone(State s, int t) {
            return s.done[t] >= members.needs[t];
        }

        int doneTasks(State s) {
            int bits = 0;
            for (int t = 0; t < members.tasks; t++) {
                bits |= isDone(s, t) ? 1 << t : 0;
            }
            return bits;
        }

        boolean isFree(State s, int t) {
            return !isDone(s, t) && s.leaderOf(t) == NONE;
        }

        boolean canCome(State s, int t) {
            return isFree(s, t) && s.leaders() != (1 << members.persons) - 1;
        }

        boolean come(State s, int t) {
            int who = t >= 0 && t < members.tasks && canCome(s, t) ? leastReady(s, s.hour) : NONE;
            if (who == NONE) {
                return false;
            }
            s.leads[who] = t;
            s.comings++;
            return true;
        }

        /** One after the other is as good as all at once: nobody's pace hangs on another one. */
        void passHour(State s) {
            for (int p = 0; p < members.persons; p++) {
                int t = s.leads[p];
                if (t >= 0 && t < members.tasks) {
                    s.done[t] += 10 - levelAt(s, p, s.hour) / 10;
                    if (s.done[t] >= members.needs[t]) {
                        s.done[t] = members.needs[t];
                        s.leads[p] = NONE;
                        s.led[p]++;
                    }
                }
            }
            s.hour++;
            if (s.hour == HOURS_A_DAY) {
                s.hour = 0;
                s.day++;
            }
        }
    }

    /** Work as it was told: its steps in a row, each again joined with its closing. */
    private static final class Program {
        static final int BOOT = 0;
        static final int BARE = 1;
        static final int PACK = 2;
        static final int FEINT = 3;
        static final int COME = 4;
        static final int SIT = 5;
        static final int HOUR = 6;
        static final int AGAIN = 7;
        static final int CLOSE = 8;
        static final int MOST_STEPS = 200;
        static final int MOST_ROUNDS = 60;
        /** Each of 200 agains comes to its closing 60 times at most. */
        static final int MOST_TURNS = 1000000;

        int refusals = 0;
        private int size = 0;
        private final int[] steps = new int[WORK_ROOM];
        private final int[] numbers = new int[WORK_ROOM];
        private final int[] partners = new int[WORK_ROOM];
        private final int[] opened = new int[OPEN_AT_ONCE];
        private final int[] rounds = new int[OPEN_AT_ONCE];
        private int open = 0;

        void take(Text text, Federation members) {
            size = 0;
            open = 0;
            for (int i = 0; i < WORK_ROOM && text.fault == 0; i++) {
                int first = text.peek();
                if (first == NONE && open == 0) {
                    return;
                }
                if (first == ']' && open > 0) {
                    close(text);
                } else {
                    text.word();
                    takeStep(text, members);
                }
            }
        }

        private void add(int step, int number, int partner) {
            if (size < WORK_ROOM) {
                steps[size] = step;
                numbers[size] = number;
                partners[size] = partner;
                size++;
            }
        }

        private void close(Text text) {
            text.need(']');
            text.need(';');
            if (open > 0 && open <= OPEN_AT_ONCE) {
                open--;
                int again = opened[open];
                if (again >= 0 && again < WORK_ROOM) {
                    partners[again] = size;
                    add(CLOSE, 0, again);
                }
            }
        }

        private void takeStep(Text text, Federation members) {
            int step = stepOf(text);
            if (step == NONE) {
                text.fail(CANNOT_STAND, text.from);
            } else if (step == AGAIN) {
                takeAgain(text);
            } else {
                int number = 0;
                if (step == COME) {
                    number = text.number(0, members.tasks - 1);
                } else if (step != HOUR) {
                    number = text.number(0, members.persons - 1);
                }
                text.need(';');
                add(step, number, NONE);
            }
        }

        private void takeAgain(Text text) {
            if (open >= OPEN_AT_ONCE) {
                text.fail(TOO_MANY, text.from);
                return;
            }
            int number = text.number(0, MOST_ROUNDS);
            text.need('[');
            opened[open] = size;
            open++;
            add(AGAIN, number, NONE);
        }

        private static int stepOf(Text text) {
            if (text.isWord("boot")) {
                return BOOT;
            }
            if (text.isWord("bare")) {
                return BARE;
            }
            if (text.isWord("pack")) {
                return PACK;
            }
            if (text.isWord("feint")) {
                return FEINT;
            }
            if (text.isWord("come")) {
                return COME;
            }
            if (text.isWord("sit")) {
                return SIT;
            }
            if (text.isWord("hour")) {
                return HOUR;
            }
            return text.isWord("again") ? AGAIN : NONE;
        }

        /** How many steps were done. */
        int run(Rules rules, State now) {
            int begun = 0;
            int finished = 0;
            int at = 0;
            refusals = 0;
            open = 0;
            for (int i = 0; i < MOST_TURNS && at >= 0 && at < size && at < WORK_ROOM; i++) {
                int step = steps[at];
                if (step == CLOSE) {
                    at = behindClose(at);
                    continue;
                }
                if (begun == MOST_STEPS) {
                    break;
                }
                begun++;
                if (step == AGAIN) {
                    at = behindAgain(at);
                    continue;
                }
                if (does(rules, now, step, numbers[at])) {
                    finished++;
                } else {
                    refusals++;
                }
                at++;
            }
            return finished;
        }

        private int behindAgain(int at) {
            if (numbers[at] == 0 || open < 0 || open >= OPEN_AT_ONCE) {
                return partners[at] + 1;
            }
            rounds[open] = numbers[at];
            open++;
            return at + 1;
        }

        private int behindClose(int at) {
            if (open > 0 && open <= OPEN_AT_ONCE) {
                rounds[open - 1]--;
                if (rounds[open - 1] > 0) {
                    return partners[at] + 1;
                }
                open--;
            }
            return at + 1;
        }

        private static boolean does(Rules rules, State now, int step, int number) {
            if (number < 0 || number >= PERSONS) {
                return false;
            }
            switch (step) {
                case BOOT: return now.bootOn(number);
                case BARE: return now.bootsOff(number);
                case PACK:
                    now.packed ^= 1 << number;
                    return true;
                case FEINT:
                    now.feigning ^= 1 << number;
                    return true;
                case COME: return rules.come(now, number);
                case SIT: return now.sitDown(number);
                default:
                    if (now.day >= LAST_DAY) {
                        return false;
                    }
                    rules.passHour(now);
                    return true;
            }
        }
    }

    /** Looks that were told: of a person its readiness, NONE without. */
    private static final class Book {
        int many = 0;
        final int[] levels = new int[PERSONS];
        private final int[] newLevels = new int[PERSONS];

        Book() {
            for (int p = 0; p < PERSONS; p++) {
                levels[p] = NONE;
            }
        }

        void forget() {
            many = 0;
            for (int p = 0; p < PERSONS; p++) {
                levels[p] = NONE;
            }
        }

        void take(Text text, int persons) {
            for (int p = 0; p < PERSONS; p++) {
                newLevels[p] = NONE;
            }
            int taken = 0;
            for (int i = 0; i < BOOK_ROOM && text.fault == 0 && text.peek() != NONE; i++) {
                takeLine(text, persons);
                taken++;
            }
            if (text.fault == 0) {
                many = taken;
                for (int p = 0; p < PERSONS; p++) {
                    levels[p] = newLevels[p];
                }
            }
        }

        private void takeLine(Text text, int persons) {
            int p = text.number(0, persons - 1);
            if (text.fault == 0 && p < PERSONS) {
                if (newLevels[p] != NONE) {
                    text.fail(NO_SUCH_NUMBER, text.from);
                }
                newLevels[p] = text.number(0, MOST_READINESS);
            }
            text.need(';');
        }
    }

    /** States ahead of works, and images with such states of their own. */
    private static final class Past {
        int works = 0;
        int images = 0;
        private final int[] before = new int[WORKS * State.ROW];
        private final int[] kept = new int[IMAGES * State.ROW];
        private final int[] keptWorks = new int[IMAGES];
        private final int[] keptBefore = new int[IMAGES * WORKS * State.ROW];

        void forget() {
            works = 0;
            images = 0;
        }

        void keepWork(State now) {
            if (works >= 0 && works < WORKS) {
                now.writeTo(before, works);
                works++;
            }
        }

        void undoWork(State now) {
            if (works > 0 && works <= WORKS) {
                works--;
                now.takeFrom(before, works);
            }
        }

        void takeImage(State now) {
            if (images >= 0 && images < IMAGES) {
                now.writeTo(kept, images);
                keptWorks[images] = works;
                System.arraycopy(before, 0, keptBefore, images * WORKS * State.ROW, WORKS * State.ROW);
                images++;
            }
        }

        void restoreImage(State now) {
            if (images > 0 && images <= IMAGES) {
                images--;
                now.takeFrom(kept, images);
                works = keptWorks[images];
                System.arraycopy(keptBefore, images * WORKS * State.ROW, before, 0, WORKS * State.ROW);
            }
        }
    }

    /** Leaders to tasks: the fewest hours together, for each row of tasks and persons already given. */
    private static final class Plan {
        static final int WAYS = 1 << PERSONS;
        static final int FAR = 1000000;

        int total = 0;
        final int[] given = new int[TASKS];
        private int many = 0;
        private final int[] chosen = new int[TASKS];
        private final int[] paces = new int[PERSONS];
        private final int[] costs = new int[TASKS * PERSONS];
        private final int[] fewest = new int[(TASKS + 1) * WAYS];

        void make(Rules rules, State now, int tasks) {
            choose(rules, now, tasks);
            int free = fillPaces(rules, now);
            if (many > free) {
                total = NONE;
                return;
            }
            fillCosts(rules, now);
            for (int i = many - 1; i >= 0; i--) {
                fillFewest(i);
            }
            total = many == 0 ? 0 : fewest[0];
            giveFirst();
        }

        private void choose(Rules rules, State now, int tasks) {
            many = 0;
            for (int t = 0; t < TASKS; t++) {
                given[t] = NONE;
                if ((tasks >> t & 1) == 1 && rules.isFree(now, t)) {
                    chosen[many] = t;
                    many++;
                }
            }
        }

        /** How many persons lead nothing; the pace of the others is put as 0. */
        private int fillPaces(Rules rules, State now) {
            int free = 0;
            for (int p = 0; p < PERSONS; p++) {
                paces[p] = 0;
                if (p < rules.members.persons && now.leads[p] == NONE) {
                    paces[p] = rules.pace(now, p);
                    free++;
                }
            }
            return free;
        }

        private void fillCosts(Rules rules, State now) {
            for (int i = 0; i < many && i < TASKS; i++) {
                int t = chosen[i];
                int left = rules.members.needs[t] - now.done[t];
                for (int p = 0; p < PERSONS; p++) {
                    costs[i * PERSONS + p] = paces[p] > 0 ? (left + paces[p] - 1) / paces[p] : FAR;
                }
            }
            for (int mask = 0; mask < WAYS; mask++) {
                fewest[many * WAYS + mask] = 0;
            }
        }

        private int cost(int i, int mask, int p) {
            return (mask >> p & 1) == 1 ? FAR : costs[i * PERSONS + p] + fewest[(i + 1) * WAYS + (mask | 1 << p)];
        }

        private void fillFewest(int i) {
            for (int mask = 0; mask < WAYS; mask++) {
                if (Integer.bitCount(mask) == i) {
                    int least = FAR;
                    for (int p = 0; p < PERSONS; p++) {
                        least = Math.min(least, cost(i, mask, p));
                    }
                    fewest[i * WAYS + mask] = least;
                }
            }
        }

        private void giveFirst() {
            int mask = 0;
            for (int i = 0; i < many && i < TASKS; i++) {
                for (int p = 0; p < PERSONS; p++) {
                    if (cost(i, mask, p) == fewest[i * WAYS + mask]) {
                        given[chosen[i]] = p;
                        mask |= 1 << p;
                        break;
                    }
                }
            }
        }
    }

    /** Hours that a seed makes up. */
    private static final class Decade {
        private int seed = 0;

        void go(Rules rules, State s, int first, int hours, int q) {
            seed = first;
            for (int h = 0; h < hours; h++) {
                if (rules.members.tasks > 0) {
                    rules.come(s, draw(rules.members.tasks));
                }
                if (rules.members.persons > 0) {
                    int p = draw(rules.members.persons);
                    if (draw(ODDS) < q) {
                        s.bootOn(p);
                    } else {
                        s.bootsOff(p);
                    }
                }
                rules.passHour(s);
            }
        }

        private int draw(int many) {
            seed = seed * 1103515245 + 12345;
            int bits = seed >>> 16 & 32767;
            return many > 0 ? bits % many : 0;
        }
    }

    /** One thing at most in each bag; sizes are a boot's size, a map's places or a cloth's folds. */
    private static final class Bags {
        final int[] kinds = new int[BAGS];
        final int[] sizes = new int[BAGS];
        final int[] places = new int[BAGS * PLACES];

        Bags() {
            for (int b = 0; b < BAGS; b++) {
                kinds[b] = NONE;
            }
        }

        void empty() {
            for (int b = 0; b < BAGS; b++) {
                kinds[b] = NONE;
            }
        }

        void put(int bag, int kind, int n) {
            kinds[bag] = kind;
            sizes[bag] = n;
            for (int i = 0; i < PLACES; i++) {
                places[bag * PLACES + i] = 0;
            }
        }

        int full() {
            int many = 0;
            for (int b = 0; b < BAGS; b++) {
                many += kinds[b] != NONE ? 1 : 0;
            }
            return many;
        }
    }
}
