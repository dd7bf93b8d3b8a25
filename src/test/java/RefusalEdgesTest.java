import java.util.Arrays;
import java.util.NoSuchElementException;

/**
 * Every refused call: which exception it throws, that status() tells one more of it and of no other, and that all stays.
 * Beside each, the nearest calls that are not refused.
 */
public final class RefusalEdgesTest {
    private static final int LEAST = Integer.MIN_VALUE;
    private static final int GREATEST = Integer.MAX_VALUE;
    private static final int ELEMENT = 0;
    private static final int ARGUMENT = 1;
    private static final int NOTHING = 2;
    private static final int OTHER = 3;
    private static final int PLACE = 4;
    private static final int SHORT = 5;
    private static final Class<?>[] THROWN = {NoSuchElementException.class, IllegalArgumentException.class, NullPointerException.class,
        ClassCastException.class, IndexOutOfBoundsException.class, NegativeArraySizeException.class};

    private static final Due due = new Due();

    private interface Use {
        long on(UnreadyLead x);
    }

    private RefusalEdgesTest() {
    }

    public static void main(String[] args) {
        texts();
        whats();
        numbersFromZero();
        personsAndTasks();
        bitsOfTasks();
        bitsOfPersons();
        numbersWithin();
        decades();
        spans();
        elementsFirst();
        bags();
        things();
        statusCounts();
        neverRefused();
        due.close("RefusalEdgesTest");
    }

    /** Three persons, two tasks; a law, a book, two works, an image, a fault, something in bags 0 to 4, 20 bytes on the tape. */
    private static UnreadyLead rich() {
        UnreadyLead x = Due.of("person 3 1;person 0 4;person 9 0;task 20;task 7;pack 2;");
        Due.law(x, "ready * 5 + boots * 20 + packed * 9 + led");
        Due.book(x, "0 15;");
        Due.work(x, "come 0;hour;boot 1;feint 2;");
        x.image();
        Due.work(x, "bare 0;hour;");
        x.bag(0, 0, 5);
        x.bag(1, 1, 3);
        x.mark(1, 2, 7);
        x.bag(2, 2, 7);
        x.bag(3, 3, 7);
        x.bag(4, 1, 24);
        x.mark(4, 23, 8);
        Due.law(x, "1 +");
        Due.put(x, "ready + 7");
        return x;
    }

    private static UnreadyLead empty() {
        return new UnreadyLead();
    }

    private static void refuses(String call, int reason, Use use) {
        refusesOn(call, rich(), rich(), reason, use);
    }

    private static void refusesWhenEmpty(String call, int reason, Use use) {
        refusesOn(call + " of a new one", empty(), empty(), reason, use);
    }

    private static void refusesOn(String call, UnreadyLead x, UnreadyLead twin, int reason, Use use) {
        int[] want = Probe.status(x);
        want[reason]++;
        String got;
        try {
            got = "" + use.on(x);
        } catch (RuntimeException e) {
            got = e.getClass().getName();
        }
        due.same(call, got, THROWN[reason].getName());
        due.same("status behind " + call, Arrays.toString(Probe.status(x)), Arrays.toString(want));
        due.same("all behind " + call, Probe.of(x), Probe.of(twin));
    }

    private static void takes(String call, Use use) {
        takesOn(call, rich(), use);
    }

    private static void takesOn(String call, UnreadyLead x, Use use) {
        int[] want = Probe.status(x);
        String got = "an answer";
        try {
            use.on(x);
        } catch (RuntimeException e) {
            got = e.getClass().getName();
        }
        due.same(call, got, "an answer");
        due.same("status behind " + call, Arrays.toString(Probe.status(x)), Arrays.toString(want));
    }

    private static void texts() {
        due.about(3, "IllegalArgumentException: n is not 0 to the TAPE's bytes (it stays)");
        for (int n : new int[] {-1, 21, 600, 601, LEAST, GREATEST}) {
            refuses("federation(" + n + ")", ARGUMENT, x -> x.federation(n));
        }
        refusesWhenEmpty("federation(1)", ARGUMENT, x -> x.federation(1));
        takes("federation(0)", x -> x.federation(0));
        takes("federation(20)", x -> x.federation(20));
        due.about(4, "Likewise the LAW (n to 150)");
        for (int n : new int[] {-1, 21, 150, 151, LEAST, GREATEST}) {
            refuses("law(" + n + ")", ARGUMENT, x -> x.law(n));
        }
        takes("law(0)", x -> x.law(0));
        takes("law(20)", x -> x.law(20));
        due.about(5, "Likewise WORK (n to 150)");
        for (int n : new int[] {-1, 21, 150, 151, LEAST, GREATEST}) {
            refuses("work(" + n + ")", ARGUMENT, x -> x.work(n));
        }
        takes("work(0)", x -> x.work(0));
        takes("work(20)", x -> x.work(20));
        due.about(6, "Likewise the BOOK (n to 60)");
        for (int n : new int[] {-1, 21, 60, 61, LEAST, GREATEST}) {
            refuses("book(" + n + ")", ARGUMENT, x -> x.book(n));
        }
        takes("book(0)", x -> x.book(0));
        takes("book(20)", x -> x.book(20));
        longTapes();
    }

    private static UnreadyLead longTape(int bytes) {
        UnreadyLead x = rich();
        for (int n = 40; n <= bytes; n += 20) {
            x.feed(0x20202020, 0x20202020, 0x20202020, 0x20202020, 0x20202020);
        }
        return x;
    }

    private static void longTapes() {
        due.about(4, "(n to 150)");
        refusesOn("law(151) of 160 bytes", longTape(160), longTape(160), ARGUMENT, x -> x.law(151));
        takesOn("law(150) of 160 bytes", longTape(160), x -> x.law(150));
        due.about(5, "(n to 150)");
        refusesOn("work(151) of 160 bytes", longTape(160), longTape(160), ARGUMENT, x -> x.work(151));
        takesOn("work(150) of 160 bytes", longTape(160), x -> x.work(150));
        due.about(6, "(n to 60)");
        refusesOn("book(61) of 80 bytes", longTape(80), longTape(80), ARGUMENT, x -> x.book(61));
        takesOn("book(60) of 80 bytes", longTape(80), x -> x.book(60));
        due.about(3, "n is not 0 to the TAPE's bytes");
        refusesOn("federation(601) of 600 bytes", longTape(600), longTape(600), ARGUMENT, x -> x.federation(601));
        takesOn("federation(600) of 600 bytes", longTape(600), x -> x.federation(600));
        takesOn("feed of 600 bytes", longTape(600), x -> x.feed(1, 2, 3, 4, 5));
    }

    private interface Asked {
        long on(UnreadyLead x, int what);
    }

    private static void within(String call, int least, int most, Asked asked) {
        takes(call + " " + least, x -> asked.on(x, least));
        takes(call + " " + most, x -> asked.on(x, most));
        for (int what : new int[] {least - 1, most + 1, LEAST, GREATEST}) {
            refuses(call + " " + what, ARGUMENT, x -> asked.on(x, what));
        }
    }

    private static void whats() {
        due.about(9, "IllegalArgumentException: another what (so below)");
        within("told", 0, 11, (x, what) -> x.told(what));
        due.about(10, "Of a PERSON: 0 R, 1 S, 2 READY now, 3 boots it has on, 4 the TASK it leads (NONE), 5 how often it led one to its end, 6 READINESS now, 7 PACE now");
        within("person", 0, 7, (x, what) -> x.person(2, what));
        due.about(11, "Of a TASK: 0 N, 1 how much of it is done, 2 who leads it (NONE)");
        within("task", 0, 2, (x, what) -> x.task(1, what));
        due.about(21, "0 TASKS that are DONE (bits), 1 how much is done of all TASKS, 2 PERSONS who lead (bits)");
        within("ahead by what", 0, 2, (x, what) -> x.ahead(9, what));
        due.about(23, "LOOK: 0 the PERSON, 1 how many are left at the worst");
        within("look", 0, 1, (x, what) -> x.look(what));
        due.about(24, "2 what both have by it together (0 without)");
        within("waiters by what", 0, 2, (x, what) -> x.waiters(3, 4, what));
        due.about(25, "above (part 0), below (part 1)");
        within("found by part", 0, 1, (x, what) -> x.found(5, 3, 7, what));
        due.about(27, "The PERSON of most READINESS (what 0), of alike ones the first, its READINESS (1)");
        within("readiest", 0, 1, (x, what) -> x.readiest(what));
        due.about(34, "The PERSON of most PACE (what 0), of alike ones the first, its PACE (1)");
        within("quickest", 0, 1, (x, what) -> x.quickest(what));
        refusesWhenEmpty("look(2)", ARGUMENT, x -> x.look(2));
        refusesWhenEmpty("readiest(2)", ARGUMENT, x -> x.readiest(2));
        refusesWhenEmpty("quickest(-1)", ARGUMENT, x -> x.quickest(-1));
    }

    private static void numbersFromZero() {
        due.about(15, "IllegalArgumentException: k below 0");
        refuses("next(-1)", ARGUMENT, x -> x.next(-1));
        refuses("next of the least", ARGUMENT, x -> x.next(LEAST));
        refusesWhenEmpty("next(-1)", ARGUMENT, x -> x.next(-1));
        takes("next(0)", x -> x.next(0));
        takes("next of the greatest", x -> x.next(GREATEST));
    }

    private static void persons(String call, Asked asked) {
        takes(call + " of 0", x -> asked.on(x, 0));
        takes(call + " of 2", x -> asked.on(x, 2));
        for (int p : new int[] {-1, 3, 7, 8, LEAST, GREATEST}) {
            refuses(call + " of " + p, ELEMENT, x -> asked.on(x, p));
        }
        refusesWhenEmpty(call, ELEMENT, x -> asked.on(x, 0));
    }

    private static void tasks(String call, Asked asked) {
        takes(call + " of 0", x -> asked.on(x, 0));
        takes(call + " of 1", x -> asked.on(x, 1));
        for (int t : new int[] {-1, 2, 5, 6, LEAST, GREATEST}) {
            refuses(call + " of " + t, ELEMENT, x -> asked.on(x, t));
        }
        refusesWhenEmpty(call, ELEMENT, x -> asked.on(x, 0));
    }

    private static void personsAndTasks() {
        due.about(10, "NoSuchElementException: no such PERSON, TASK (so below, ahead of others)");
        persons("person", (x, p) -> x.person(p, 0));
        tasks("task", (x, t) -> x.task(t, 0));
        persons("readiness", (x, p) -> x.readiness(p, 0));
        persons("hours", (x, p) -> x.hours(p));
        persons("waits", (x, p) -> x.waits(p));
        tasks("ends", (x, t) -> x.ends(t));
        tasks("gives", (x, t) -> x.gives(t, 0));
        persons("soup", (x, p) -> x.soup(p, 0, 0));
        persons("alike", (x, p) -> x.alike(p));
        persons("busy", (x, p) -> x.busy(p));
        persons("rank", (x, p) -> x.rank(p));
    }

    private static void bits(String call, int all, Asked asked) {
        takes(call + " of none", x -> asked.on(x, 0));
        takes(call + " of all", x -> asked.on(x, all));
        for (int bits : new int[] {all + 1, 2 * all + 1, 256, 1 << 30, LEAST, -1, GREATEST}) {
            refuses(call + " of " + bits, ARGUMENT, x -> asked.on(x, bits));
        }
    }

    private static void bitsOfTasks() {
        due.about(19, "IllegalArgumentException: bits of no TASKS (so below)");
        bits("plan", 3, (x, bits) -> x.plan(bits));
        bits("gives by bits", 3, (x, bits) -> x.gives(0, bits));
        bits("left", 3, (x, bits) -> x.left(bits));
        refusesWhenEmpty("plan(1)", ARGUMENT, x -> x.plan(1));
        refusesWhenEmpty("left(1)", ARGUMENT, x -> x.left(1));
        UnreadyLead six = Due.of("task 9;".repeat(6));
        takesOn("plan of six", six, x -> x.plan(63));
        refusesOn("plan(64) of six", six, Due.of("task 9;".repeat(6)), ARGUMENT, x -> x.plan(64));
    }

    private static void bitsOfPersons() {
        due.about(26, "IllegalArgumentException: bits of no PERSONS");
        bits("soup by bits", 7, (x, bits) -> x.soup(0, bits, 9));
        UnreadyLead eight = Due.of("person 1 1;".repeat(8));
        takesOn("soup of eight", eight, x -> x.soup(7, 255, 9));
        refusesOn("soup by 256 of eight", eight, Due.of("person 1 1;".repeat(8)), ARGUMENT, x -> x.soup(7, 256, 9));
    }

    private static void numbersWithin() {
        due.about(12, "were it an HOUR (0 to 23) of this DAY now");
        within("readiness at hour", 0, 23, (x, v) -> x.readiness(0, v));
        due.about(13, "for such ready (0 to 9), boots (0 to 2), packed, feint (0, 1 each), hour (0 to 23), day (0 to 400), led (0 to 999), person (0 to 7)");
        within("would ready", 0, 9, (x, v) -> x.would(v, 0, 0, 0, 0, 0, 0, 0));
        within("would boots", 0, 2, (x, v) -> x.would(0, v, 0, 0, 0, 0, 0, 0));
        within("would packed", 0, 1, (x, v) -> x.would(0, 0, v, 0, 0, 0, 0, 0));
        within("would feint", 0, 1, (x, v) -> x.would(0, 0, 0, v, 0, 0, 0, 0));
        within("would hour", 0, 23, (x, v) -> x.would(0, 0, 0, 0, v, 0, 0, 0));
        within("would day", 0, 400, (x, v) -> x.would(0, 0, 0, 0, 0, v, 0, 0));
        within("would led", 0, 999, (x, v) -> x.would(0, 0, 0, 0, 0, 0, v, 0));
        within("would person", 0, 7, (x, v) -> x.would(0, 0, 0, 0, 0, 0, 0, v));
        refuses("would all", ARGUMENT, x -> x.would(-1, -1, -1, -1, -1, -1, -1, -1));
        due.about(21, "In n HOURS (0 to 500)");
        within("ahead", 0, 500, (x, v) -> x.ahead(v, 0));
        refuses("ahead both", ARGUMENT, x -> x.ahead(501, 3));
        due.about(24, "WAITERS by v, w (0 to 99)");
        within("waiters v", 0, 99, (x, v) -> x.waiters(v, 0, 0));
        within("waiters w", 0, 99, (x, v) -> x.waiters(0, v, 0));
        due.about(25, "FOUND of n (0 to 12), k (0 to 13), q (0 to 16)");
        within("found n", 0, 12, (x, v) -> x.found(v, 0, 0, 0));
        within("found k", 0, 13, (x, v) -> x.found(0, v, 0, 0));
        within("found q", 0, 16, (x, v) -> x.found(0, 0, v, 0));
        due.about(26, "What a PERSON gets of n (0 to 9,999)");
        within("soup n", 0, 9999, (x, v) -> x.soup(0, 7, v));
        within("soup n for none of them", 0, 9999, (x, v) -> x.soup(0, 6, v));
    }

    private static void decades() {
        due.about(35, "A DECADE of so many HOURS (1 to 96), Q (0 to 16)");
        within("decade hours", 1, 96, (x, v) -> x.decade(5, v, 8, 0));
        within("decade q", 0, 16, (x, v) -> x.decade(5, 9, v, 0));
        due.about(35, "0 how much is done of all TASKS in it, 1 how often any was CAUGHT in it, 2 PERSONS who lead then (bits), 3 boots all have on then");
        within("decade what", 0, 3, (x, v) -> x.decade(5, 9, 8, v));
        takes("decade by the least seed", x -> x.decade(LEAST, 9, 8, 0));
        takes("decade by the greatest seed", x -> x.decade(GREATEST, 9, 8, 0));
        refusesWhenEmpty("decade of 0 hours", ARGUMENT, x -> x.decade(5, 0, 8, 0));
    }

    private static void spans() {
        due.about(36, "Of so many SEEDS (1 to 20; seed, seed and 1, ..)");
        within("span many", 1, 20, (x, v) -> x.span(5, v, 9, 8, 0, 0));
        due.about(36, "0 the least done of all TASKS in it, 1 the most, 2 by how many a PERSON leads then");
        within("span what", 0, 2, (x, v) -> x.span(5, 2, 9, 8, v, 0));
        within("span hours", 1, 96, (x, v) -> x.span(5, 2, v, 8, 0, 0));
        within("span q", 0, 16, (x, v) -> x.span(5, 2, 9, v, 0, 0));
        due.about(36, "(IllegalArgumentException: no such PERSON, also for 0, 1.)");
        within("span person for 0", 0, 2, (x, v) -> x.span(5, 2, 9, 8, 0, v));
        within("span person for 1", 0, 2, (x, v) -> x.span(5, 2, 9, 8, 1, v));
        within("span person for 2", 0, 2, (x, v) -> x.span(5, 2, 9, 8, 2, v));
        refusesWhenEmpty("span for 0", ARGUMENT, x -> x.span(5, 2, 9, 8, 0, 0));
        refusesWhenEmpty("span for 2", ARGUMENT, x -> x.span(5, 2, 9, 8, 2, 0));
    }

    private static void elementsFirst() {
        due.about(10, "(so below, ahead of others)");
        refuses("person(3, 8)", ELEMENT, x -> x.person(3, 8));
        refuses("task(2, 3)", ELEMENT, x -> x.task(2, 3));
        refuses("readiness(3, 24)", ELEMENT, x -> x.readiness(3, 24));
        refuses("gives(2, 4)", ELEMENT, x -> x.gives(2, 4));
        refuses("soup(3, 8, 0)", ELEMENT, x -> x.soup(3, 8, 0));
        refuses("soup(3, 0, -1)", ELEMENT, x -> x.soup(3, 0, -1));
        refuses("soup(-1, -1, 10000)", ELEMENT, x -> x.soup(-1, -1, 10000));
        refusesWhenEmpty("gives(0, 1)", ELEMENT, x -> x.gives(0, 1));
        refusesWhenEmpty("soup(0, 1, -1)", ELEMENT, x -> x.soup(0, 1, -1));
    }

    private static void bags() {
        due.about(37, "no such BAG (so below, ahead of others)");
        for (int b : new int[] {-1, 8, LEAST, GREATEST}) {
            refuses("bag " + b, ARGUMENT, x -> x.bag(b, 0, 0));
            refuses("bag " + b + ", a map of -1", ARGUMENT, x -> x.bag(b, 1, -1));
            refuses("bag " + b + ", kind 4", ARGUMENT, x -> x.bag(b, 4, 0));
            refuses("drop " + b, ARGUMENT, x -> x.drop(b));
            refuses("kind of " + b, ARGUMENT, x -> x.kind(b));
            refuses("wear " + b, ARGUMENT, x -> x.wear(b));
            refuses("fold " + b, ARGUMENT, x -> x.fold(b));
            refuses("mark " + b, ARGUMENT, x -> x.mark(b, -1, 0));
            refuses("read " + b, ARGUMENT, x -> x.read(b, -1));
            refuses("copy from " + b, ARGUMENT, x -> x.copy(b, 0, 7, -1, -1));
            refuses("copy to " + b, ARGUMENT, x -> x.copy(7, 0, b, -1, -1));
            refuses("copy within " + b, ARGUMENT, x -> x.copy(b, 0, b, 0, 0));
        }
        for (int b : new int[] {0, 7}) {
            takes("bag " + b, x -> x.bag(b, 0, 0));
            takes("drop " + b, x -> x.drop(b));
            takes("kind of " + b, x -> x.kind(b));
        }
        due.about(37, "no such KIND, or a map of more than 24 places");
        within("bag by kind", 0, 3, (x, kind) -> x.bag(7, kind, 0));
        refuses("kind -1 by -1", ARGUMENT, x -> x.bag(7, -1, -1));
        refuses("a map of 25", ARGUMENT, x -> x.bag(1, 1, 25));
        refuses("a map of the most", ARGUMENT, x -> x.bag(1, 1, GREATEST));
        takes("a map of 24", x -> x.bag(1, 1, 24));
        due.about(37, "NegativeArraySizeException: a map of less than 0 (what was there stays)");
        refuses("a map of -1", SHORT, x -> x.bag(1, 1, -1));
        refuses("a map of the least", SHORT, x -> x.bag(1, 1, LEAST));
        refuses("a map of -1 where nothing is", SHORT, x -> x.bag(7, 1, -1));
        takes("a map of 0", x -> x.bag(1, 1, 0));
    }

    private static void things() {
        due.about(40, "NullPointerException: nothing is there; ClassCastException: it is no boot");
        refuses("wear nothing", NOTHING, x -> x.wear(7));
        refuses("wear a map", OTHER, x -> x.wear(1));
        refuses("wear a towel", OTHER, x -> x.wear(2));
        refuses("wear a napkin", OTHER, x -> x.wear(3));
        takes("wear a boot", x -> x.wear(0));
        due.about(41, "NullPointerException: nothing is there; ClassCastException: it is no cloth");
        refuses("fold nothing", NOTHING, x -> x.fold(7));
        refuses("fold a boot", OTHER, x -> x.fold(0));
        refuses("fold a map", OTHER, x -> x.fold(1));
        takes("fold a towel", x -> x.fold(2));
        takes("fold a napkin", x -> x.fold(3));
        due.about(42, "NullPointerException: nothing is there; then ClassCastException: it is no map; then IndexOutOfBoundsException: it has no such place");
        refuses("mark nothing", NOTHING, x -> x.mark(7, -1, 1));
        for (int b : new int[] {0, 2, 3}) {
            refuses("mark kind of " + b, OTHER, x -> x.mark(b, -1, 1));
            refuses("read kind of " + b, OTHER, x -> x.read(b, -1));
        }
        for (int place : new int[] {-1, 3, 24, LEAST, GREATEST}) {
            refuses("mark at " + place, PLACE, x -> x.mark(1, place, 1));
            refuses("read at " + place, PLACE, x -> x.read(1, place));
        }
        takes("mark the last", x -> x.mark(1, 2, 1));
        due.about(43, "(exceptions as for mark())");
        refuses("read nothing", NOTHING, x -> x.read(7, -1));
        takes("read the last", x -> x.read(1, 2));
        takes("read the last of 24", x -> x.read(4, 23));
        refuses("read behind the last of 24", PLACE, x -> x.read(4, 24));
        due.about(44, "NullPointerException: nothing is in one of them; then ClassCastException: one is no map; then IndexOutOfBoundsException: n or a place is below 0");
        refuses("copy from nothing", NOTHING, x -> x.copy(7, -1, 0, -1, -1));
        refuses("copy to nothing", NOTHING, x -> x.copy(0, -1, 7, -1, -1));
        refuses("copy from a boot", OTHER, x -> x.copy(0, -1, 1, -1, -1));
        refuses("copy to a towel", OTHER, x -> x.copy(1, -1, 2, -1, -1));
        refuses("copy -1", PLACE, x -> x.copy(4, 0, 1, 0, -1));
        refuses("copy 4", PLACE, x -> x.copy(4, 0, 1, 0, 4));
        refuses("copy 1 to 3", PLACE, x -> x.copy(4, 0, 1, 3, 1));
        refuses("copy 2 from 23", PLACE, x -> x.copy(4, 23, 1, 0, 2));
        takes("copy 3", x -> x.copy(4, 21, 1, 0, 3));
    }

    private static void statusCounts() {
        due.about(47, "How many calls were refused: 0 NoSuchElementException, 1 IllegalArgumentException, 2 NullPointerException, 3 ClassCastException, 4 IndexOutOfBoundsException, 5 NegativeArraySizeException");
        UnreadyLead x = rich();
        Use[] refused = {y -> y.rank(3), y -> y.next(-1), y -> y.wear(7), y -> y.wear(1), y -> y.read(1, 3), y -> y.bag(1, 1, -1)};
        int[] want = new int[6];
        for (int round = 0; round < 6; round++) {
            for (int reason = round; reason < 6; reason++) {
                try {
                    refused[reason].on(x);
                } catch (RuntimeException e) {
                    want[reason]++;
                }
                due.same("status in round " + round, Arrays.toString(Probe.status(x)), Arrays.toString(want));
            }
        }
        due.same("in the end", Arrays.toString(Probe.status(x)), "[1, 2, 3, 4, 5, 6]");
    }

    /** Calls that answer -1, 0 or a fault, and refused steps, are no refused calls. */
    private static void neverRefused() {
        due.about(47, "How many calls were refused");
        UnreadyLead x = new UnreadyLead();
        x.undo();
        x.restore();
        for (int i = 0; i < 4; i++) {
            x.image();
        }
        for (int i = 0; i < 31; i++) {
            x.feed(0, 0, 0, 0, 0);
        }
        x.federation(600);
        Due.law(x, "1000");
        Due.book(x, "0 0;");
        Due.work(x, "boot 0;");
        x.drop(0);
        x.kind(0);
        x.status(6);
        x.count(4);
        x.caught();
        x.next(9);
        Due.federation(x, "person 0 0;task 9;");
        Due.work(x, "bare 0;sit 0;");
        for (int i = 0; i < 17; i++) {
            Due.work(x, "");
        }
        x.ends(0);
        x.gives(0, 0);
        due.same("status", Arrays.toString(Probe.status(x)), "[0, 0, 0, 0, 0, 0]");
    }
}
