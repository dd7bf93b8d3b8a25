/** The edges of what is asked, sentence by sentence: promises 12 to 36; what is refused is in RefusalEdgesTest. */
public final class AnswerEdgesTest {
    private static final Due due = new Due();

    private AnswerEdgesTest() {
    }

    public static void main(String[] args) {
        nothingStaysChanged();
        nowAndAtOtherHours();
        caughtAndNext();
        waits();
        allElseAsNow();
        ends();
        plans();
        planByAllWays();
        ahead();
        looks();
        waiters();
        found();
        soup();
        lists();
        decades();
        spans();
        due.close("AnswerEdgesTest");
    }

    /** Person 1 leads task 0; task 1 is done; it is hour 1. */
    private static UnreadyLead some() {
        UnreadyLead x = Due.of("person 3 1;person 0 4;person 9 0;task 100;task 7;task 50;pack 2;");
        Due.work(x, "come 0;come 1;hour;feint 2;boot 2;bare 0;");
        Due.book(x, "1 12;");
        return x;
    }

    private static void nothingStaysChanged() {
        due.about(0, "Asked, nothing stays changed");
        UnreadyLead x = some();
        for (int p = 0; p < 3; p++) {
            x.readiness(p, 23);
            x.hours(p);
            x.waits(p);
            x.alike(p);
            x.busy(p);
            x.rank(p);
            x.soup(p, 7, 50);
        }
        for (int t = 0; t < 3; t++) {
            x.ends(t);
            x.gives(t, 7);
        }
        x.would(9, 2, 1, 1, 23, 400, 999, 7);
        x.caught();
        x.next(1);
        x.plan(7);
        for (int what = 0; what < 3; what++) {
            x.ahead(500, what);
            x.waiters(3, 4, what);
            x.span(7, 20, 96, 9, what, 2);
        }
        x.fits();
        for (int what = 0; what < 2; what++) {
            x.look(what);
            x.found(12, 6, 7, what);
            x.readiest(what);
            x.quickest(what);
        }
        x.open();
        x.left(7);
        x.fresh();
        for (int what = 0; what < 4; what++) {
            x.decade(7, 96, 9, what);
        }
        due.same("all behind every question", Probe.of(x), Probe.of(some()));
    }

    private static void nowAndAtOtherHours() {
        due.about(12, "READINESS of a PERSON, were it an HOUR (0 to 23) of this DAY now");
        UnreadyLead x = Due.of("person 0 1;person 3 0;");
        Due.work(x, "again 29[hour;];");
        Due.law(x, "hour + day * 50 + person");
        due.same("at hour 0", x.readiness(0, 0), 50);
        due.same("at hour 23", x.readiness(1, 23), 74);
        due.same("at this hour", x.readiness(0, 5), x.person(0, 6));
        due.about(13, "READINESS by the LAW for such ready (0 to 9), boots (0 to 2), packed, feint (0, 1 each), hour (0 to 23), day (0 to 400), led (0 to 999), person (0 to 7)");
        String[] names = {"ready", "boots", "packed", "feint", "hour", "day", "led", "person"};
        int[] most = {9, 2, 1, 1, 23, 400, 999, 7};
        for (int i = 0; i < 8; i++) {
            UnreadyLead y = new UnreadyLead();
            Due.law(y, names[i] + " / 11 + " + names[i] + " % 11");
            int[] a = new int[8];
            due.same("the least " + names[i], y.would(0, 0, 0, 0, 0, 0, 0, 0), 0);
            a[i] = most[i];
            int want = Math.min(99, most[i] / 11 + most[i] % 11);
            due.same("the most " + names[i], y.would(a[0], a[1], a[2], a[3], a[4], a[5], a[6], a[7]), want);
            int[] b = most.clone();
            b[i] = 0;
            due.same("all but " + names[i], y.would(b[0], b[1], b[2], b[3], b[4], b[5], b[6], b[7]), 0);
        }
        due.same("a person who is not there, a day beyond now", new UnreadyLead().would(9, 0, 0, 0, 23, 400, 999, 7), 27);
    }

    private static void caughtAndNext() {
        due.about(14, "Who would be CAUGHT now; NONE: all lead, or there is nobody");
        UnreadyLead x = Due.of("person 5 0;person 2 0;task 10;task 99;task 99;");
        due.same("nobody leads", x.caught(), 1);
        Due.work(x, "come 0;");
        due.same("one leads", x.caught(), 0);
        Due.work(x, "come 1;");
        due.same("all lead", x.caught(), -1);
        Due.work(x, "hour;");
        due.same("one is done", x.caught(), 1);
        due.same("there is nobody", Due.of("task 9;").caught(), -1);
        due.about(15, "Who is the k-th (from 0 on) of those who lead nothing, the least READINESS first, of alike ones the first; NONE: there are not so many");
        UnreadyLead y = Due.of("person 5 0;person 2 0;person 5 0;person 2 0;person 0 0;person 5 0;person 9 0;person 0 0;task 9;");
        int[] order = {4, 7, 1, 3, 0, 2, 5, 6, -1, -1};
        for (int k = 0; k < 10; k++) {
            due.same("next(" + k + ")", y.next(k), order[k]);
        }
        due.same("next of the most", y.next(Integer.MAX_VALUE), -1);
        Due.work(y, "come 0;");
        int[] then = {7, 1, 3, 0, 2, 5, 6, -1};
        for (int k = 0; k < 8; k++) {
            due.same("next(" + k + ") behind a coming", y.next(k), then[k]);
        }
        due.same("nobody is there", new UnreadyLead().next(0), -1);
        due.about(16, "(0: it leads)");
        due.same("who leads", y.hours(4), 0);
        due.about(16, "HOURS (bits, 0 to 23) of this DAY at which a PERSON who leads nothing would be CAUGHT, the DAY and all else as now");
        UnreadyLead z = Due.of("person 0 0;person 0 0;");
        Due.law(z, "(1 - person) * hour * 4 + person * 46");
        due.same("hours 0 to 11", z.hours(0), 0xfff);
        due.same("hours 12 to 23", z.hours(1), 0xfff000);
        Due.law(z, "(1 - person) * (hour / 23) + person");
        due.same("alike at hour 23: the first", z.hours(0), 0xffffff);
        Due.law(z, "(1 - person) * (hour / 23) * 2 + person");
        due.same("hour 23 alone", z.hours(1), 0x800000);
        Due.law(z, "(1 - person) * ((23 - hour) / 23) * 2 + person");
        due.same("hour 0 alone", z.hours(1), 1);
        Due.law(z, "(1 - person) * day * 9 + person");
        Due.work(z, "again 23[hour;];");
        due.same("the day as now, at its last hour", z.hours(0), 0xffffff);
        Due.work(z, "hour;");
        due.same("the next day as now", z.hours(1), 0xffffff);
    }

    private static void waits() {
        due.about(0, "WAITS of a PERSON: the number of HOURS (0 to 99), nothing else being done, behind which it is CAUGHT, if one came; NONE");
        UnreadyLead x = Due.of("person 0 0;person 0 0;");
        int[] limits = {0, 1, 98, 99, 100, 101};
        int[] want = {0, 1, 98, 99, -1, -1};
        for (int i = 0; i < limits.length; i++) {
            // person 0 is readier than person 1 from so many hours on
            Due.law(x, "(1 - person) * least[1, (day * 24 + hour + 900 - " + limits[i] + ") / 900] * 9 + person");
            due.same("behind " + limits[i] + " hours", x.waits(1), want[i]);
        }
        due.same("caught now", x.waits(0), 0);
        due.same("never", Due.of("person 0 0;person 0 0;").waits(1), -1);
        UnreadyLead y = Due.of("person 0 0;task 200;task 99;");
        Due.law(y, "99");
        Due.work(y, "come 0;");
        due.same("leads for 200 hours", y.waits(0), -1);
        y.undo();
        Due.work(y, "come 1;");
        due.same("leads for 99 hours", y.waits(0), 99);
        y.undo();
        UnreadyLead z = Due.of("person 0 0;task 100;");
        Due.law(z, "99");
        Due.work(z, "come 0;");
        due.same("leads for 100 hours", z.waits(0), -1);
        Due.work(z, "hour;");
        due.same("leads for 99 hours more", z.waits(0), 99);
    }

    private static void allElseAsNow() {
        due.about(0, "nothing else being done");
        // packed: 40 against 0, 3, .. 27; feigning: 9, alike behind 3 hours; boots: 20, less from 7 hours on
        UnreadyLead x = Due.of("person 0 0;person 0 1;pack 0;");
        due.same("packed", x.waits(0), -1);
        Due.work(x, "pack 0;feint 0;");
        due.same("feigning", x.waits(0), 3);
        Due.work(x, "feint 0;boot 0;");
        due.same("with a boot", x.waits(0), 7);
        Due.work(x, "bare 0;");
        due.same("with nothing", x.waits(0), 0);
        UnreadyLead y = Due.of("person 0 0;person 5 0;task 5;task 50;");
        Due.law(y, "ready + led * 9");
        Due.work(y, "come 0;hour;");
        due.same("who has led", y.waits(0) * 10 + y.waits(1), -10);
        // what is packed, feigned and led counts for paces, too: 5, 9, 9 and 1
        UnreadyLead z = Due.of("person 0 0;task 100;task 5;");
        Due.law(z, "packed * 50 + feint * 10 + boots * 10 + led * 90");
        Due.work(z, "come 0;");
        due.same("by pace 10", z.ends(0) * 100 + z.ahead(1, 1), 1010);
        Due.work(z, "pack 0;");
        due.same("by pace 5", z.ends(0) * 100 + z.ahead(1, 1), 2005);
        Due.work(z, "pack 0;feint 0;");
        due.same("by pace 9", z.ends(0) * 100 + z.ahead(1, 1), 1209);
        Due.work(z, "feint 0;boot 0;");
        due.same("by pace 9, too", z.busy(0) * 100 + z.ahead(1, 1), 1209);
        Due.work(z, "bare 0;sit 0;come 1;hour;come 0;");
        due.same("by pace 1", z.ends(0) * 100 + z.ahead(1, 1), 10006);
        due.same("by pace 1, drawn", z.decade(1, 3, 0, 0), 3);
    }

    private static void ends() {
        due.about(0, "ENDS of a TASK: the number of HOURS (0 to 500) behind which it is DONE (0: it is), nothing else being done; NONE (so, too, if it is not DONE, and nobody leads it)");
        UnreadyLead x = Due.of("person 0 0;person 0 0;task 200;task 1;task 10;");
        Due.law(x, "99");
        due.same("not led", x.ends(0), -1);
        Due.work(x, "come 0;come 1;");
        due.same("the longest", x.ends(0), 200);
        due.same("the shortest", x.ends(1), 1);
        due.same("not led while all lead", x.ends(2), -1);
        Due.work(x, "hour;");
        due.same("it is done", x.ends(1), 0);
        due.same("one hour less", x.ends(0), 199);
        Due.work(x, "sit 0;");
        due.same("not done, and nobody leads it", x.ends(0), -1);
        Due.law(x, "0");
        Due.work(x, "come 2;");
        due.same("just by one hour", x.ends(2), 1);
        UnreadyLead y = Due.of("person 0 0;task 11;");
        Due.work(y, "come 0;");
        due.same("by two", y.ends(0), 2);
    }

    private static void plans() {
        due.about(0, "PLAN of told TASKS (bits), those that are DONE or led left out");
        UnreadyLead x = Due.of("person 0 0;person 0 0;person 0 0;task 10;task 50;task 30;");
        Due.work(x, "come 0;hour;come 1;");
        due.same("a done one", x.plan(1) * 10 + x.gives(0, 1), -1);
        due.same("a led one", x.plan(2) * 10 + x.gives(1, 2), -1);
        due.same("both and another", x.plan(7) * 10 + x.gives(2, 7), 31);
        due.about(0, "(a part of an HOUR is a whole one)");
        for (int needs = 9; needs < 12; needs++) {
            due.same(needs + " by pace 10", Due.of("person 0 0;task " + needs + ";").plan(1), needs < 11 ? 1 : 2);
        }
        UnreadyLead y = Due.of("person 0 0;task 200;");
        Due.law(y, "95");
        due.same("200 by pace 1", y.plan(1), 200);
        due.about(0, "by PACE as it is now, all through");
        UnreadyLead z = Due.of("person 0 0;task 100;");
        Due.law(z, "hour * 90");
        due.same("by pace 10 all through", z.plan(1), 10);
        Due.work(z, "hour;");
        due.same("by pace 1 all through", z.plan(1), 100);
        due.about(0, "of alike ways the first (by numbers of TASKS the least PERSON)");
        UnreadyLead w = Due.of("person 0 0;".repeat(8) + "task 200;".repeat(6));
        for (int t = 0; t < 6; t++) {
            due.same("task " + t + " of six", w.gives(t, 63), t);
            due.same("task " + t + " alone", w.gives(t, 1 << t), 0);
        }
        due.same("six hours' sum", w.plan(63), 120);
        UnreadyLead v = Due.of("person 0 0;person 0 0;task 10;task 100;");
        Due.law(v, "(1 - person) * 50");
        // paces 5 and 10: 2 + 10, or 1 + 20
        due.same("not the first for the first", v.plan(3) * 100 + v.gives(0, 3) * 10 + v.gives(1, 3), 1201);
        due.about(0, "NONE: there are not so many PERSONS");
        UnreadyLead u = Due.of("person 0 0;person 0 0;task 9;task 9;task 9;");
        due.same("two tasks, two persons", u.plan(3), 2);
        due.same("three tasks, two persons", u.plan(7), -1);
        for (int t = 0; t < 3; t++) {
            due.same("gives " + t, u.gives(t, 7), -1);
        }
        Due.work(u, "come 0;");
        due.same("two tasks, one who leads nothing", u.plan(6), -1);
        due.same("one task, one who leads nothing", u.plan(4) * 10 + u.gives(2, 4), 11);
        Due.work(u, "come 1;");
        due.same("one task, all lead", u.plan(4), -1);
        due.same("nobody is there", Due.of("task 9;").plan(1), -1);
        due.about(19, "PLAN of told TASKS: HOURS together (0: none is left to be given)");
        due.same("no tasks told", u.plan(0), 0);
        due.same("all led", u.plan(3), 0);
        Due.work(u, "hour;");
        due.same("all done", u.plan(3), 0);
        due.same("nobody is there, no tasks told", Due.of("task 9;").plan(0), 0);
        due.same("no tasks are there", Due.of("person 0 0;").plan(0), 0);
        due.about(20, "Whom PLAN of told TASKS gives a TASK; NONE: nobody, or it is none of them, led or DONE");
        due.same("done", u.gives(0, 7), -1);
        due.same("one of them", u.gives(2, 7), 0);
        due.same("none of them", u.gives(2, 3), -1);
        due.same("of none at all", u.gives(2, 0), -1);
        Due.work(u, "come 2;");
        due.same("led", u.gives(2, 7), -1);
        due.same("nobody", Due.of("task 9;").gives(0, 1), -1);
    }

    private static void planByAllWays() {
        due.about(0, "all ways to give each one PERSON who leads nothing, none two: each takes as many HOURS as what is left of it");
        UnreadyLead x = Due.of("person 0 0;person 1 0;person 2 0;person 3 0;task 200;task 90;task 35;task 61;");
        // paces 10, 7, 4, 1
        Due.law(x, "ready * 30");
        for (int told = 0; told < 16; told++) {
            due.same("plan of " + told, x.plan(told), fewest(told, 0, new int[] {10, 7, 4, 1}, new int[] {200, 90, 35, 61}));
        }
        Due.work(x, "come 1;hour;sit 0;");
        for (int told = 0; told < 16; told++) {
            due.same("plan of " + told + " behind an hour", x.plan(told), fewest(told, 0, new int[] {10, 7, 4, 1}, new int[] {200, 80, 35, 61}));
        }
        due.about(0, "PERSON who leads nothing");
        UnreadyLead z = Due.of("person 0 0;person 0 0;person 0 0;task 99;task 99;task 99;");
        Due.law(z, "99 - led");
        Due.work(z, "come 0;");
        due.same("of the others", z.gives(1, 6) * 10 + z.gives(2, 6), 12);
        Due.work(z, "come 1;");
        due.same("of the last one", z.gives(2, 4), 2);
        due.about(0, "that of fewest HOURS together");
        UnreadyLead y = Due.of("person 0 0;person 5 0;task 10;task 100;");
        Due.law(y, "ready * 10");
        // paces 10 and 5: 1 and 20, or 2 and 10
        due.same("2 and 10", y.plan(3), 12);
        due.same("whom", y.gives(0, 3) * 10 + y.gives(1, 3), 10);
    }

    private static int fewest(int told, int task, int[] paces, int[] left) {
        if (task == left.length) {
            return 0;
        }
        if ((told >> task & 1) == 0) {
            return fewest(told, task + 1, paces, left);
        }
        int least = 100000;
        for (int p = 0; p < paces.length; p++) {
            if (paces[p] > 0) {
                int[] rest = paces.clone();
                rest[p] = 0;
                int hours = (left[task] + paces[p] - 1) / paces[p];
                least = Math.min(least, hours + fewest(told, task + 1, rest, left));
            }
        }
        return least;
    }

    private static void ahead() {
        due.about(21, "In n HOURS (0 to 500), nothing else being done: 0 TASKS that are DONE (bits), 1 how much is done of all TASKS, 2 PERSONS who lead (bits)");
        UnreadyLead x = Due.of("person 0 0;person 0 0;task 200;task 3;task 50;");
        Due.law(x, "99");
        Due.work(x, "come 0;come 1;");
        int[][] want = {{0, 0, 0, 3}, {1, 0, 2, 3}, {2, 0, 4, 3}, {3, 2, 6, 1}, {199, 2, 202, 1}, {200, 3, 203, 0}, {499, 3, 203, 0}, {500, 3, 203, 0}};
        for (int[] row : want) {
            for (int what = 0; what < 3; what++) {
                due.same("ahead(" + row[0] + ", " + what + ")", x.ahead(row[0], what), row[what + 1]);
            }
        }
        // the hours go by days
        UnreadyLead y = Due.of("person 0 0;task 200;");
        Due.law(y, "day / 2 * 90");
        Due.work(y, "again 60[hour;];come 0;");
        due.same("on day 2", y.told(2) * 100 + y.ahead(10, 1), 210);
        UnreadyLead z = Due.of("person 0 0;task 200;");
        Due.law(z, "99 - day * 9");
        Due.work(z, "come 0;");
        due.same("24 hours of pace 1, then 1 of pace 1", z.ahead(25, 1), 25);
        Due.law(z, "99 - day * 90");
        due.same("24 hours of pace 1, then 1 of pace 10", z.ahead(25, 1), 34);
    }

    private static void looks() {
        due.about(0, "FITS by BOOK: HOURS (0 to 23) at which, all else as now, all lines would be right (bits)");
        UnreadyLead w = Due.of("person 0 1;person 0 0;");
        Due.law(w, "ready + boots * 20 + day * 30 + led");
        Due.book(w, "0 3;1 0;");
        due.same("hours 3, 13 and 23", w.fits(), 1 << 3 | 1 << 13 | 1 << 23);
        Due.work(w, "boot 1;");
        due.same("boots as now", w.fits(), 0);
        Due.work(w, "bare 1;again 24[hour;];");
        due.same("the day as now", w.fits(), 0);
        Due.book(w, "0 30;1 30;");
        due.same("hours 0, 10 and 20 of this day", w.fits(), 1 | 1 << 10 | 1 << 20);
        due.about(0, "LOOK: the PERSON in no line by whose READINESS, whatever it was");
        Due.book(w, "1 30;");
        due.same("who is in no line", w.look(0) * 10 + w.look(1), 3);
        Due.book(w, "0 33;");
        due.same("who is in no line, though it tells nothing", w.look(0) * 10 + w.look(1), 13);
        due.about(22, "FITS, as bits of HOURS");
        UnreadyLead x = Due.of("person 0 1;person 0 5;person 7 0;");
        Due.law(x, "ready");
        due.same("no lines", x.fits(), 0xffffff);
        Due.book(x, "2 6;");
        due.same("none fits", x.fits(), 0);
        Due.law(x, "hour");
        Due.book(x, "0 23;");
        due.same("the last", x.fits(), 0x800000);
        Due.book(x, "0 0;1 0;2 0;");
        due.same("the first", x.fits(), 1);
        Due.book(x, "0 24;");
        due.same("no such hour", x.fits(), 0);
        Due.book(x, "0 5;1 6;");
        due.same("not both lines", x.fits(), 0);
        due.about(0, "fewest of FITS are left at the worst (0, if none is right), of these the first");
        due.same("none is right", x.look(0) * 10 + x.look(1), 20);
        Due.law(x, "ready");
        Due.book(x, "2 6;");
        due.same("none is right: the first of two", x.look(0) * 10 + x.look(1), 0);
        Due.book(x, "0 4;");
        // hours 4, 14: ready 0, 0 and 7, 7
        due.same("alike: the first", x.look(0) * 10 + x.look(1), 12);
        Due.book(x, "");
        due.same("10 kinds, 3 at the worst", x.look(0) * 10 + x.look(1), 3);
        Due.law(x, "hour * (1 - person % 2) * (1 - person / 2) + hour / 12 * person");
        due.same("24 kinds", x.look(0) * 10 + x.look(1), 1);
        Due.book(x, "0 3;");
        due.same("one hour fits", x.look(0) * 10 + x.look(1), 11);
        Due.book(x, "");
        Due.law(x, "99");
        due.same("one kind alone, 99", x.look(0) * 100 + x.look(1), 24);
        Due.law(x, "0");
        due.same("one kind alone, 0", x.look(0) * 100 + x.look(1), 24);
        due.about(23, "LOOK: 0 the PERSON, 1 how many are left at the worst; NONE both: all are in lines, or there are none");
        Due.book(x, "0 0;2 0;");
        due.same("who is in no line", x.look(0) * 100 + x.look(1), 124);
        Due.book(x, "0 0;2 0;1 0;");
        due.same("all are in lines", x.look(0) * 10 + x.look(1), -11);
        due.same("there are none", new UnreadyLead().look(0) * 10 + new UnreadyLead().look(1), -11);
    }

    private static void waiters() {
        due.about(0, "WAITERS by v, w: each of two begins or waits: both begin: each has w; one begins: it has 0, the other one v; both wait: each has 0 less w");
        UnreadyLead z = new UnreadyLead();
        due.same("both begin, 2 by 7", z.waiters(3, 7, 1) * 100 + z.waiters(3, 7, 2), 14);
        due.same("one begins, 0 and 7", z.waiters(7, 3, 1) * 100 + z.waiters(7, 3, 2), 107);
        due.same("both wait rests by w of 0", z.waiters(7, 0, 0) * 10 + z.waiters(7, 1, 0), 32);
        due.about(0, "RESTS: neither would have more by the other thing");
        UnreadyLead x = new UnreadyLead();
        // both begin rests by w of v or more, one begins by v of w or more (0 is not less than 0 less w), both wait by w of 0 alone
        int[][] games = {{0, 0, 4, 0, 0}, {1, 0, 3, 1, 1}, {0, 1, 1, 0, 2}, {1, 1, 3, 0, 2}, {2, 1, 2, 1, 2}, {1, 2, 1, 0, 4},
            {99, 0, 3, 1, 99}, {0, 99, 1, 0, 198}, {99, 99, 3, 0, 198}, {99, 98, 2, 1, 99}, {98, 99, 1, 0, 198}};
        for (int[] g : games) {
            for (int what = 0; what < 3; what++) {
                due.same("waiters(" + g[0] + ", " + g[1] + ", " + what + ")", x.waiters(g[0], g[1], what), g[2 + what]);
            }
        }
        due.about(24, "WAITERS by v, w (0 to 99): 0 how many RESTS, 1 the first (10 times what the one does, 0 it begins, 1 it waits, and the other one; NONE), 2 what both have by it together (0 without)");
        for (int v = 0; v < 100; v++) {
            UnreadyLead y = new UnreadyLead();
            for (int w = 0; w < 100; w++) {
                int rests = (w >= v ? 1 : 0) + (v >= w ? 2 : 0) + (w == 0 ? 1 : 0);
                due.same("rests by " + v + ", " + w, y.waiters(v, w, 0), rests);
                due.same("the first by " + v + ", " + w, y.waiters(v, w, 1), w >= v ? 0 : 1);
                due.same("both by " + v + ", " + w, y.waiters(v, w, 2), w >= v ? 2 * w : v);
            }
        }
    }

    private static void fraction(int n, int k, int q, long above, long below) {
        UnreadyLead x = new UnreadyLead();
        due.same("above of " + n + ", " + k + ", " + q, x.found(n, k, q, 0), above);
        due.same("below of " + n + ", " + k + ", " + q, x.found(n, k, q, 1), below);
    }

    /** By all ways how n comings may go, each with its weight. */
    private static long weight(int n, int k, int q) {
        if (n == 0) {
            return k <= 0 ? 1 : 0;
        }
        return q * weight(n - 1, k - 1, q) + (16 - q) * weight(n - 1, k, q);
    }

    private static void found() {
        due.about(0, "FOUND of n, k, q: of n comings each finds one unready by q of 16, each by itself: how likely k or more do");
        for (int n = 0; n <= 12; n++) {
            for (int k = 0; k <= 13; k++) {
                for (int q = 0; q <= 16; q++) {
                    long above = weight(n, k, q);
                    long below = 1L << 4 * n;
                    long by = Math.max(1, java.math.BigInteger.valueOf(above).gcd(java.math.BigInteger.valueOf(below)).longValue());
                    fraction(n, k, q, above / by, below / by);
                }
            }
        }
        due.about(25, "FOUND of n (0 to 12), k (0 to 13), q (0 to 16): above (part 0), below (part 1), in least terms");
        fraction(0, 0, 0, 1, 1);
        fraction(0, 0, 16, 1, 1);
        fraction(12, 0, 0, 1, 1);
        fraction(12, 0, 16, 1, 1);
        fraction(12, 12, 16, 1, 1);
        fraction(12, 12, 15, 129746337890625L, 281474976710656L);
        fraction(12, 12, 1, 1, 281474976710656L);
        fraction(12, 1, 15, 281474976710655L, 281474976710656L);
        fraction(12, 1, 0, 0, 1);
        fraction(1, 1, 8, 1, 2);
        fraction(1, 1, 1, 1, 16);
        fraction(1, 1, 16, 1, 1);
        fraction(1, 0, 5, 1, 1);
        fraction(2, 1, 8, 3, 4);
        fraction(12, 12, 8, 1, 4096);
        fraction(12, 12, 2, 1, 68719476736L);
        due.about(25, "k above n: 0 by 1");
        fraction(0, 1, 16, 0, 1);
        fraction(0, 13, 16, 0, 1);
        fraction(11, 12, 16, 0, 1);
        fraction(12, 13, 16, 0, 1);
        fraction(12, 13, 0, 0, 1);
    }

    private static void soup() {
        due.about(0, "SOUP of n among told PERSONS (bits) by READINESS: levelled");
        UnreadyLead z = Due.of("person 9 0;person 1 0;person 5 0;");
        due.same("levelled to 9 each, but 3", z.soup(0, 7, 21) * 10000 + z.soup(1, 7, 21) * 100 + z.soup(2, 7, 21), 90309);
        due.same("among two of them", z.soup(0, 5, 21) * 10000 + z.soup(1, 5, 21) * 100 + z.soup(2, 5, 21), 100010);
        due.about(0, "no more than that each, no more than a bound, the greatest by which no more than n are given (all, if they are no more)");
        UnreadyLead x = Due.of("person 0 0;person 0 0;person 0 0;");
        // readiness 5, 20, 40
        Due.law(x, "5 + person * 15 + person / 2 * 5");
        int[][] shares = {{0, 0, 0, 0}, {2, 0, 0, 0}, {3, 1, 1, 1}, {14, 4, 4, 4}, {15, 5, 5, 5}, {16, 5, 5, 5}, {17, 5, 6, 6},
            {44, 5, 19, 19}, {45, 5, 20, 20}, {46, 5, 20, 21}, {64, 5, 20, 39}, {65, 5, 20, 40}, {66, 5, 20, 40}, {9999, 5, 20, 40}};
        for (int[] s : shares) {
            for (int p = 0; p < 3; p++) {
                due.same("of " + s[0] + " for " + p, x.soup(p, 7, s[0]), s[1 + p]);
            }
        }
        Due.law(x, "99");
        due.same("three of 99", x.soup(2, 7, 297), 99);
        due.same("one less", x.soup(2, 7, 296), 98);
        Due.law(x, "0");
        due.same("three of 0", x.soup(2, 7, 9999), 0);
        UnreadyLead y = Due.of("person 0 0;".repeat(8));
        Due.law(y, "99");
        due.same("eight of 99", y.soup(7, 255, 792) * 100 + y.soup(7, 255, 791), 9998);
        due.same("eight of 1", y.soup(0, 255, 8) * 10 + y.soup(0, 255, 7), 10);
        due.about(26, "(0, if it is none of them)");
        due.same("none of them", y.soup(0, 254, 9999), 0);
        due.same("nobody told", y.soup(0, 0, 9999), 0);
        due.same("alone", y.soup(7, 128, 50), 50);
        due.about(26, "What a PERSON gets of n (0 to 9,999)");
        due.same("of 0", y.soup(0, 1, 0), 0);
        due.same("of 9999", y.soup(0, 1, 9999), 99);
    }

    private static void lists() {
        readiestAndQuickest();
        openAndFresh();
        leftAndAlike();
        busyAndRank();
    }

    private static void readiestAndQuickest() {
        due.about(27, "The PERSON of most READINESS (what 0), of alike ones the first, its READINESS (1); NONE both: there is nobody");
        UnreadyLead x = Due.of("person 1 0;person 2 0;person 2 0;");
        due.same("alike", x.readiest(0) * 10 + x.readiest(1), 16);
        Due.law(x, "0");
        due.same("of 0", x.readiest(0) * 10 + x.readiest(1), 0);
        Due.law(x, "99");
        due.same("of 99", x.readiest(0) * 100 + x.readiest(1), 99);
        UnreadyLead nobody = Due.of("task 9;");
        due.same("nobody", nobody.readiest(0) * 10 + nobody.readiest(1), -11);
        due.about(34, "The PERSON of most PACE (what 0), of alike ones the first, its PACE (1); NONE both: there is nobody");
        due.same("of pace 1", x.quickest(0) * 100 + x.quickest(1), 1);
        Due.law(x, "29 - ready * 9");
        // readiness 20, 11, 11
        due.same("alike", x.quickest(0) * 100 + x.quickest(1), 109);
        Due.law(x, "19 - person * 9");
        due.same("readiness 19, 10, 1", x.quickest(0) * 100 + x.quickest(1), 210);
        due.same("nobody", nobody.quickest(0) * 10 + nobody.quickest(1), -11);
    }

    private static void openAndFresh() {
        due.about(28, "TASKS (bits) that come could be done for now");
        UnreadyLead x = Due.of("person 0 0;person 0 0;task 10;task 11;task 9;");
        due.same("all", x.open(), 7);
        Due.work(x, "come 1;");
        due.same("but a led one", x.open(), 5);
        Due.work(x, "come 0;");
        due.same("all lead", x.open(), 0);
        Due.work(x, "hour;");
        due.same("but a done one", x.open(), 4);
        due.same("nobody is there", Due.of("task 9;").open(), 0);
        due.same("no tasks", Due.of("person 0 0;").open(), 0);
        due.same("the last of six, of eight", Due.of("person 0 0;".repeat(8) + "task 9;".repeat(6)).open(), 63);
        due.about(33, "TASKS (bits) of which nothing is done yet and that nobody leads");
        due.same("one begun and led, one done", x.fresh(), 4);
        Due.work(x, "sit 0;");
        due.same("one begun, one done", x.fresh() * 10 + x.open(), 46);
        Due.work(x, "come 2;");
        due.same("led, nothing done", x.fresh(), 0);
        Due.work(x, "sit 0;");
        due.same("sat down from at once", x.fresh(), 4);
        due.same("nobody is there", Due.of("task 9;task 9;").fresh(), 3);
        due.same("no tasks", Due.of("person 0 0;").fresh(), 0);
    }

    private static void leftAndAlike() {
        due.about(29, "How much is left of all told TASKS (bits) together");
        UnreadyLead x = Due.of("person 0 0;" + "task 200;".repeat(6));
        due.same("none told", x.left(0), 0);
        due.same("most", x.left(63), 1200);
        due.same("the last", x.left(32), 200);
        Due.work(x, "come 5;hour;");
        due.same("some is done", x.left(32) * 10000 + x.left(31), 1901000);
        Due.work(x, "again 19[hour;];");
        due.same("all is done", x.left(32) * 10000 + x.left(63), 1000);
        due.about(30, "PERSONS (bits) of one READINESS with a PERSON now, but itself");
        UnreadyLead y = Due.of("person 1 0;person 2 0;person 1 0;person 1 1;person 2 0;person 3 0;person 1 0;person 1 0;task 99;");
        due.same("four others", y.alike(0), 4 + 8 + 64 + 128);
        due.same("the last one's", y.alike(7), 1 + 4 + 8 + 64);
        due.same("one other", y.alike(1), 16);
        due.same("none", y.alike(5), 0);
        Due.work(y, "come 0;hour;");
        due.same("now, who leads, too", y.alike(2), 1 + 64 + 128);
        due.same("alone", Due.of("person 0 0;").alike(0), 0);
        Due.law(y, "100 + person");
        due.same("all of 99", y.alike(3), 255 - 8);
    }

    private static void busyAndRank() {
        due.about(31, "Behind how many HOURS (0 to 500; 0: now), nothing else being done, a PERSON leads nothing; NONE");
        UnreadyLead x = Due.of("person 0 0;person 1 0;task 200;task 1;");
        Due.law(x, "99");
        due.same("now", x.busy(0), 0);
        Due.work(x, "come 0;come 1;");
        due.same("the longest", x.busy(0), 200);
        due.same("the shortest", x.busy(1), 1);
        Due.work(x, "hour;");
        due.same("then", x.busy(0) * 10 + x.busy(1), 1990);
        due.about(32, "How many of those who lead nothing are ahead of a PERSON by READINESS (of alike ones the first is ahead); NONE: it leads");
        UnreadyLead y = Due.of("person 2 0;person 1 0;person 2 0;person 1 0;person 2 0;person 1 0;person 2 0;person 1 0;task 9;");
        int[] ranks = {4, 0, 5, 1, 6, 2, 7, 3};
        for (int p = 0; p < 8; p++) {
            due.same("rank(" + p + ")", y.rank(p), ranks[p]);
        }
        Due.work(y, "come 0;");
        int[] then = {3, -1, 4, 0, 5, 1, 6, 2};
        for (int p = 0; p < 8; p++) {
            due.same("rank(" + p + ") behind a coming", y.rank(p), then[p]);
        }
    }

    /** What the hours of a seed draw, by numbers of 64 bits: as the document tells it. */
    private static int[] draws(int seed, int[] by) {
        long s = seed & 0xffffffffL;
        int[] drawn = new int[by.length];
        for (int i = 0; i < by.length; i++) {
            s = (s * 1103515245L + 12345L) & 0xffffffffL;
            drawn[i] = (int) ((s >> 16 & 0x7fff) % by[i]);
        }
        return drawn;
    }

    private static void decades() {
        due.about(0, "the SEED (32 bits) becomes itself times 1,103,515,245, and 12,345 (it wraps); its bits 16 to 30, what is left of them");
        UnreadyLead x = Due.of("person 0 0;".repeat(7) + "task 200;".repeat(5));
        for (int seed : new int[] {0, 1, -1, 2, 65535, 65536, Integer.MAX_VALUE, Integer.MIN_VALUE, 123456789, -987654321}) {
            int[] d = draws(seed, new int[] {5, 7, 16, 5, 7, 16});
            int boots = (d[2] < 8 ? 1 : 0) + (d[5] < 8 ? 1 : 0);
            if (d[5] >= 8 && d[4] == d[1]) {
                boots = 0;
            }
            due.same("boots by seed " + seed, x.decade(seed, 2, 8, 3), boots);
            due.same("comings by seed " + seed, x.decade(seed, 2, 8, 1), d[0] == d[3] ? 1 : 2);
        }
        decadesOfNone();
        hourByHour();
        due.about(0, "come (if it can be done)");
        UnreadyLead y = Due.of("person 0 0;task 200;");
        due.same("led already", y.decade(1, 9, 0, 1), 1);
        due.same("done, then done no more", y.decade(1, 96, 0, 1) * 1000 + y.decade(1, 96, 0, 0), 1200);
        due.about(0, "is DRAWN by 16 below Q: boot P, else bare P (if it can be done)");
        due.same("by 0 never", y.decade(1, 96, 0, 3), 0);
        due.same("by 16 always, two at most", y.decade(1, 96, 16, 3), 2);
        due.same("by 16, one hour", y.decade(1, 1, 16, 3), 1);
        for (int seed = 0; seed < 20; seed++) {
            int drawn = draws(seed, new int[] {1, 1, 16})[2];
            due.same("just below by seed " + seed, y.decade(seed, 1, drawn + 1, 3), 1);
            due.same("just not below by seed " + seed, y.decade(seed, 1, drawn, 3), 0);
        }
        due.about(35, "A DECADE of so many HOURS (1 to 96), Q (0 to 16)");
        due.same("one hour", y.decade(1, 1, 0, 0), 10);
        UnreadyLead z = Due.of("person 0 0;task 200;");
        Due.law(z, "99");
        due.same("96 hours", z.decade(1, 96, 16, 0), 96);
        due.about(35, "0 how much is done of all TASKS in it, 1 how often any was CAUGHT in it, 2 PERSONS who lead then (bits), 3 boots all have on then");
        Due.work(z, "come 0;hour;boot 0;");
        due.same("one hour more", z.decade(1, 1, 16, 0), 1);
        due.same("not caught in it", z.decade(1, 1, 16, 1), 0);
        due.same("leads", z.decade(1, 1, 16, 2), 1);
        due.same("boots, that from ahead, too", z.decade(1, 1, 16, 3), 2);
        due.same("barefoot", z.decade(1, 1, 0, 3), 0);
    }

    private static void hourByHour() {
        due.about(0, "A DECADE by a SEED: for so many HOURS");
        UnreadyLead x = Due.of("person 0 0;task 200;");
        Due.law(x, "99");
        for (int hours : new int[] {1, 2, 50, 95, 96}) {
            due.same(hours + " hours by pace 1", x.decade(3, hours, 8, 0), hours);
        }
        // the hours of a decade go by days, too: pace 1 on day 0, pace 10 from then on
        Due.law(x, "99 - day * 99");
        due.same("24 hours", x.decade(3, 24, 8, 0), 24);
        due.same("26 hours", x.decade(3, 26, 8, 0), 44);
    }

    private static void decadesOfNone() {
        due.about(0, "are there TASKS: DRAWN by how many TASKS");
        UnreadyLead x = Due.of("person 0 0;".repeat(7));
        for (int seed = 0; seed < 10; seed++) {
            int[] d = draws(seed, new int[] {7, 16});
            due.same("without tasks the first is a person, by seed " + seed, x.decade(seed, 1, d[1] + 1, 3), 1);
            due.same("and the second its boot, by seed " + seed, x.decade(seed, 1, d[1], 3), 0);
        }
        due.about(0, "are there PERSONS: DRAWN by how many PERSONS");
        UnreadyLead y = Due.of("task 9;");
        due.same("without persons", y.decade(1, 96, 16, 0) + y.decade(1, 96, 16, 1) + y.decade(1, 96, 16, 2) + y.decade(1, 96, 16, 3), 0);
    }

    private static void spans() {
        due.about(36, "Of so many SEEDS (1 to 20; seed, seed and 1, ..)");
        UnreadyLead x = Due.of("person 0 0;person 0 0;person 0 0;task 200;task 200;task 3;");
        Due.law(x, "person * 30 + boots * 20");
        for (int seed : new int[] {0, Integer.MAX_VALUE, Integer.MAX_VALUE - 9, -5, Integer.MIN_VALUE}) {
            spans(x, seed, 1);
            spans(x, seed, 8);
        }
        spans(x, Integer.MAX_VALUE - 5, 20);
        due.about(36, "0 the least done of all TASKS in it, 1 the most, 2 by how many a PERSON leads then");
        UnreadyLead y = Due.of("person 0 0;task 200;");
        due.same("nothing but one way", y.span(5, 20, 3, 0, 0, 0) * 10000 + y.span(5, 20, 3, 0, 1, 0) * 100 + y.span(5, 20, 3, 0, 2, 0), 303020);
        due.same("done, nobody leads", y.span(5, 20, 96, 0, 2, 0), 0);
        Due.work(y, "come 0;hour;");
        due.same("in it alone", y.span(5, 20, 3, 0, 0, 0), 30);
        UnreadyLead z = Due.of("person 0 0;");
        due.same("without tasks", z.span(5, 20, 96, 8, 0, 0) + z.span(5, 20, 96, 8, 1, 0) + z.span(5, 20, 96, 8, 2, 0), 0);
    }

    private static void spans(UnreadyLead x, int seed, int many) {
        int least = Integer.MAX_VALUE;
        int most = -1;
        int leading = 0;
        for (int i = 0; i < many; i++) {
            int done = x.decade(seed + i, 5, 8, 0);
            least = Math.min(least, done);
            most = Math.max(most, done);
            leading += x.decade(seed + i, 5, 8, 2) >> 2 & 1;
        }
        String name = many + " seeds from " + seed;
        due.same("the least of " + name, x.span(seed, many, 5, 8, 0, 0), least);
        due.same("the most of " + name, x.span(seed, many, 5, 8, 1, 0), most);
        due.same("who leads by " + name, x.span(seed, many, 5, 8, 2, 2), leading);
    }
}
