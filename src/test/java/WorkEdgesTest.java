/** The edges of work, sentence by sentence: steps, hours, what is undone and kept; promises 8 to 11, 45 and 46. */
public final class WorkEdgesTest {
    private static final Due due = new Due();

    private WorkEdgesTest() {
    }

    public static void main(String[] args) {
        atFirst();
        readyByHour();
        paces();
        whoIsCaught();
        inOrder();
        refusedChangesNothing();
        twoHundredSteps();
        steps();
        hours();
        undone();
        told();
        personsAndTasks();
        images();
        due.close("WorkEdgesTest");
    }

    private static void atFirst() {
        due.about(0, "It is DAY 0, HOUR 0 (of 24, 0 to 23) at first; nobody has boots on, feigns, leads, has led; nothing is done of any TASK");
        UnreadyLead x = Due.of("person 1 1;".repeat(8) + "task 9;".repeat(6));
        Due.work(x, "boot 7;feint 7;come 5;again 30[hour;];come 4;hour;");
        for (int i = 0; i < 2; i++) {
            due.same("day and hour", x.told(2) * 100 + x.told(3), i == 0 ? 107 : 0);
            int boots = 0;
            int led = 0;
            for (int p = 0; p < 8; p++) {
                boots += x.person(p, 3);
                led += x.person(p, 5);
            }
            due.same("boots", boots, i == 0 ? 1 : 0);
            due.same("who feigns", x.told(8), i == 0 ? 128 : 0);
            due.same("how often one led", led, i == 0 ? 1 : 0);
            due.same("who leads", Integer.bitCount(x.told(4)), i == 0 ? 1 : 0);
            due.same("done of all", x.left(63), i == 0 ? 54 - 9 - 8 : 54);
            Due.federation(x, "person 1 1;".repeat(8) + "task 9;".repeat(6));
        }
    }

    private static void readyByHour() {
        due.about(0, "READY of a PERSON at an HOUR: the last digit of R and S times the HOUR together");
        UnreadyLead x = Due.of("person 9 9;person 0 0;person 9 0;person 0 9;person 1 3;");
        Due.law(x, "ready");
        int[] last = {9 + 207, 0, 9, 207, 1 + 69};
        for (int p = 0; p < 5; p++) {
            due.same("of person " + p + " at hour 23", x.readiness(p, 23), last[p] % 10);
            due.same("of person " + p + " at hour 0", x.readiness(p, 0), x.person(p, 0));
        }
        due.same("9 and 9 are 8", x.readiness(0, 1), 8);
        due.same("1 and 9 are 0", x.readiness(4, 3), 0);
        Due.work(x, "again 23[hour;];");
        due.same("now", x.person(0, 2) * 10 + x.person(4, 2), 60);
        Due.work(x, "hour;");
        due.same("at hour 0 of the next day", x.person(0, 2) * 10 + x.person(4, 2), 91);
    }

    private static void paces() {
        due.about(0, "PACE of a PERSON: 10 less a tenth (cut) of its READINESS");
        UnreadyLead x = Due.of("person 0 0;task 200;");
        int[][] pairs = {{0, 10}, {1, 10}, {9, 10}, {10, 9}, {19, 9}, {20, 8}, {89, 2}, {90, 1}, {99, 1}, {100, 1}};
        for (int[] pair : pairs) {
            Due.law(x, "" + pair[0]);
            due.same("by readiness " + pair[0], x.person(0, 7), pair[1]);
            Due.work(x, "come 0;hour;");
            due.same("done by it", x.task(0, 1), pair[1]);
            x.undo();
        }
    }

    private static void whoIsCaught() {
        due.about(0, "CAUGHT is, of the PERSONS who lead nothing, the one of least READINESS, of alike ones the first");
        UnreadyLead x = Due.of("person 3 0;person 2 0;person 2 0;person 4 0;task 9;task 9;task 9;task 9;");
        int[] order = {1, 2, 0, 3, -1};
        for (int i = 0; i < 5; i++) {
            due.same("caught " + i, x.caught(), order[i]);
            if (i < 4) {
                Due.work(x, "come " + i + ";");
                due.same("leads " + i, x.task(i, 2), order[i]);
            }
        }
        Due.work(x, "sit 3;");
        due.same("who sat down", x.caught(), 3);
        Due.work(x, "sit 2;sit 0;");
        due.same("and others", x.caught(), 2);
        for (String law : new String[] {"0", "99", "0 - 5"}) {
            UnreadyLead y = Due.of("person 9 0;".repeat(8));
            Due.law(y, law);
            due.same("eight alike by " + law, y.caught(), 0);
        }
        due.same("nobody is there", new UnreadyLead().caught(), -1);
    }

    /** Two persons: 0 leads task 0 and has two boots on; task 1 is done; person 1 is barefoot. */
    private static UnreadyLead some() {
        UnreadyLead x = Due.of("person 0 0;person 1 0;task 200;task 5;");
        Due.work(x, "come 1;hour;come 0;boot 0;boot 0;hour;");
        return x;
    }

    private static void inOrder() {
        due.about(0, "STEPS are done in order");
        UnreadyLead x = Due.of("person 0 0;person 1 0;task 99;");
        due.same("boots, then come", Due.work(x, "boot 0;come 0;"), 2);
        due.same("who leads", x.task(0, 2), 1);
        x.undo();
        due.same("come, then boots", Due.work(x, "come 0;boot 0;"), 2);
        due.same("who leads then", x.task(0, 2), 0);
        x.undo();
        due.same("each round in order", Due.work(x, "again 2[boot 0;bare 0;boot 0;];bare 1;boot 1;"), 7);
        due.same("boots", x.person(0, 3) * 10 + x.person(1, 3), 11);
        due.same("refused", x.told(10), 1);
    }

    private static void refusedChangesNothing() {
        due.about(0, "one that can't be done is REFUSED, and changes nothing");
        for (String step : new String[] {"boot 0;", "bare 1;", "come 0;", "come 1;", "sit 1;"}) {
            UnreadyLead x = some();
            UnreadyLead y = some();
            due.same(step, Due.work(x, step), 0);
            due.same("refused", x.told(10), 1);
            Due.work(y, "");
            Due.work(x, "");
            Due.work(y, "");
            due.same("all behind " + step, Probe.of(x), Probe.of(y));
            UnreadyLead z = some();
            due.same("the one behind " + step + " is done", Due.work(z, step + "hour;" + step + "feint 1;"), 2);
            due.same("two refused", z.told(10), 2);
        }
    }

    private static void begun(String text, int done, int refused, int hour, int packed) {
        UnreadyLead x = Due.of("person 1 1;");
        due.same(text, Due.work(x, text), done);
        due.same("refused of " + text, x.told(10), refused);
        due.same("hour behind " + text, x.told(2) * 24 + x.told(3), hour);
        due.same("packed behind " + text, x.told(7), packed);
    }

    private static void twoHundredSteps() {
        due.about(0, "200 STEPS at most are begun by one WORK (an again, too, each time it is come to; REFUSED ones, too), what would come behind is left out");
        // 1 and 180, 1 and 17 or 18: the pack is the 200th or the 201st
        begun("again 60[hour;hour;hour;];again 17[hour;];pack 0;", 198, 0, 197, 1);
        begun("again 60[hour;hour;hour;];again 18[hour;];pack 0;", 198, 0, 198, 0);
        begun("again 60[hour;hour;hour;];again 19[hour;];pack 0;", 198, 0, 198, 0);
        begun("again 60[sit 0;sit 0;sit 0;];again 17[sit 0;];pack 0;", 1, 197, 0, 1);
        begun("again 60[sit 0;sit 0;sit 0;];again 18[sit 0;];pack 0;", 0, 198, 0, 0);
        begun("again 60[again 0[];again 0[];again 0[];];again 17[again 0[];];pack 0;", 1, 0, 0, 1);
        begun("again 60[again 0[];again 0[];again 0[];];again 18[again 0[];];pack 0;", 0, 0, 0, 0);
        begun("again 60[again 9[];again 1[];again 60[];];again 17[again 2[];];pack 0;", 1, 0, 0, 1);
        begun("again 60[again 9[];again 1[];again 60[];];again 18[again 2[];];pack 0;", 0, 0, 0, 0);
        // 1, then three times 1 and 65 (1 and 60, 1 and 3), which are 199: again is the 200th, its hour the 201st
        begun("again 3[again 1[again 60[hour;];again 3[hour;];];];pack 0;", 190, 0, 189, 1);
        begun("again 3[again 1[again 60[hour;];again 3[hour;];];];again 1[pack 0;];", 189, 0, 189, 0);
        // left out in the midst of an again: 1, three times 61, 1 and 15
        begun("again 60[again 60[hour;];];pack 0;", 195, 0, 195, 0);
        begun("again 60[hour;pack 0;hour;];again 60[hour;];", 198, 0, 138, 0);
        // the next work begins anew
        UnreadyLead x = Due.of("person 1 1;");
        due.same("a long one", Due.work(x, "again 60[again 60[hour;];];"), 195);
        due.same("another long one", Due.work(x, "again 60[again 60[hour;];];"), 195);
        due.same("30 plain ones", Due.work(x, "hour;".repeat(30)), 30);
    }

    private static void steps() {
        boot();
        bare();
        pack();
        feint();
        come();
        sit();
    }

    private static void step(UnreadyLead x, String text, int done, int what) {
        due.same(text, Due.work(x, text), done);
        due.same("refused of " + text, x.told(10), 1 - done);
        due.same("behind " + text, x.person(0, 3), what);
    }

    private static void boot() {
        due.about(0, "boot: it has one boot more on (REFUSED, if it has two)");
        UnreadyLead x = Due.of("person 0 0;person 0 0;");
        step(x, "boot 0;", 1, 1);
        step(x, "boot 0;", 1, 2);
        step(x, "boot 0;", 0, 2);
        due.same("the other one's", x.person(1, 3), 0);
    }

    private static void bare() {
        due.about(0, "bare: it has none on (REFUSED, if it has none)");
        UnreadyLead x = Due.of("person 0 0;person 0 0;");
        step(x, "bare 0;", 0, 0);
        step(x, "boot 0;", 1, 1);
        step(x, "bare 0;", 1, 0);
        step(x, "boot 0;", 1, 1);
        step(x, "boot 0;", 1, 2);
        step(x, "bare 0;", 1, 0);
        step(x, "bare 0;", 0, 0);
    }

    private static void pack() {
        due.about(0, "pack: it is packed, or, if it is, not any more (never REFUSED)");
        UnreadyLead x = Due.of("person 0 0;person 0 0;task 9;pack 1;");
        int[] want = {1, 3, 2, 0, 1, 3};
        Due.work(x, "come 0;pack 1;");
        for (int i = 0; i < 6; i++) {
            due.same("pack " + i, Due.work(x, i % 2 == 0 ? "pack 0;" : "pack 1;"), 1);
            due.same("none is refused", x.told(10), 0);
            due.same("packed " + i, x.told(7), want[i]);
        }
    }

    private static void feint() {
        due.about(0, "feint: it feigns, or, if it does, not any more (never REFUSED)");
        UnreadyLead x = Due.of("person 0 0;person 0 0;task 9;");
        int[] want = {1, 3, 2, 0, 1, 3};
        Due.work(x, "come 0;");
        for (int i = 0; i < 6; i++) {
            due.same("feint " + i, Due.work(x, i % 2 == 0 ? "feint 0;" : "feint 1;"), 1);
            due.same("none is refused", x.told(10), 0);
            due.same("feigning " + i, x.told(8), want[i]);
        }
    }

    private static void comes(UnreadyLead x, String text, int done, int led) {
        due.same(text, Due.work(x, text), done);
        due.same("refused of " + text, x.told(10), 1 - done);
        due.same("led behind " + text, x.told(5), led);
    }

    private static void come() {
        due.about(0, "come: who is CAUGHT leads the TASK (REFUSED, if that is led or DONE, or nobody is CAUGHT: all lead, or there is nobody)");
        UnreadyLead x = Due.of("person 0 0;person 0 0;task 10;task 99;task 99;");
        comes(x, "come 0;", 1, 1);
        comes(x, "come 0;", 0, 1);
        due.same("how often", x.told(11), 1);
        Due.work(x, "hour;");
        comes(x, "come 0;", 0, 0);
        due.same("done ones are not led", x.told(6), 1);
        comes(x, "come 2;", 1, 4);
        comes(x, "come 1;", 1, 6);
        due.same("all lead", x.told(4), 3);
        UnreadyLead y = Due.of("person 0 0;person 0 0;task 9;task 9;task 9;");
        Due.work(y, "come 0;come 1;");
        comes(y, "come 2;", 0, 3);
        due.same("how often all but one came", y.told(11), 2);
        UnreadyLead z = Due.of("task 9;");
        comes(z, "come 0;", 0, 0);
        due.same("nobody", z.told(11), 0);
        // eight who all lead need eight tasks: of eight, two are always left
        UnreadyLead w = Due.of("person 0 0;".repeat(8) + "task 9;".repeat(6));
        due.same("six come", Due.work(w, "come 0;come 1;come 2;come 3;come 4;come 5;"), 6);
        due.same("leaders", w.told(4) * 100 + w.told(5), 6363);
        due.same("who is left", w.caught(), 6);
    }

    private static void sit() {
        due.about(0, "sit: it leads nothing any more; what is done of its TASK stays done (REFUSED, if it leads nothing)");
        UnreadyLead x = Due.of("person 0 0;person 0 0;task 30;");
        Due.work(x, "come 0;hour;");
        due.same("sit 0", Due.work(x, "sit 0;"), 1);
        due.same("it leads nothing", x.person(0, 4) * 10 + x.told(4), -10);
        due.same("it stays done", x.task(0, 1), 10);
        due.same("it has not led", x.person(0, 5), 0);
        due.same("sit 0 again", Due.work(x, "sit 0;"), 0);
        due.same("refused", x.told(10), 1);
        due.same("sit 1", Due.work(x, "sit 1;"), 0);
        due.same("an hour without anybody", Due.work(x, "hour;"), 1);
        due.same("nothing more is done", x.task(0, 1), 10);
        Due.work(x, "come 0;hour;hour;");
        due.same("done at last", x.told(6), 1);
        due.same("who led it sits already", Due.work(x, "sit 0;"), 0);
    }

    private static void hours() {
        ofEachTask();
        noMoreThanNeeded();
        aheadOfTheHour();
        doneTasks();
        behind23();
    }

    private static void ofEachTask() {
        due.about(0, "of each TASK that is led");
        UnreadyLead x = Due.of("person 0 0;person 1 0;person 2 0;task 99;task 99;task 99;task 99;");
        Due.law(x, "ready * 10");
        due.same("an hour without leaders", Due.work(x, "hour;"), 1);
        due.same("nothing is done", x.left(15), 396);
        Due.work(x, "come 3;come 0;come 2;hour;");
        due.same("by paces 10, 9, 8", x.task(3, 1) * 1000 + x.task(0, 1) * 100 + x.task(2, 1) * 10 + x.task(1, 1), 10980);
    }

    private static void noMoreThanNeeded() {
        due.about(0, "PACE of who leads it more is done, as all is ahead of the HOUR, no more than it NEEDS");
        for (int needs = 9; needs < 12; needs++) {
            UnreadyLead x = Due.of("person 0 0;task " + needs + ";");
            Due.work(x, "come 0;hour;");
            due.same("one hour of " + needs, x.task(0, 1), Math.min(needs, 10));
            due.same("is it done", x.told(6), needs < 11 ? 1 : 0);
            Due.work(x, "hour;");
            due.same("two hours of " + needs, x.task(0, 1), needs);
            due.same("it is done", x.told(6), 1);
        }
        UnreadyLead y = Due.of("person 0 0;task 200;");
        Due.law(y, "99");
        due.same("199 of 200 by pace 1", Due.work(y, "come 0;again 60[hour;hour;hour;];again 15[hour;];"), 196);
        due.same("done then", y.task(0, 1), 195);
        Due.work(y, "hour;hour;hour;hour;");
        due.same("all but one", y.task(0, 1) * 10 + y.told(6), 1990);
        Due.work(y, "hour;");
        due.same("all", y.task(0, 1) * 10 + y.told(6), 2001);
    }

    private static void aheadOfTheHour() {
        due.about(0, "as all is ahead of the HOUR");
        // by the hour: pace 10 at hour 0, 5 at hour 1, 1 at hour 2
        UnreadyLead x = Due.of("person 0 0;person 0 0;task 200;task 200;");
        Due.law(x, "hour * 50");
        Due.work(x, "come 0;hour;");
        due.same("by hour 0", x.task(0, 1), 10);
        Due.work(x, "hour;come 1;hour;");
        due.same("by hours 1 and 2", x.task(0, 1) * 100 + x.task(1, 1), 1601);
        // by the day: at the last hour of day 0 it is day 0
        UnreadyLead y = Due.of("person 0 0;task 200;");
        Due.law(y, "day * 90");
        Due.work(y, "again 23[hour;];come 0;hour;");
        due.same("by day 0", y.task(0, 1), 10);
        Due.work(y, "hour;");
        due.same("by day 1", y.task(0, 1), 11);
        // who leads the first task is done with it in the same hour
        UnreadyLead z = Due.of("person 0 0;person 0 0;task 10;task 20;");
        Due.law(z, "led * 99");
        Due.work(z, "come 0;come 1;hour;");
        due.same("both by pace 10", z.task(0, 1) * 100 + z.task(1, 1), 1010);
    }

    private static void doneTasks() {
        due.about(0, "of which all is done is DONE: who led it leads nothing, and has led once more");
        UnreadyLead x = Due.of("person 0 0;person 5 0;task 10;task 9;task 20;");
        Due.work(x, "come 0;come 2;hour;");
        due.same("done", x.told(6), 1);
        due.same("led and leaders", x.told(5) * 10 + x.told(4), 42);
        due.same("who led it", x.person(0, 4) * 10 + x.person(0, 5), -9);
        due.same("who leads another", x.person(1, 4) * 10 + x.person(1, 5), 20);
        Due.work(x, "come 1;hour;hour;");
        due.same("all done", x.told(6), 7);
        due.same("how often each led", x.person(0, 5) * 10 + x.person(1, 5), 21);
        due.same("nobody leads", x.told(4) + x.told(5), 0);
        Due.work(x, "again 60[hour;];");
        due.same("no more often", x.person(0, 5) * 10 + x.person(1, 5), 21);
        due.same("no more is done", x.task(0, 1) * 10000 + x.task(1, 1) * 100 + x.task(2, 1), 100920);
        // all at once
        UnreadyLead y = Due.of("person 0 0;".repeat(8) + "task 10;".repeat(6));
        Due.work(y, "come 5;come 4;come 3;come 2;come 1;come 0;hour;");
        due.same("six at once", y.told(6) * 100 + y.told(4), 6300);
        for (int p = 0; p < 8; p++) {
            due.same("led by " + p, y.person(p, 5), p < 6 ? 1 : 0);
        }
    }

    private static void behind23() {
        due.about(0, "then the HOUR is one more, behind 23 it is 0, and the DAY one more");
        UnreadyLead x = new UnreadyLead();
        Due.work(x, "again 22[hour;];");
        int[] want = {22, 23, 100, 101};
        for (int i = 0; i < 4; i++) {
            due.same("day and hour " + i, x.told(2) * 100 + x.told(3), want[i]);
            due.same("an hour", Due.work(x, "hour;"), 1);
        }
        Due.work(x, "again 21[hour;];");
        due.same("the last hour of day 1", x.told(2) * 100 + x.told(3), 123);
        Due.work(x, "hour;");
        due.same("day 2", x.told(2) * 100 + x.told(3), 200);
    }

    private static void undone() {
        due.about(8, "The latest WORK that was done (of no STEPS, too) is undone: how many are left; -1: there is none");
        UnreadyLead x = Due.of("person 0 0;task 99;");
        due.same("none", x.undo(), -1);
        Due.work(x, "hour;");
        Due.work(x, "");
        Due.work(x, "again 9[];");
        Due.work(x, "sit 0;");
        due.same("a faulty one is no work", Due.work(x, "hour;hour"), -9);
        int[] left = {3, 2, 1, 0, -1, -1};
        for (int i = 0; i < left.length; i++) {
            due.same("the hour ahead of undo " + i, x.told(3), i < 4 ? 1 : 0);
            due.same("undo " + i, x.undo(), left[i]);
            due.same("works behind it", x.count(2), Math.max(0, left[i]));
        }
        for (int i = 1; i <= 16; i++) {
            Due.work(x, "hour;");
        }
        due.same("the 17th", Due.work(x, "hour;"), -20);
        for (int i = 15; i >= 0; i--) {
            due.same("undo to " + i, x.undo(), i);
            due.same("its hour", x.told(3), i);
        }
        due.same("none again", x.undo(), -1);
        undoneWhole();
    }

    /** Works without refused steps; each changes something that the others do not. */
    private static final String[] WORKS = {"come 0;hour;", "come 1;boot 1;feint 0;", "again 30[hour;];pack 0;boot 0;boot 0;",
        "come 2;bare 1;hour;feint 1;boot 1;boot 1;", "sit 1;hour;pack 1;again 60[hour;];"};

    private static UnreadyLead behind(int many) {
        UnreadyLead x = Due.of("person 0 3;person 4 1;task 15;task 99;task 200;");
        for (int i = 0; i < many; i++) {
            Due.work(x, WORKS[i]);
            due.same("refused of work " + i, x.told(10), 0);
        }
        return x;
    }

    /** Compared with one that never went so far. */
    private static void undoneWhole() {
        for (int many = 0; many < WORKS.length; many++) {
            UnreadyLead x = behind(many + 1);
            x.undo();
            due.same("all behind undo of work " + many, Probe.of(x), Probe.of(behind(many)));
            UnreadyLead y = behind(WORKS.length);
            for (int i = WORKS.length; i > many; i--) {
                y.undo();
            }
            due.same("all behind undo to work " + many, Probe.of(y), Probe.of(behind(many)));
        }
    }

    private static void told() {
        due.about(9, "10 STEPS REFUSED by the latest WORK (0 ahead of any, behind undo(), restore())");
        UnreadyLead x = Due.of("person 0 0;");
        due.same("ahead of any", x.told(10), 0);
        Due.work(x, "bare 0;bare 0;");
        due.same("two", x.told(10), 2);
        Due.work(x, "bare 0;hour;");
        due.same("one", x.told(10), 1);
        x.undo();
        due.same("behind undo()", x.told(10), 0);
        Due.work(x, "bare 0;bare 0;bare 0;");
        x.image();
        due.same("behind image()", x.told(10), 3);
        x.restore();
        due.same("behind restore()", x.told(10), 0);
        Due.work(x, "");
        due.same("none", x.told(10), 0);
        Due.work(x, "again 60[bare 0;bare 0;bare 0;];again 60[bare 0;];");
        due.same("most", x.told(10), 198);
        due.about(9, "11 how often any was CAUGHT by come by now");
        UnreadyLead y = Due.of("person 0 0;task 10;task 99;");
        due.same("not yet", y.told(11), 0);
        Due.work(y, "come 0;come 0;come 1;");
        due.same("once", y.told(11), 1);
        Due.work(y, "hour;come 0;come 1;sit 0;come 1;");
        due.same("three times", y.told(11), 3);
        y.decade(5, 96, 3, 0);
        y.waits(0);
        due.same("asked, nothing stays changed", y.told(11), 3);
        y.undo();
        due.same("undone", y.told(11), 1);
        y.image();
        Due.work(y, "hour;come 1;");
        y.restore();
        due.same("restored", y.told(11), 1);
    }

    private static void personsAndTasks() {
        due.about(10, "4 the TASK it leads (NONE)");
        UnreadyLead x = Due.of("person 0 0;person 1 0;person 2 0;task 9;task 99;");
        due.same("nobody leads", x.person(0, 4) + x.person(1, 4) + x.person(2, 4), -3);
        Due.work(x, "come 1;come 0;");
        due.same("two lead", x.person(0, 4) * 100 + x.person(1, 4) * 10 + x.person(2, 4), 99);
        Due.work(x, "hour;");
        due.same("one leads", x.person(0, 4) * 100 + x.person(1, 4) * 10 + x.person(2, 4), 89);
        due.about(11, "2 who leads it (NONE)");
        due.same("of a done one", x.task(0, 2), -1);
        due.same("of a led one", x.task(1, 2), 0);
        due.same("of another", Due.of("task 9;").task(0, 2), -1);
        due.about(11, "1 how much of it is done");
        due.same("all of it", x.task(0, 1), 9);
        due.same("some of it", x.task(1, 1), 10);
        due.same("none of it", Due.of("task 9;").task(0, 1), 0);
        due.about(9, "4 PERSONS who lead (bits), 5 TASKS that are led (bits), 6 TASKS that are DONE (bits)");
        UnreadyLead y = Due.of("person 0 0;".repeat(8) + "task 10;".repeat(6));
        due.same("none at first", y.told(4) + y.told(5) + y.told(6), 0);
        Due.law(y, "99 - person * 9");
        Due.work(y, "come 5;come 0;");
        due.same("the last ones", y.told(4) * 100 + y.told(5), 19233);
        Due.work(y, "again 10[hour;];");
        due.same("done, the first and the last", y.told(6) * 1000 + y.told(5) * 10 + y.told(4), 33000);
        due.about(9, "0 PERSONS, 1 TASKS, 2 the DAY, 3 the HOUR");
        due.same("of a full one", y.told(0) * 1000 + y.told(1) * 100 + y.told(2) * 10 + y.told(3), 8610);
        due.same("of an empty one", Due.of("").told(0) + Due.of("").told(1), 0);
        due.about(9, "9 lines of the BOOK");
        due.same("none", y.told(9), 0);
        Due.book(y, "7 1;0 1;");
        due.same("two", y.told(9), 2);
        due.about(9, "7 PERSONS who are packed (bits), 8 PERSONS who feign (bits)");
        Due.work(y, "pack 7;feint 7;pack 0;feint 0;");
        due.same("the first and the last", y.told(7) * 1000 + y.told(8), 129129);
    }

    private static void images() {
        due.about(45, "how many there are; -1: there are 3");
        UnreadyLead x = Due.of("person 0 0;");
        for (int i = 1; i <= 3; i++) {
            due.same("image " + i, x.image(), i);
            Due.work(x, "hour;");
        }
        for (int i = 0; i < 2; i++) {
            due.same("one more", x.image(), -1);
            due.same("images", x.count(0), 3);
        }
        due.same("the hour stays", x.told(3), 3);
        due.about(46, "All that is as in the latest IMAGE, which is gone: how many are left; -1: there is none");
        for (int i = 2; i >= 0; i--) {
            due.same("restore to " + i, x.restore(), i);
            due.same("its hour", x.told(3), i);
            due.same("its works", x.count(2), i);
            due.same("images left", x.count(0), i);
        }
        Due.work(x, "hour;hour;");
        due.same("none", x.restore(), -1);
        due.same("nothing changed", x.told(3) * 10 + x.count(2), 21);
        due.same("a new first one", x.image(), 1);
        imagesOfWorks();
        imagesOfAll();
        due.about(45, "An IMAGE of all that WORK changes");
        UnreadyLead y = Due.of("person 0 0;");
        y.image();
        Due.law(y, "7");
        Due.book(y, "0 7;");
        y.bag(3, 0, 9);
        y.restore();
        due.same("law, book and bags are no work", y.person(0, 6) * 1000 + y.told(9) * 100 + y.wear(3), 7109);
    }

    private static void imagesOfWorks() {
        due.about(45, "and of WORKS that can be undone");
        UnreadyLead x = Due.of("person 0 0;");
        for (int i = 0; i < 16; i++) {
            Due.work(x, "hour;");
        }
        x.image();
        for (int i = 0; i < 16; i++) {
            x.undo();
        }
        for (int i = 0; i < 16; i++) {
            Due.work(x, "again 3[hour;];");
        }
        due.same("restore", x.restore(), 0);
        due.same("no room for more", Due.work(x, "hour;"), -20);
        for (int i = 15; i >= 0; i--) {
            due.same("undo to " + i, x.undo(), i);
            due.same("its hour", x.told(3), i);
        }
        due.same("an image of no works", x.image(), 1);
        Due.work(x, "hour;");
        Due.work(x, "hour;");
        x.restore();
        due.same("none to undo", x.undo(), -1);
        due.same("at hour 0", x.told(3), 0);
    }

    /** Compared with one that never went on. */
    private static void imagesOfAll() {
        due.about(46, "All that is as in the latest IMAGE");
        for (int many = 0; many < WORKS.length; many++) {
            UnreadyLead x = behind(many);
            x.image();
            Due.work(x, WORKS[many]);
            x.restore();
            due.same("all behind restore of " + many, Probe.of(x), Probe.of(behind(many)));
            UnreadyLead y = behind(many);
            y.image();
            for (int i = 0; i < many; i++) {
                y.undo();
            }
            for (int i = WORKS.length - 1; i >= 0; i--) {
                Due.work(y, WORKS[i]);
            }
            y.image();
            y.image();
            y.undo();
            y.restore();
            y.restore();
            y.restore();
            due.same("all behind three restores to " + many, Probe.of(y), Probe.of(behind(many)));
        }
    }
}
