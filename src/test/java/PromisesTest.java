import java.util.NoSuchElementException;

/** Each promise of the document by itself: ordinary calls, the edges that it names, and wrong ones. */
public final class PromisesTest {
    private static final Class<IllegalArgumentException> ARGUMENT = IllegalArgumentException.class;
    private static final Class<NoSuchElementException> ELEMENT = NoSuchElementException.class;
    private static final Class<NullPointerException> NOTHING = NullPointerException.class;
    private static final Class<ClassCastException> OTHER = ClassCastException.class;
    private static final Class<IndexOutOfBoundsException> PLACE = IndexOutOfBoundsException.class;
    private static final Class<NegativeArraySizeException> SHORT = NegativeArraySizeException.class;

    /** At hour 0: ready 3, 0, 9, 5; readiness 9, 0, 67, 15; pace 10, 10, 4, 9. */
    private static final String FOUR = "person 3 1;person 0 4;person 9 0;person 5 5;task 20;task 7;task 1;pack 2;";

    private static final Due due = new Due();

    private PromisesTest() {
    }

    public static void main(String[] args) {
        texts();
        whatIsNow();
        whoIsCaught();
        tasksAndHours();
        looks();
        numbers();
        lists();
        decades();
        bags();
        imagesAndCounts();
        fullHouse();
        due.close("PromisesTest");
    }

    private static void texts() {
        promise1();
        promise2();
        promise3();
        promise3Faults();
        promise4();
        promise4Faults();
        promise4Values();
        promise5Steps();
        promise5Hours();
        promise5Again();
        promise5Faults();
        promise5Full();
        promise6();
        promise7();
        promise8();
    }

    private static void promise1() {
        UnreadyLead x = new UnreadyLead();
        due.same("NONE", UnreadyLead.NONE, -1);
        for (int what = 0; what < 12; what++) {
            due.same("new told(" + what + ")", x.told(what), 0);
        }
        for (int what = 0; what < 4; what++) {
            due.same("new count(" + what + ")", x.count(what), 0);
        }
        for (int what = 0; what < 6; what++) {
            due.same("new status(" + what + ")", x.status(what), 0);
        }
        due.same("new fault()", x.fault(), -1);
        due.same("new caught()", x.caught(), -1);
        due.same("new would", x.would(1, 1, 1, 1, 0, 0, 0, 0), 72);
        due.refuses("new person(0, 0)", ELEMENT, () -> x.person(0, 0));
        due.same("new work", Due.work(x, "again 3 [hour;];"), 3);
        due.same("new decade", x.decade(1, 96, 8, 1), 0);
    }

    private static void promise2() {
        UnreadyLead x = new UnreadyLead();
        for (int i = 1; i <= 30; i++) {
            due.same("feed " + i, x.feed(0x20202020, 0x20202020, 0x20202020, 0x20202020, 0x20202020), 20 * i);
        }
        due.same("feed 31", x.feed(0, 0, 0, 0, 0), -1);
        due.same("bytes behind feed 31", x.count(1), 600);
        due.same("600 blanks", x.federation(600), 0);
        due.same("fault behind 600 blanks", x.fault(), -1);
        due.same("feed again", x.feed(0x7461736b, 0x20373b20, 0x7461736b, 0x383b8080, 0), 20);
        due.same("highest byte first", x.federation(14), 0);
        due.same("needs 0", x.task(0, 0), 7);
        due.same("needs 1", x.task(1, 0), 8);
        x.feed(0x7461736b, 0x20373b20, 0x7461736b, 0x383b8080, 0);
        due.same("a byte above 127", x.federation(15), -9);
        due.same("its place", x.fault(), 14);
    }

    private static void promise3() {
        UnreadyLead x = new UnreadyLead();
        Due.put(x, FOUR);
        due.refuses("federation below 0", ARGUMENT, () -> x.federation(-1));
        due.refuses("federation beyond the tape", ARGUMENT, () -> x.federation(81));
        due.same("the tape stays", x.count(1), 80);
        due.same("federation", x.federation(FOUR.length()), 4);
        due.same("the tape is empty", x.count(1), 0);
        due.same("packed at first", x.told(7), 4);
        Due.law(x, "77");
        Due.book(x, "0 7;");
        Due.work(x, "come 0;hour;boot 0;boot 0;boot 0;feint 1;sit 3;");
        x.image();
        x.bag(3, 0, 1);
        due.same("a fault", Due.federation(x, "person 1 1;task 0;"), -8);
        due.same("the tape is empty behind a fault", x.count(1), 0);
        due.same("all stays", x.told(0) * 1000 + x.told(3) * 100 + x.told(10) * 10 + x.count(2), 4121);
        due.same("the law stays", x.person(3, 6), 77);
        due.same("the rest stays", x.count(0) * 100 + x.count(3) * 10 + x.told(9), 111);
        due.same("another federation", Due.federation(x, " task  5 ; person 007 2 ;person 1 1;pack1;pack 01; "), 2);
        due.same("its first", x.person(0, 0) * 10 + x.person(0, 1), 72);
        for (int what = 2; what < 12; what++) {
            due.same("told(" + what + ") of another federation", x.told(what), what == 7 ? 2 : 0);
        }
        due.same("no law", x.person(0, 6), 21);
        due.same("no images, works, bags", x.count(0) + x.count(2) + x.count(3), 0);
        due.same("nothing led", x.person(0, 5) + x.person(0, 3) + x.task(0, 1), 0);
        due.same("nothing to undo", x.undo(), -1);
        due.same("nothing to restore", x.restore(), -1);
        due.same("only the first bytes", x.federation(0), 0);
        promise3Anew();
    }

    private static void promise3Anew() {
        UnreadyLead x = Due.of("person 0 0;person 0 0;task 5;");
        Due.work(x, "come 0;again 30 [hour;];feint 0;boot 0;come 0;");
        Due.book(x, "0 50;1 50;");
        x.bag(0, 0, 0);
        x.bag(7, 0, 0);
        due.same("a day later", x.told(2) * 10 + x.person(0, 5), 11);
        due.same("no hour fits", x.fits(), 0);
        Due.federation(x, "person 0 0;person 0 0;task 5;");
        due.same("day 0", x.told(2) * 100 + x.told(3), 0);
        due.same("nobody has led, has boots on, feigns", x.person(0, 5) + x.person(0, 3) + x.told(8), 0);
        due.same("no line", x.fits(), 0xffffff);
        due.same("nobody is in a line", x.look(0), 0);
        due.same("no bag", x.kind(0) + x.kind(7), -2);
        due.same("no task is begun", x.fresh(), 1);
    }

    private static void fault(int answer, int place, int want, int wantPlace, String text) {
        due.same("\"" + text + "\"", answer, want);
        due.same("place of the fault of \"" + text + "\"", place, wantPlace);
    }

    private static void federationFault(String text, int want, int place) {
        UnreadyLead x = new UnreadyLead();
        fault(Due.federation(x, text), x.fault(), want, place, text);
    }

    private static void promise3Faults() {
        federationFault("  foo 1;", -9, 2);
        federationFault("persons 1 1;", -9, 0);
        federationFault("Person 1 1;", -9, 0);
        federationFault(";", -9, 0);
        federationFault("5;", -9, 0);
        federationFault("person", -9, 6);
        federationFault("person  ", -9, 8);
        federationFault("person 1;", -9, 8);
        federationFault("person 11;", -8, 7);
        federationFault("person 10 1;", -8, 7);
        federationFault("xerson 1 1;", -9, 0);
        federationFault("taskz 1;", -9, 0);
        federationFault("person 1 10;", -8, 9);
        federationFault("person a 1;", -9, 7);
        federationFault("person 1 1", -9, 10);
        federationFault("person 1 1 1;", -9, 11);
        federationFault("person 1 1,", -9, 10);
        federationFault("task 0;", -8, 5);
        federationFault("task 201;", -8, 5);
        federationFault("task 4294967297;", -8, 5);
        federationFault("task 18446744073709551617;", -8, 5);
        federationFault("task\t1;", -9, 4);
        federationFault("task 1;\0", -9, 7);
        federationFault("pack 0;person 1 1;", -8, 5);
        federationFault("person 1 1;pack 1;", -8, 16);
        federationFault("person 1 1;".repeat(8) + " person x", -7, 89);
        federationFault("task 1;".repeat(6) + "task", -7, 42);
        federationFault("task 1;".repeat(6) + "tasks", -9, 42);
        String sixty = "person 1 1;" + "pack 0;".repeat(59);
        federationFault(sixty + " ", 1, -1);
        federationFault(sixty + "pack 0;", -7, 424);
        federationFault(sixty + "pack", -7, 424);
        federationFault(sixty + "packs", -9, 424);
        federationFault(sixty + "1", -9, 424);
        federationFault("", 0, -1);
        federationFault("person00 009;task200;", 1, -1);
    }

    private static void promise4() {
        UnreadyLead x = Due.of("person 3 1;");
        Due.put(x, " ".repeat(149) + "5" + " ");
        due.refuses("law of 151", ARGUMENT, () -> x.law(151));
        due.refuses("law of -1", ARGUMENT, () -> x.law(-1));
        due.same("the tape stays", x.count(1), 160);
        due.same("law of 150", x.law(150), 1);
        due.same("the tape is empty", x.count(1), 0);
        due.same("readiness by it", x.person(0, 6), 5);
        due.same("law of a fault", Due.law(x, "5 5"), -9);
        due.same("readiness by the old one", x.person(0, 6), 5);
        due.refuses("law beyond the tape", ARGUMENT, () -> x.law(1));
        due.same("the fault is of the latest text", x.fault(), 2);
        Due.work(x, "hour;");
        x.image();
        Due.law(x, "7");
        x.undo();
        x.restore();
        due.same("neither undo() nor restore() changes the law", x.person(0, 6), 7);
    }

    private static void lawFault(String text, int want, int place) {
        UnreadyLead x = new UnreadyLead();
        fault(Due.law(x, text), x.fault(), want, place, text);
    }

    private static void promise4Faults() {
        lawFault("", -9, 0);
        lawFault("  ", -9, 2);
        lawFault("1 +", -9, 3);
        lawFault("1 + ", -9, 4);
        lawFault("+ 1", -9, 0);
        lawFault("-1", -9, 0);
        lawFault("1 * / 2", -9, 4);
        lawFault("1 2", -9, 2);
        lawFault("1 ready", -9, 2);
        lawFault("1)", -9, 1);
        lawFault("(1", -9, 2);
        lawFault("(1]", -9, 2);
        lawFault("1000", -8, 0);
        lawFault("1 + 4294967297", -8, 4);
        lawFault("readyboots", -9, 0);
        lawFault("1 + led1", -9, 7);
        lawFault("least (1, 2)", -9, 6);
        lawFault("least [1]", -9, 8);
        lawFault("least [1, 2", -9, 11);
        lawFault("most [1, 2, 3]", -9, 10);
        lawFault("most", -9, 4);
        lawFault("least", -9, 5);
        lawFault("((((((1))))))", 1, -1);
        lawFault("(((((((1)))))))", -7, 6);
        lawFault("((((((least", -7, 6);
        lawFault("(((((( most[1,2]))))))", -7, 7);
        lawFault("((((((leasts", -9, 6);
        lawFault("least[1,least[1,least[1,least[1,least[1,most[1,2]]]]]]", 1, -1);
        lawFault("least[1,least[1,least[1,least[1,least[1,most[1,(2)]]]]]]", -7, 47);
        lawFault("least[".repeat(6) + "1" + ",2]".repeat(6), 1, -1);
        lawFault("least[".repeat(6) + "(", -7, 36);
        lawFault("(1)+(1)+(1)+(1)+(1)+(1)+(1)+least[1,1]", 1, -1);
        lawFault("((((((1)))))) + (1)", 1, -1);
        lawFault("0999 *1%  2 / ( person )", 1, -1);
        lawFault("1,2", -9, 1);
        lawFault("1;", -9, 1);
    }

    private static void lawValue(String law, int want) {
        UnreadyLead x = new UnreadyLead();
        due.same("law \"" + law + "\"", Due.law(x, law), 1);
        due.same("value of \"" + law + "\"", x.would(9, 2, 1, 0, 23, 400, 999, 7), want);
    }

    private static void promise4Values() {
        lawValue("ready", 9);
        lawValue("boots", 2);
        lawValue("packed", 1);
        lawValue("feint", 0);
        lawValue("hour", 23);
        lawValue("day / 10", 40);
        lawValue("led % 100", 99);
        lawValue("led - 960", 39);
        lawValue("person", 7);
        lawValue("2 + 3 * 4", 14);
        lawValue("(2 + 3) * 4", 20);
        lawValue("50 - 20 - 5", 25);
        lawValue("80 / 4 / 2", 10);
        lawValue("80 / 4 * 2", 40);
        lawValue("47 % 10 * 3", 21);
        lawValue("0 - 1", 0);
        lawValue("100", 99);
        lawValue("99", 99);
        lawValue("50 + (0 - 7) / 2", 47);
        lawValue("50 + (0 - 7) % 4", 47);
        lawValue("50 + 7 % (0 - 4)", 53);
        lawValue("50 + 7 / 0", 50);
        lawValue("50 + 7 % 0", 50);
        lawValue("least[30, 20] + most[3, 4]", 24);
        lawValue("least[0 - 30, 20] + 50", 20);
        lawValue("most[0 - 30, 20]", 20);
        lawValue("least[20, 30]", 20);
        lawValue("most[20, 10]", 20);
        // 65536 times 65536 wraps to 0, 65536 times 32768 below 0
        lawValue("256 * 256 * 256 * 256 + 5", 5);
        lawValue("256 * 256 * 256 * 128", 0);
        lawValue("256 * 256 * 256 * 128 - 1", 99);
        // the least number by minus one wraps to itself, and leaves nothing
        lawValue("256 * 256 * 256 * 128 / (0 - 1) - 1", 99);
        lawValue("256 * 256 * 256 * 128 % (0 - 1) + 4", 4);
    }

    private static void promise5Steps() {
        UnreadyLead x = Due.of(FOUR);
        due.same("boots", Due.work(x, "boot 0;boot 0;boot 0;bare 1;"), 2);
        due.same("refused", x.told(10), 2);
        due.same("two boots", x.person(0, 3), 2);
        due.same("bare", Due.work(x, "bare 0;bare 0;"), 1);
        due.same("refused again", x.told(10), 1);
        due.same("no boots", x.person(0, 3), 0);
        due.same("pack and feint", Due.work(x, "pack 0;pack 2;feint 1;feint 1;feint 3;"), 5);
        due.same("packed", x.told(7), 1);
        due.same("feigning", x.told(8), 8);
        due.same("none refused", x.told(10), 0);
        // readiness 49, 0, 27, 24
        due.same("comings", Due.work(x, "come 2;come 2;come 1;come 0;come 0;"), 3);
        due.same("refused, for it is led", x.told(10), 2);
        due.same("who was caught", x.task(2, 2) * 100 + x.task(1, 2) * 10 + x.task(0, 2), 132);
        due.same("sit", Due.work(x, "sit 3;sit 3;sit 0;"), 1);
        due.same("led then", x.told(5), 5);
        due.same("refused to sit", x.told(10), 2);
        UnreadyLead y = Due.of("person 0 0;task 5;task 5;");
        due.same("all lead", Due.work(y, "come 0;come 1;"), 1);
        due.same("task 0 is led", y.told(5) * 10 + y.told(4), 11);
        due.same("refused, for all lead", y.told(10), 1);
        UnreadyLead z = Due.of("task 5;");
        due.same("nobody is there", Due.work(z, "come 0;hour;"), 1);
        due.same("and nothing is done", z.task(0, 1), 0);
    }

    private static void promise5Hours() {
        UnreadyLead x = Due.of(FOUR);
        due.same("hours", Due.work(x, "come 0;hour;"), 2);
        due.same("done of it", x.task(0, 1), 10);
        // person 1 is of readiness 12 at hour 1: pace 9, then 24 at hour 2: pace 8
        due.same("another hour", Due.work(x, "hour;"), 1);
        due.same("done of it by then", x.task(0, 1), 19);
        due.same("sat down, it stays done", Due.work(x, "sit 1;hour;"), 2);
        due.same("still so", x.task(0, 1), 19);
        due.same("on", Due.work(x, "come 0;hour;come 0;"), 2);
        due.same("no more than it needs", x.task(0, 1), 20);
        due.same("it is done", x.told(6), 1);
        due.same("a done task is refused", x.told(10), 1);
        due.same("nobody leads", x.told(4) + x.told(5), 0);
        due.same("led to its end", x.person(0, 5) + 10 * x.person(1, 5) + 100 * x.person(2, 5) + 1000 * x.person(3, 5), 1000);
        due.same("caught by now", x.told(11), 2);
        due.same("to the last hour", Due.work(x, "again 19 [hour;];"), 19);
        due.same("day and hour", x.told(2) * 100 + x.told(3), 23);
        due.same("behind 23", Due.work(x, "hour;"), 1);
        due.same("the next day", x.told(2) * 100 + x.told(3), 100);
        // the law knows what was led: the pace is that of ahead of the hour
        UnreadyLead y = Due.of("person 0 0;task 10;task 30;");
        Due.law(y, "led * 90 + hour * 10");
        due.same("two tasks", Due.work(y, "come 0;hour;come 1;hour;hour;"), 5);
        due.same("pace behind the first", y.task(1, 1), 2);
    }

    private static void promise5Again() {
        UnreadyLead x = Due.of(FOUR);
        due.same("agains are not counted", Due.work(x, "again 2 [pack 0;again 3 [feint 0;];];hour;"), 9);
        due.same("none of it was refused", x.told(10), 0);
        due.same("packed twice", x.told(7), 4);
        due.same("again 0", Due.work(x, "again 0 [hour;again 9 [hour;];];boot 0;"), 1);
        due.same("again of nothing", Due.work(x, "again 60 [];again 1[ ] ;"), 0);
        due.same("six open", Due.work(x, "again 2[again 2[again 2[again 2[again 2[again 2[pack 0;];];];];];];"), 64);
        UnreadyLead y = Due.of(FOUR);
        due.same("195 steps behind five agains", Due.work(y, "again 4 [again 60 [pack 0;];];hour;"), 195);
        due.same("the hour was left out", y.told(3), 0);
        UnreadyLead z = Due.of(FOUR);
        due.same("200 steps, refused ones too", Due.work(z, "again 60 [bare 0;bare 1;again 0 [];bare 2;];boot 0;"), 0);
        due.same("refused of these", z.told(10), 149);
        UnreadyLead w = Due.of(FOUR);
        due.same("just 200", Due.work(w, "again 60[hour;hour;hour;];again 16[hour;];hour;hour;"), 198);
        UnreadyLead v = Due.of(FOUR);
        due.same("many empty agains", Due.work(v, "again 60[again 60[again 60[];];];"), 0);
    }

    private static void workFault(String text, int want, int place) {
        UnreadyLead x = Due.of("person 1 1;person 2 2;task 9;");
        fault(Due.work(x, text), x.fault(), want, place, text);
        due.same("works behind \"" + text + "\"", x.count(2), want < 0 ? 0 : 1);
        if (want < 0) {
            due.same("nothing is done by \"" + text + "\"", x.told(3), 0);
        }
    }

    private static void promise5Faults() {
        workFault("hour;boot 2;", -8, 10);
        workFault("hour;bare 2;", -8, 10);
        workFault("hour;pack 2;", -8, 10);
        workFault("hour;feint 2;", -8, 11);
        workFault("hour;sit 2;", -8, 9);
        workFault("hour;come 1;", -8, 10);
        workFault("hour;again 61 [];", -8, 11);
        workFault("hour", -9, 4);
        workFault("hour 1;", -9, 5);
        workFault("hours;", -9, 0);
        workFault("hour;;", -9, 5);
        workFault("boot;", -9, 4);
        workFault("hour;]", -9, 5);
        workFault("again [];", -9, 6);
        workFault("again 2 hour;", -9, 8);
        workFault("again 2 [hour]", -9, 13);
        workFault("again 2 [hour;]", -9, 15);
        workFault("again 2 [hour;", -9, 14);
        workFault("again 2 [hour; ", -9, 15);
        workFault("hour;again 2 [hour;];]", -9, 21);
        workFault("again 1[".repeat(6) + "hour;" + "];".repeat(6), 1, -1);
        workFault("again 1[".repeat(6) + " again", -7, 49);
        workFault("again 1[".repeat(6) + "agains", -9, 48);
        workFault("again 1[" + "again 1[];".repeat(8) + "];", 0, -1);
        workFault(" hour ; boot1 ;again2[ hour;] ; ", 4, -1);
        UnreadyLead x = Due.of("");
        due.same("no person is told", Due.work(x, "boot 0;"), -8);
        due.same("no task is told", Due.work(x, "come 0;"), -8);
        due.same("open ones at a fault", Due.work(x, "again 2 [again 2 [foo"), -9);
        due.same("are not open any more", Due.work(x, "again 2 [hour;];"), 2);
    }

    private static void promise5Full() {
        UnreadyLead x = Due.of(FOUR);
        due.refuses("work beyond the tape", ARGUMENT, () -> x.work(1));
        Due.put(x, "hour;" + " ".repeat(150));
        due.refuses("work of 151", ARGUMENT, () -> x.work(151));
        due.same("work of 150", x.work(150), 1);
        for (int i = 1; i < 16; i++) {
            due.same("work " + i, Due.work(x, i % 2 == 0 ? "hour;" : "sit 0;"), 1 - i % 2);
        }
        due.same("a fault ahead of it", Due.law(x, "1 1"), -9);
        due.same("its place", x.fault(), 2);
        due.same("refused by the latest", x.told(10), 1);
        due.same("work 17", Due.work(x, "foo"), -20);
        due.same("no fault", x.fault(), -1);
        due.same("refused by the latest still", x.told(10), 1);
        due.same("the tape is empty", x.count(1), 0);
        due.refuses("work 17 beyond the tape", ARGUMENT, () -> x.work(1));
        due.same("works", x.count(2), 16);
        due.same("undone", x.undo(), 15);
        due.same("work once more", Due.work(x, "hour;"), 1);
        due.same("hour", x.told(3), 9);
    }

    private static void promise6() {
        UnreadyLead x = Due.of(FOUR);
        due.refuses("book beyond the tape", ARGUMENT, () -> x.book(1));
        Due.put(x, "1 12;" + " ".repeat(60));
        due.refuses("book of 61", ARGUMENT, () -> x.book(61));
        due.same("book of 60", x.book(60), 1);
        due.same("lines", Due.book(x, " 3 15 ;0 9;2 67;"), 3);
        due.same("told lines", x.told(9), 3);
        String[] texts = {"4 0;", "0 100;", "0 1;0 1;", "0 1", "0;", "a", ";", "0 1;2 x", "0 1;1", "0 1 2;", "00000000000004294967296 1;"};
        int[] answers = {-8, -8, -8, -9, -9, -9, -9, -9, -9, -9, -8};
        int[] places = {0, 2, 4, 3, 1, 0, 0, 6, 5, 4, 0};
        for (int i = 0; i < texts.length; i++) {
            fault(Due.book(x, texts[i]), x.fault(), answers[i], places[i], texts[i]);
        }
        due.same("the book stays", x.told(9), 3);
        due.same("and its lines", x.fits(), 1 | 1 << 10 | 1 << 20);
        due.same("an empty book", x.book(0), 0);
        due.same("no lines", x.told(9), 0);
        UnreadyLead y = Due.of("");
        due.same("nobody is told", Due.book(y, "0 0;"), -8);
    }

    private static void promise7() {
        UnreadyLead x = Due.of(FOUR);
        due.same("no fault", x.fault(), -1);
        Due.law(x, "1 + ?");
        due.same("a fault", x.fault(), 4);
        due.same("asked again", x.fault(), 4);
        due.refuses("a refused call is no text", ARGUMENT, () -> x.book(5));
        due.same("still there", x.fault(), 4);
        x.undo();
        due.same("still there behind undo()", x.fault(), 4);
        Due.work(x, "hour;");
        due.same("a text without", x.fault(), -1);
    }

    private static void promise8() {
        UnreadyLead x = Due.of(FOUR);
        due.same("nothing to undo", x.undo(), -1);
        Due.work(x, "come 0;come 1;boot 2;feint 3;pack 2;hour;");
        int[] first = all(x);
        Due.work(x, "");
        due.same("of no steps, too", x.count(2), 2);
        Due.work(x, "sit 1;bare 2;feint 3;pack 2;boot 0;again 30 [hour;];come 1;come 2;hour;come 0;bare 3;");
        due.same("refused", x.told(10), 2);
        due.same("undone", x.undo(), 2);
        due.same("none refused", x.told(10), 0);
        due.same("of no steps", x.undo(), 1);
        int[] then = all(x);
        for (int i = 0; i < first.length; i++) {
            due.same("undone " + i, then[i], first[i]);
        }
        due.same("the first", x.undo(), 0);
        due.same("as at first", x.told(4) + x.told(3) + x.told(11) + x.told(8) + x.person(2, 3) + x.task(0, 1), 0);
        due.same("packed at first", x.told(7), 4);
        due.same("no more", x.undo(), -1);
        Due.work(x, "again 47 [hour;];");
        Due.work(x, "hour;");
        due.same("day 2", x.told(2), 2);
        x.undo();
        due.same("day 1 again", x.told(2) * 100 + x.told(3), 123);
    }

    /** All that work changes. */
    private static int[] all(UnreadyLead x) {
        int[] row = new int[8 + 3 * x.told(0) + 2 * x.told(1)];
        int k = 0;
        for (int what : new int[] {2, 3, 4, 5, 6, 7, 8, 11}) {
            row[k++] = x.told(what);
        }
        for (int p = 0; p < x.told(0); p++) {
            for (int what = 3; what < 6; what++) {
                row[k++] = x.person(p, what);
            }
        }
        for (int t = 0; t < x.told(1); t++) {
            row[k++] = x.task(t, 1);
            row[k++] = x.task(t, 2);
        }
        return row;
    }

    private static void whatIsNow() {
        promise9();
        promise10();
        promise11();
        promise12();
        promise13();
    }

    private static UnreadyLead afterSome() {
        UnreadyLead x = Due.of(FOUR);
        // person 1 leads task 0, person 0 task 1, which is done by the hour; then it is hour 1
        Due.work(x, "come 0;come 1;hour;feint 3;boot 2;boot 2;boot 2;");
        return x;
    }

    private static void promise9() {
        UnreadyLead x = afterSome();
        Due.book(x, "0 1;");
        Due.work(x, "again 25 [pack 1;];again 24[hour;];come 2;bare 0;");
        // person 1 is free again; at hour 1 of day 1 readiness is 12, 52, 107 (99), 9: person 3 is caught
        int[] want = {4, 3, 1, 1, 8, 4, 3, 6, 8, 1, 1, 3};
        for (int what = 0; what < 12; what++) {
            due.same("told(" + what + ")", x.told(what), want[what]);
        }
        due.refuses("told(-1)", ARGUMENT, () -> x.told(-1));
        due.refuses("told(12)", ARGUMENT, () -> x.told(12));
        due.same("status", x.status(1), 2);
    }

    private static void promise10() {
        UnreadyLead x = afterSome();
        int[][] want = {{3, 1, 4, 0, -1, 1, 12, 9}, {0, 4, 4, 0, 0, 0, 12, 9}, {9, 0, 9, 2, -1, 0, 99, 1}, {5, 5, 0, 0, -1, 0, 9, 10}};
        for (int p = 0; p < 4; p++) {
            for (int what = 0; what < 8; what++) {
                due.same("person(" + p + ", " + what + ")", x.person(p, what), want[p][what]);
            }
        }
        due.refuses("person(4, 9)", ELEMENT, () -> x.person(4, 9));
        due.refuses("person(-1, 0)", ELEMENT, () -> x.person(-1, 0));
        due.refuses("person(0, 8)", ARGUMENT, () -> x.person(0, 8));
        due.refuses("person(0, -1)", ARGUMENT, () -> x.person(0, -1));
        due.same("refused", x.status(0) * 10 + x.status(1), 22);
    }

    private static void promise11() {
        UnreadyLead x = afterSome();
        int[][] want = {{20, 10, 1}, {7, 7, -1}, {1, 0, -1}};
        for (int t = 0; t < 3; t++) {
            for (int what = 0; what < 3; what++) {
                due.same("task(" + t + ", " + what + ")", x.task(t, what), want[t][what]);
            }
        }
        due.refuses("task(3, 5)", ELEMENT, () -> x.task(3, 5));
        due.refuses("task(-1, 0)", ELEMENT, () -> x.task(-1, 0));
        due.refuses("task(0, 3)", ARGUMENT, () -> x.task(0, 3));
        due.refuses("task(0, -1)", ARGUMENT, () -> x.task(0, -1));
        due.same("refused", x.status(0) * 10 + x.status(1), 22);
    }

    private static void promise12() {
        UnreadyLead x = Due.of(FOUR);
        due.same("readiness(1, 23)", x.readiness(1, 23), 6);
        due.same("readiness(2, 0)", x.readiness(2, 0), 67);
        Due.work(x, "again 30 [hour;];");
        Due.law(x, "hour + day * 50 + ready");
        due.same("of this day", x.readiness(0, 4), 61);
        due.same("the hour stays", x.told(3), 6);
        due.refuses("readiness(4, 24)", ELEMENT, () -> x.readiness(4, 24));
        due.refuses("readiness(0, 24)", ARGUMENT, () -> x.readiness(0, 24));
        due.refuses("readiness(0, -1)", ARGUMENT, () -> x.readiness(0, -1));
    }

    private static void promise13() {
        UnreadyLead x = new UnreadyLead();
        due.same("without a law", x.would(3, 2, 0, 1, 5, 6, 7, 7), 58);
        Due.law(x, "ready + boots * 10 + packed * 20 + feint * 30 - hour - day / 100 + led / 500 - person");
        due.same("by a law", x.would(9, 2, 1, 1, 3, 400, 999, 7), 66);
        int[] most = {9, 2, 1, 1, 23, 400, 999, 7};
        due.same("the most of each", x.would(9, 2, 1, 1, 23, 400, 999, 7), 46);
        due.same("the least of each", x.would(0, 0, 0, 0, 0, 0, 0, 0), 0);
        for (int i = 0; i < 8; i++) {
            int[] a = most.clone();
            a[i]++;
            int[] b = most.clone();
            b[i] = -1;
            due.refuses("too much of " + i, ARGUMENT, () -> x.would(a[0], a[1], a[2], a[3], a[4], a[5], a[6], a[7]));
            due.refuses("too little of " + i, ARGUMENT, () -> x.would(b[0], b[1], b[2], b[3], b[4], b[5], b[6], b[7]));
        }
        due.same("refused", x.status(1), 16);
    }

    private static void whoIsCaught() {
        promise14And15();
        promise16();
        promise17();
        promise18();
    }

    private static void promise14And15() {
        UnreadyLead x = Due.of("person 5 0;person 2 0;person 5 0;person 2 0;task 9;task 9;task 9;task 9;task 9;");
        due.same("of alike ones the first", x.caught(), 1);
        int[] order = {1, 3, 0, 2, -1};
        for (int k = 0; k < 5; k++) {
            due.same("next(" + k + ")", x.next(k), order[k]);
        }
        Due.work(x, "come 0;");
        due.same("the one behind", x.caught(), 3);
        due.same("next(1) then", x.next(1), 0);
        due.same("next(3) then", x.next(3), -1);
        due.same("next of the most", x.next(Integer.MAX_VALUE), -1);
        Due.work(x, "come 1;come 2;come 3;");
        due.same("all lead", x.caught(), -1);
        due.same("none is next", x.next(0), -1);
        due.refuses("next(-1)", ARGUMENT, () -> x.next(-1));
    }

    private static void promise16() {
        // ready 0 1 2 .. against always 5; alike at 5, 15: the first
        UnreadyLead x = Due.of("person 0 1;person 5 0;task 90;");
        due.same("hours(0)", x.hours(0), 0b1111_0000_1111_1100_0011_1111);
        due.same("hours(1)", x.hours(1), 0b0000_1111_0000_0011_1100_0000);
        Due.work(x, "come 0;hour;");
        due.same("it leads", x.hours(0), 0);
        due.same("the other one alone", x.hours(1), 0xffffff);
        Due.law(x, "most[day * 9, 3]");
        Due.work(x, "sit 0;");
        due.same("the day as now", x.hours(0), 0xffffff);
        due.refuses("hours(2)", ELEMENT, () -> x.hours(2));
        due.refuses("hours(-1)", ELEMENT, () -> x.hours(-1));
    }

    private static void promise17() {
        UnreadyLead x = Due.of("person 0 1;person 5 0;task 9;");
        due.same("now", x.waits(0), 0);
        due.same("behind 6 hours", x.waits(1), 6);
        due.same("the hour stays", x.told(3), 0);
        Due.work(x, "come 0;");
        // person 0 has done the task by one hour, and is free then
        due.same("behind its task", x.waits(0), 1);
        due.same("meanwhile", x.waits(1), 0);
        due.same("who never is", Due.of("person 0 0;person 1 0;").waits(1), -1);
        UnreadyLead y = Due.of("person 0 0;person 0 0;");
        Due.law(y, "(day * 24 + hour) / 99 * 50 * (1 - person) + 10 * person");
        due.same("behind 99 hours", y.waits(1), 99);
        Due.law(y, "(day * 24 + hour) / 100 * 50 * (1 - person) + 10 * person");
        due.same("not behind 100", y.waits(1), -1);
        due.refuses("waits(2)", ELEMENT, () -> y.waits(2));
        // packed and feigning as now: readiness 49 against 0, 3, .. 27; then 9, alike behind 3 hours
        UnreadyLead z = Due.of("person 0 0;person 0 1;pack 0;");
        Due.work(z, "feint 0;");
        due.same("packed", z.waits(0), -1);
        Due.work(z, "pack 0;");
        due.same("feigning", z.waits(0), 3);
        // who has led once is held to be ready
        UnreadyLead w = Due.of("person 0 0;person 5 0;task 5;");
        Due.law(w, "ready + led * 9");
        Due.work(w, "come 0;hour;");
        due.same("who has led", w.waits(0) * 10 + w.waits(1), -10);
    }

    private static void promise18() {
        UnreadyLead x = Due.of("person 9 0;person 9 0;task 200;task 200;task 8;");
        Due.law(x, "99");
        due.same("nobody leads it", x.ends(0), -1);
        Due.work(x, "come 0;come 2;");
        due.same("by pace 1", x.ends(0), 200);
        due.same("the other one", x.ends(2), 8);
        due.same("not led", x.ends(1), -1);
        Due.law(x, "hour * 4");
        // paces 10 10 10 9 9 8 ..: 8 at once
        due.same("at once", x.ends(2), 1);
        Due.work(x, "hour;sit 0;");
        due.same("done", x.ends(2), 0);
        due.same("sat down from", x.ends(0), -1);
        due.refuses("ends(3)", ELEMENT, () -> x.ends(3));
        due.refuses("ends(-1)", ELEMENT, () -> x.ends(-1));
    }

    private static void tasksAndHours() {
        promise19And20();
        promise19Ties();
        promise21();
    }

    private static void promise19And20() {
        // paces 10, 4, 1
        UnreadyLead x = Due.of("person 0 0;person 9 0;person 9 0;task 20;task 9;task 200;task 5;");
        Due.law(x, "person * 60 - person / 2 * 21");
        due.same("paces", x.person(0, 7) * 100 + x.person(1, 7) * 10 + x.person(2, 7), 1041);
        // 2 + 3 + 200, 2 + 50 + 9 (the least with 20: 5 + 20 + 9), 5 + 1 + 200, 20 + 1 + 50 ..
        due.same("plan(7)", x.plan(7), 34);
        due.same("gives 0", x.gives(0, 7), 1);
        due.same("gives 1", x.gives(1, 7), 2);
        due.same("gives 2", x.gives(2, 7), 0);
        due.same("not of them", x.gives(3, 7), -1);
        due.same("plan(15)", x.plan(15), -1);
        due.same("not so many persons", x.gives(0, 15), -1);
        due.same("plan(0)", x.plan(0), 0);
        due.same("a part of an hour is a whole one", x.plan(2), 1);
        Due.work(x, "come 0;hour;");
        due.same("who leads has no other", x.gives(1, 3), 1);
        due.same("a led one is left out", x.plan(3), 3);
        due.same("and nobody is given it", x.gives(0, 3), -1);
        Due.work(x, "hour;");
        due.same("a done one is left out", x.plan(15) , 20 + 5 + 3);
        due.same("nobody is given it either", x.gives(0, 15), -1);
        due.refuses("plan(16)", ARGUMENT, () -> x.plan(16));
        due.refuses("plan(-1)", ARGUMENT, () -> x.plan(-1));
        due.refuses("gives(4, 16)", ELEMENT, () -> x.gives(4, 16));
        due.refuses("gives(-1, 1)", ELEMENT, () -> x.gives(-1, 1));
        due.refuses("gives(0, 16)", ARGUMENT, () -> x.gives(0, 16));
        due.refuses("gives(0, -1)", ARGUMENT, () -> x.gives(0, Integer.MIN_VALUE));
    }

    private static void promise19Ties() {
        UnreadyLead x = Due.of("person 0 0;".repeat(8) + "task 12;".repeat(6));
        due.same("eight alike", x.plan(63), 12);
        for (int t = 0; t < 6; t++) {
            due.same("by numbers of tasks the least person, " + t, x.gives(t, 63), t);
        }
        due.same("of fewer tasks", x.gives(5, 0b101000), 1);
        Due.work(x, "come 1;");
        due.same("but who leads", x.gives(0, 1), 1);
        // 5 by pace 10, 9, 5 is one hour by each: the first; 11 is two, two, three
        UnreadyLead y = Due.of("person 0 0;person 1 0;person 2 0;task 5;task 11;");
        Due.law(y, "ready * 10 + ready / 2 * 30");
        due.same("paces", y.person(0, 7) * 100 + y.person(1, 7) * 10 + y.person(2, 7), 1095);
        due.same("alike ways", y.plan(3), 3);
        due.same("the first of them", y.gives(0, 3) * 10 + y.gives(1, 3), 1);
        // nobody else may stand in for who leads
        UnreadyLead z = Due.of("task 5;");
        due.same("nobody is there", z.plan(1), -1);
        due.same("gives nobody", z.gives(0, 1), -1);
        // who leads is not given another one, however slow the others are
        UnreadyLead v = Due.of("person 0 0;person 0 0;task 9;task 9;");
        Due.law(v, "99");
        Due.work(v, "come 0;");
        due.same("whom", v.gives(1, 3), 1);
        // half done: what is left counts
        UnreadyLead w = Due.of("person 0 0;task 100;");
        Due.work(w, "come 0;hour;hour;hour;sit 0;");
        due.same("what is left", w.plan(1), 7);
    }

    private static void promise21() {
        UnreadyLead x = Due.of("person 0 0;person 0 0;task 25;task 200;task 3;");
        Due.work(x, "come 0;come 1;");
        due.same("ahead(0, 1)", x.ahead(0, 1), 0);
        due.same("ahead(0, 2)", x.ahead(0, 2), 3);
        due.same("ahead(2, 1)", x.ahead(2, 1), 40);
        due.same("ahead(2, 0)", x.ahead(2, 0), 0);
        due.same("ahead(3, 0)", x.ahead(3, 0), 1);
        due.same("ahead(3, 1)", x.ahead(3, 1), 55);
        due.same("ahead(3, 2)", x.ahead(3, 2), 2);
        due.same("ahead(500, 0)", x.ahead(500, 0), 3);
        due.same("ahead(500, 1)", x.ahead(500, 1), 225);
        due.same("ahead(500, 2)", x.ahead(500, 2), 0);
        due.same("nothing stays changed", x.told(2) + x.told(3) + x.task(0, 1) + x.person(0, 5), 0);
        due.refuses("ahead(501, 0)", ARGUMENT, () -> x.ahead(501, 0));
        due.refuses("ahead(-1, 0)", ARGUMENT, () -> x.ahead(-1, 0));
        due.refuses("ahead(0, 3)", ARGUMENT, () -> x.ahead(0, 3));
        due.refuses("ahead(0, -1)", ARGUMENT, () -> x.ahead(0, -1));
    }

    private static void looks() {
        // ready at hour h: h, 2h, 5h, 0 of ten
        UnreadyLead x = Due.of("person 0 1;person 0 2;person 0 5;person 0 0;");
        Due.law(x, "ready");
        due.same("no lines", x.fits(), 0xffffff);
        due.same("no lines: who", x.look(0), 0);
        due.same("no lines: left", x.look(1), 3);
        Due.book(x, "2 5;");
        due.same("odd hours", x.fits(), 0xaaaaaa);
        // ready 1 3 5 7 9 by person 0 and 2 6 0 4 8 by person 1: three times each of the first two
        due.same("odd hours: who", x.look(0), 0);
        due.same("odd hours: left", x.look(1), 3);
        Due.book(x, "0 3;");
        due.same("ready 3", x.fits(), 1 << 3 | 1 << 13 | 1 << 23);
        due.same("nobody helps: the first", x.look(0), 1);
        due.same("nobody helps: left", x.look(1), 3);
        Due.book(x, "0 3;1 5;");
        due.same("none is right", x.fits(), 0);
        due.same("none is right: who", x.look(0), 2);
        due.same("none is right: left", x.look(1), 0);
        Due.book(x, "0 0;1 0;2 0;3 0;");
        due.same("all in lines", x.fits(), 1 | 1 << 10 | 1 << 20);
        due.same("all in lines: who", x.look(0), -1);
        due.same("all in lines: left", x.look(1), -1);
        Due.law(x, "hour * day + ready");
        Due.book(x, "3 0;");
        due.same("on day 0", x.fits(), 0xffffff);
        Due.work(x, "again 24 [hour;];");
        due.same("on day 1", x.fits(), 1);
        due.refuses("look(2)", ARGUMENT, () -> x.look(2));
        due.refuses("look(-1)", ARGUMENT, () -> x.look(-1));
        UnreadyLead y = new UnreadyLead();
        due.same("nobody: who", y.look(0), -1);
        due.same("nobody: left", y.look(1), -1);
        due.refuses("nobody: look(2)", ARGUMENT, () -> y.look(2));
        // a later one who tells more
        UnreadyLead z = Due.of("person 1 0;person 0 5;person 0 3;person 0 1;");
        due.same("the first of the best", z.look(0), 2);
        // readiness 99 is one more level
        Due.law(z, "90 + ready");
        due.same("up to 99", z.look(1), 3);
        // readiness 99 at hour 0 and at no other, of two persons
        UnreadyLead w = Due.of("person 0 0;person 0 0;");
        Due.law(w, "99 - hour * (1 + person) / (1 + person)");
        due.same("each hour another one", w.look(1), 1);
        Due.law(w, "99 - hour / 23");
        due.same("23 alike from hour 0 on", w.look(1), 23);
    }

    private static void numbers() {
        promise24();
        promise25();
        promise26();
    }

    private static void promise24() {
        int[][] games = {{5, 3, 2, 1, 5}, {3, 5, 1, 0, 10}, {4, 4, 3, 0, 8}, {0, 0, 4, 0, 0}, {5, 0, 3, 1, 5}, {0, 5, 1, 0, 10}, {99, 99, 3, 0, 198}};
        UnreadyLead x = new UnreadyLead();
        for (int[] g : games) {
            for (int what = 0; what < 3; what++) {
                due.same("waiters(" + g[0] + ", " + g[1] + ", " + what + ")", x.waiters(g[0], g[1], what), g[2 + what]);
            }
        }
        due.refuses("waiters(-1, 0, 0)", ARGUMENT, () -> x.waiters(-1, 0, 0));
        due.refuses("waiters(100, 0, 0)", ARGUMENT, () -> x.waiters(100, 0, 0));
        due.refuses("waiters(0, -1, 0)", ARGUMENT, () -> x.waiters(0, -1, 0));
        due.refuses("waiters(0, 100, 0)", ARGUMENT, () -> x.waiters(0, 100, 0));
        due.refuses("waiters(0, 0, 3)", ARGUMENT, () -> x.waiters(0, 0, 3));
        due.refuses("waiters(0, 0, -1)", ARGUMENT, () -> x.waiters(0, 0, -1));
    }

    private static void fraction(int n, int k, int q, long above, long below) {
        UnreadyLead x = new UnreadyLead();
        due.same("found(" + n + ", " + k + ", " + q + ", 0)", x.found(n, k, q, 0), above);
        due.same("found(" + n + ", " + k + ", " + q + ", 1)", x.found(n, k, q, 1), below);
    }

    private static void promise25() {
        fraction(0, 0, 0, 1, 1);
        fraction(0, 0, 16, 1, 1);
        fraction(0, 1, 8, 0, 1);
        fraction(12, 13, 16, 0, 1);
        fraction(12, 12, 16, 1, 1);
        fraction(12, 1, 0, 0, 1);
        fraction(12, 0, 5, 1, 1);
        fraction(1, 1, 6, 3, 8);
        fraction(2, 1, 8, 3, 4);
        fraction(2, 2, 4, 1, 16);
        fraction(3, 2, 8, 1, 2);
        fraction(4, 2, 4, 67, 256);
        fraction(12, 12, 1, 1, 1L << 48);
        fraction(12, 1, 1, (1L << 48) - 129746337890625L, 1L << 48);
        fraction(12, 6, 8, 1255, 2048);
        UnreadyLead x = new UnreadyLead();
        due.refuses("found(13, ..)", ARGUMENT, () -> x.found(13, 0, 0, 0));
        due.refuses("found(-1, ..)", ARGUMENT, () -> x.found(-1, 0, 0, 0));
        due.refuses("found(0, 14, ..)", ARGUMENT, () -> x.found(0, 14, 0, 0));
        due.refuses("found(0, -1, ..)", ARGUMENT, () -> x.found(0, -1, 0, 0));
        due.refuses("found(0, 0, 17, 0)", ARGUMENT, () -> x.found(0, 0, 17, 0));
        due.refuses("found(0, 0, -1, 0)", ARGUMENT, () -> x.found(0, 0, -1, 0));
        due.refuses("found(0, 0, 0, 2)", ARGUMENT, () -> x.found(0, 0, 0, 2));
        due.refuses("found(0, 0, 0, -1)", ARGUMENT, () -> x.found(0, 0, 0, -1));
        due.same("refused", x.status(1), 8);
    }

    private static void promise26() {
        // readiness 9, 0, 67, 15
        UnreadyLead x = Due.of(FOUR);
        due.same("all of it", x.soup(2, 15, 9999), 67);
        due.same("just all", x.soup(2, 15, 91), 67);
        due.same("one less", x.soup(2, 15, 90), 66);
        due.same("levelled", x.soup(3, 15, 30), 10);
        due.same("levelled for another", x.soup(2, 15, 30), 10);
        due.same("what is left over is not given", x.soup(2, 15, 28), 9);
        due.same("nor to another", x.soup(3, 15, 28), 9);
        due.same("less than the bound", x.soup(0, 15, 60), 9);
        due.same("nothing", x.soup(2, 15, 0), 0);
        due.same("too little for all", x.soup(0, 13, 2), 0);
        due.same("just enough for all", x.soup(0, 13, 3), 1);
        due.same("none of them", x.soup(2, 11, 60), 0);
        due.same("nobody told", x.soup(2, 0, 60), 0);
        due.same("alone", x.soup(2, 4, 50), 50);
        due.refuses("soup(4, 16, -1)", ELEMENT, () -> x.soup(4, 16, -1));
        due.refuses("soup(0, 16, 0)", ARGUMENT, () -> x.soup(0, 16, 0));
        due.refuses("soup(0, -1, 0)", ARGUMENT, () -> x.soup(0, -1, 0));
        due.refuses("soup(0, 1, 10000)", ARGUMENT, () -> x.soup(0, 1, 10000));
        due.refuses("soup(0, 1, -1)", ARGUMENT, () -> x.soup(0, 1, -1));
    }

    private static void lists() {
        promise27And34();
        promise28And33();
        promise29();
        promise30();
        promise31();
        promise32();
    }

    private static void promise27And34() {
        UnreadyLead x = Due.of("person 2 0;person 9 0;person 1 0;person 9 0;person 3 0;task 90;");
        due.same("readiest", x.readiest(0), 1);
        due.same("its readiness", x.readiest(1), 27);
        due.same("quickest", x.quickest(0), 0);
        due.same("its pace", x.quickest(1), 10);
        Due.work(x, "boot 0;boot 2;boot 4;come 0;");
        due.same("leaders, too", x.readiest(0), 4);
        due.same("and theirs", x.readiest(1), 29);
        // readiness 26, 27, 23, 27, 29: pace 8 each
        due.same("of alike ones the first", x.quickest(0), 0);
        due.same("and its pace", x.quickest(1), 8);
        Due.work(x, "boot 0;");
        due.same("another one", x.quickest(0), 1);
        Due.law(x, "0");
        due.same("readiness 0", x.readiest(1), 0);
        due.same("of readiness 0", x.readiest(0), 0);
        UnreadyLead y = Due.of("task 3;");
        due.same("nobody", y.readiest(0) + y.readiest(1) + y.quickest(0) + y.quickest(1), -4);
        due.refuses("readiest(2)", ARGUMENT, () -> y.readiest(2));
        due.refuses("readiest(-1)", ARGUMENT, () -> x.readiest(-1));
        due.refuses("quickest(2)", ARGUMENT, () -> y.quickest(2));
        due.refuses("quickest(-1)", ARGUMENT, () -> x.quickest(-1));
    }

    private static void promise28And33() {
        UnreadyLead x = Due.of("person 0 0;person 0 0;task 5;task 100;task 9;task 9;");
        due.same("all open", x.open(), 15);
        due.same("all fresh", x.fresh(), 15);
        Due.work(x, "come 1;");
        due.same("a led one is not", x.open(), 13);
        due.same("nor fresh", x.fresh(), 13);
        Due.work(x, "come 0;");
        due.same("all lead", x.open(), 0);
        due.same("fresh still", x.fresh(), 12);
        Due.work(x, "hour;");
        due.same("a done one is not", x.open(), 12);
        Due.work(x, "sit 0;");
        due.same("begun ones are open", x.open(), 14);
        due.same("but not fresh", x.fresh(), 12);
        UnreadyLead y = Due.of("task 5;");
        due.same("nobody is there", y.open(), 0);
        due.same("fresh without anybody", y.fresh(), 1);
    }

    private static void promise29() {
        UnreadyLead x = Due.of("person 0 0;person 0 0;task 5;task 100;task 9;");
        Due.work(x, "come 0;come 1;hour;");
        due.same("left(7)", x.left(7), 99);
        due.same("left of the first", Due.of("task 8;task 9;").left(1), 8);
        due.same("left(1)", x.left(1), 0);
        due.same("left(2)", x.left(2), 90);
        due.same("left(5)", x.left(5), 9);
        due.same("left(0)", x.left(0), 0);
        due.refuses("left(8)", ARGUMENT, () -> x.left(8));
        due.refuses("left(-1)", ARGUMENT, () -> x.left(-1));
    }

    private static void promise30() {
        UnreadyLead x = Due.of("person 3 1;person 5 0;person 3 0;person 3 1;task 50;");
        due.same("alike(0)", x.alike(0), 12);
        due.same("alike(1)", x.alike(1), 0);
        Due.work(x, "come 0;hour;");
        due.same("now", x.alike(0), 8);
        due.same("leaders, too", x.alike(3), 1);
        due.refuses("alike(4)", ELEMENT, () -> x.alike(4));
        due.refuses("alike(-1)", ELEMENT, () -> x.alike(-1));
    }

    private static void promise31() {
        UnreadyLead x = Due.of("person 0 0;person 1 0;task 200;task 15;");
        Due.law(x, "95 - ready * 95");
        due.same("free", x.busy(0), 0);
        Due.work(x, "come 1;come 0;");
        due.same("by pace 10", x.busy(1), 2);
        due.same("by pace 1", x.busy(0), 200);
        due.same("the hour stays", x.told(3), 0);
        due.refuses("busy(2)", ELEMENT, () -> x.busy(2));
        due.refuses("busy(-1)", ELEMENT, () -> x.busy(-1));
    }

    private static void promise32() {
        UnreadyLead x = Due.of("person 5 0;person 2 0;person 5 0;person 2 0;task 9;");
        int[] ranks = {2, 0, 3, 1};
        for (int p = 0; p < 4; p++) {
            due.same("rank(" + p + ")", x.rank(p), ranks[p]);
        }
        Due.work(x, "come 0;");
        int[] then = {1, -1, 2, 0};
        for (int p = 0; p < 4; p++) {
            due.same("rank(" + p + ") then", x.rank(p), then[p]);
        }
        due.refuses("rank(4)", ELEMENT, () -> x.rank(4));
        due.refuses("rank(-1)", ELEMENT, () -> x.rank(-1));
    }

    private static void decades() {
        promise35();
        promise35ByHand();
        promise36();
    }

    private static void promise35() {
        UnreadyLead x = Due.of("person 0 0;task 200;");
        // one person, one task: it comes at once, and is done by pace 10 (2 boots: readiness 40, pace 6)
        due.same("barefoot", x.decade(7, 5, 0, 0), 50);
        due.same("one coming", x.decade(7, 5, 0, 1), 1);
        due.same("it leads", x.decade(7, 5, 0, 2), 1);
        due.same("no boots", x.decade(7, 5, 0, 3), 0);
        due.same("boots each hour", x.decade(7, 5, 16, 0), 8 + 6 * 4);
        due.same("two boots", x.decade(7, 5, 16, 3), 2);
        due.same("96 hours", x.decade(-1, 96, 0, 0), 200);
        due.same("it sits then", x.decade(-1, 96, 0, 2), 0);
        due.same("nothing stays changed", x.told(3) + x.told(11) + x.task(0, 1) + x.person(0, 3), 0);
        Due.work(x, "come 0;hour;");
        due.same("done in it", x.decade(7, 5, 0, 0), 50);
        due.same("caught in it", x.decade(7, 5, 0, 1), 0);
        due.refuses("decade of 0 hours", ARGUMENT, () -> x.decade(1, 0, 0, 0));
        due.refuses("decade of 97 hours", ARGUMENT, () -> x.decade(1, 97, 0, 0));
        due.refuses("decade by 17", ARGUMENT, () -> x.decade(1, 1, 17, 0));
        due.refuses("decade by -1", ARGUMENT, () -> x.decade(1, 1, -1, 0));
        due.refuses("decade of what 4", ARGUMENT, () -> x.decade(1, 1, 0, 4));
        due.refuses("decade of what -1", ARGUMENT, () -> x.decade(1, 1, 0, -1));
        UnreadyLead y = Due.of("person 1 1;person 2 2;");
        due.same("without tasks: boots", y.decade(3, 96, 16, 3), 4);
        due.same("without tasks: done", y.decade(3, 96, 16, 0), 0);
        // without tasks a person is drawn first: seed 3 gives 17747 (person 1), 7107 (3 of 16), then 10365 (13 of 16)
        due.same("without tasks: by hand", y.decade(3, 1, 4, 3) * 10 + y.decade(3, 1, 3, 3), 10);
        due.same("one hour", x.decade(7, 1, 0, 0), 10);
        UnreadyLead z = Due.of("task 9;");
        due.same("without persons", z.decade(3, 96, 16, 1) + z.decade(3, 96, 16, 3), 0);
    }

    /** The hours of a seed drawn here, in longs: which task comes, and whose boots. */
    private static void promise35ByHand() {
        UnreadyLead x = Due.of("person 0 0;person 0 0;person 0 0;task 200;task 200;");
        Due.law(x, "person");
        for (int seed = -3; seed < 40; seed++) {
            long s = seed & 0xffffffffL;
            boolean[] led = new boolean[2];
            int[] boots = new int[3];
            int comings = 0;
            int done = 0;
            for (int h = 0; h < 4; h++) {
                int[] drawn = new int[3];
                int[] by = {2, 3, 16};
                for (int i = 0; i < 3; i++) {
                    s = (s * 1103515245L + 12345L) % 4294967296L;
                    drawn[i] = (int) (s / 65536 % 32768 % by[i]);
                }
                comings += led[drawn[0]] ? 0 : 1;
                led[drawn[0]] = true;
                boots[drawn[1]] = drawn[2] < 5 ? Math.min(2, boots[drawn[1]] + 1) : 0;
                done += 10 * comings;
            }
            due.same("done by seed " + seed, x.decade(seed, 4, 5, 0), done);
            due.same("comings by seed " + seed, x.decade(seed, 4, 5, 1), comings);
            due.same("leaders by seed " + seed, x.decade(seed, 4, 5, 2), (1 << comings) - 1);
            due.same("boots by seed " + seed, x.decade(seed, 4, 5, 3), boots[0] + boots[1] + boots[2]);
        }
    }

    private static void promise36() {
        UnreadyLead x = Due.of(FOUR);
        Due.work(x, "come 0;");
        int seed = Integer.MAX_VALUE - 3;
        int least = 1000;
        int most = -1;
        int[] leading = new int[4];
        for (int i = 0; i < 20; i++) {
            int gained = x.decade(seed + i, 2, 9, 0);
            least = Math.min(least, gained);
            most = Math.max(most, gained);
            for (int p = 0; p < 4; p++) {
                leading[p] += x.decade(seed + i, 2, 9, 2) >> p & 1;
            }
        }
        due.same("there is a span", least < most ? 1 : 0, 1);
        due.same("the least", x.span(seed, 20, 2, 9, 0, 3), least);
        due.same("the most", x.span(seed, 20, 2, 9, 1, 0), most);
        for (int p = 0; p < 4; p++) {
            due.same("by how many " + p + " leads", x.span(seed, 20, 2, 9, 2, p), leading[p]);
        }
        due.same("of one", x.span(5, 1, 96, 0, 0, 0), x.decade(5, 96, 0, 0));
        due.same("of one hour", x.span(5, 1, 1, 0, 1, 0), x.decade(5, 1, 0, 0));
        UnreadyLead y = Due.of("person 0 0;task 200;");
        Due.work(y, "come 0;hour;");
        due.same("done in it", y.span(9, 3, 2, 0, 0, 0) * 100 + y.span(9, 3, 2, 0, 1, 0), 2020);
        due.same("nothing done in it", Due.of("person 0 0;").span(9, 3, 2, 0, 1, 0), 0);
        due.same("nothing stays changed", x.told(3) + x.task(0, 1), 0);
        int[][] bad = {{0, 1, 0, 0, 0}, {21, 1, 0, 0, 0}, {1, 0, 0, 0, 0}, {1, 97, 0, 0, 0}, {1, 1, -1, 0, 0}, {1, 1, 17, 0, 0},
            {1, 1, 0, -1, 0}, {1, 1, 0, 3, 0}, {1, 1, 0, 0, 4}, {1, 1, 0, 1, -1}, {1, 1, 0, 2, 4}};
        for (int[] b : bad) {
            due.refuses("span " + java.util.Arrays.toString(b), ARGUMENT, () -> x.span(1, b[0], b[1], b[2], b[3], b[4]));
        }
        due.same("refused", x.status(1) * 10 + x.status(0), 110);
    }

    private static void bags() {
        promise37();
        promise38And39();
        promise40();
        promise41();
        promise42And43();
        promise44();
        promise44Same();
    }

    private static void promise37() {
        UnreadyLead x = new UnreadyLead();
        for (int b = 0; b < 8; b++) {
            due.same("bag " + b, x.bag(b, b % 4, 3), 1);
            due.same("kind of " + b, x.kind(b), b % 4);
        }
        due.same("a map of 24", x.bag(0, 1, 24), 1);
        due.same("its last place", x.mark(0, 23, 5), 0);
        due.same("its first place", x.mark(0, 0, 5), 0);
        due.same("a map once more", x.bag(0, 1, 24), 1);
        due.same("0 at each at first", x.read(0, 23) + x.read(0, 0), 0);
        due.same("a map of none", x.bag(0, 1, 0), 1);
        due.refuses("which has no place", PLACE, () -> x.read(0, 0));
        due.same("any size", x.bag(0, 0, Integer.MIN_VALUE), 1);
        due.same("any folds", x.bag(2, 2, Integer.MIN_VALUE), 1);
        due.refuses("a map of 25", ARGUMENT, () -> x.bag(0, 1, 25));
        due.refuses("a map of -1", SHORT, () -> x.bag(0, 1, -1));
        due.refuses("a map of far less", SHORT, () -> x.bag(0, 1, Integer.MIN_VALUE));
        due.refuses("bag(8, 1, -1)", ARGUMENT, () -> x.bag(8, 1, -1));
        due.refuses("bag(-1, 0, 0)", ARGUMENT, () -> x.bag(-1, 0, 0));
        due.refuses("bag(0, 4, 0)", ARGUMENT, () -> x.bag(0, 4, 0));
        due.refuses("bag(0, -1, 0)", ARGUMENT, () -> x.bag(0, -1, 0));
        due.same("what was there stays", x.wear(0), Integer.MIN_VALUE);
        due.same("refused", x.status(5) * 10 + x.status(1), 25);
    }

    private static void promise38And39() {
        UnreadyLead x = new UnreadyLead();
        due.same("kind of nothing", x.kind(7), -1);
        due.same("drop nothing", x.drop(7), 0);
        x.bag(7, 3, 1);
        due.same("kind", x.kind(7), 3);
        due.same("another bag", x.kind(6), -1);
        due.same("drop", x.drop(7), 1);
        due.same("kind then", x.kind(7), -1);
        due.same("drop again", x.drop(7), 0);
        due.refuses("drop(8)", ARGUMENT, () -> x.drop(8));
        due.refuses("drop(-1)", ARGUMENT, () -> x.drop(-1));
        due.refuses("kind(8)", ARGUMENT, () -> x.kind(8));
        due.refuses("kind(-1)", ARGUMENT, () -> x.kind(-1));
        // no work: nothing undoes them, no image keeps them
        x.image();
        Due.work(x, "hour;");
        x.bag(1, 0, 44);
        x.undo();
        x.restore();
        due.same("neither undone nor restored", x.wear(1), 44);
        Due.federation(x, "");
        due.same("another federation", x.kind(1), -1);
    }

    private static void promise40() {
        UnreadyLead x = new UnreadyLead();
        due.refuses("wear nothing", NOTHING, () -> x.wear(0));
        x.bag(0, 0, -7);
        due.same("wear", x.wear(0), -7);
        for (int kind = 1; kind < 4; kind++) {
            x.bag(1, kind, 2);
            due.refuses("wear kind " + kind, OTHER, () -> x.wear(1));
        }
        due.refuses("wear(8)", ARGUMENT, () -> x.wear(8));
        due.refuses("wear(-1)", ARGUMENT, () -> x.wear(-1));
        due.same("refused", x.status(2) * 100 + x.status(3) * 10 + x.status(1), 132);
    }

    private static void promise41() {
        UnreadyLead x = new UnreadyLead();
        due.refuses("fold nothing", NOTHING, () -> x.fold(0));
        x.bag(0, 2, 3);
        due.same("a towel", x.fold(0), 7);
        due.same("a towel again", x.fold(0), 15);
        x.bag(0, 3, 3);
        due.same("a napkin", x.fold(0), 4);
        due.same("a napkin again", x.fold(0), 5);
        x.bag(0, 2, 1 << 30);
        due.same("a towel wraps", x.fold(0), Integer.MIN_VALUE + 1);
        x.bag(0, 3, Integer.MAX_VALUE);
        due.same("a napkin wraps", x.fold(0), Integer.MIN_VALUE);
        x.bag(0, 0, 3);
        due.refuses("fold a boot", OTHER, () -> x.fold(0));
        x.bag(0, 1, 3);
        due.refuses("fold a map", OTHER, () -> x.fold(0));
        due.refuses("fold(8)", ARGUMENT, () -> x.fold(8));
        due.refuses("fold(-1)", ARGUMENT, () -> x.fold(-1));
        due.same("refused", x.status(2) * 100 + x.status(3) * 10 + x.status(1), 122);
    }

    private static void promise42And43() {
        UnreadyLead x = new UnreadyLead();
        due.refuses("mark nothing", NOTHING, () -> x.mark(0, 99, 1));
        due.refuses("read nothing", NOTHING, () -> x.read(0, 99));
        x.bag(0, 3, 5);
        due.refuses("mark a napkin", OTHER, () -> x.mark(0, 99, 1));
        due.refuses("read a napkin", OTHER, () -> x.read(0, 99));
        x.bag(0, 1, 3);
        x.bag(1, 1, 3);
        due.same("mark", x.mark(0, 2, 11), 0);
        due.same("mark again", x.mark(0, 2, -12), 11);
        due.same("read", x.read(0, 2), -12);
        due.same("another place", x.read(0, 1), 0);
        due.same("another bag", x.read(1, 2), 0);
        for (int place : new int[] {3, -1, 24, Integer.MAX_VALUE, Integer.MIN_VALUE}) {
            due.refuses("mark at " + place, PLACE, () -> x.mark(0, place, 1));
            due.refuses("read at " + place, PLACE, () -> x.read(0, place));
        }
        due.refuses("mark(8, ..)", ARGUMENT, () -> x.mark(8, 0, 0));
        due.refuses("read(-1, ..)", ARGUMENT, () -> x.read(-1, 0));
        due.same("refused", x.status(4) * 1000 + x.status(2) * 100 + x.status(3) * 10 + x.status(1), 10222);
    }

    private static UnreadyLead maps() {
        UnreadyLead x = new UnreadyLead();
        x.bag(0, 1, 5);
        x.bag(1, 1, 3);
        x.bag(2, 0, 9);
        for (int i = 0; i < 5; i++) {
            x.mark(0, i, 10 + i);
        }
        return x;
    }

    private static void promise44() {
        UnreadyLead x = maps();
        due.same("copy", x.copy(0, 2, 1, 0, 3), 3);
        due.same("the first", x.read(1, 0), 12);
        due.same("the last", x.read(1, 2), 14);
        due.same("from as it was", x.read(0, 2), 12);
        due.same("copy to the end", x.copy(0, 0, 1, 2, 1), 1);
        due.same("there", x.read(1, 2), 10);
        due.same("none from the end", x.copy(1, 3, 0, 5, 0), 0);
        int[][] outside = {{0, 6, 1, 0, 0}, {0, 0, 1, 4, 0}, {0, 3, 1, 0, 3}, {0, 0, 1, 1, 3}, {0, 0, 1, 0, 4}, {0, -1, 1, 0, 1},
            {0, 0, 1, -1, 1}, {0, 0, 1, 0, -1}, {0, Integer.MAX_VALUE, 1, 0, 1}, {0, 0, 1, Integer.MAX_VALUE, 1},
            {0, 1, 1, 0, Integer.MAX_VALUE}, {0, 0, 1, 0, Integer.MIN_VALUE}, {0, Integer.MIN_VALUE, 1, 0, 1}, {0, -1, 1, 0, 0}};
        for (int[] o : outside) {
            due.refuses("copy " + java.util.Arrays.toString(o), PLACE, () -> x.copy(o[0], o[1], o[2], o[3], o[4]));
        }
        due.same("nothing is copied", x.read(1, 0) * 10000 + x.read(1, 1) * 100 + x.read(1, 2), 121310);
        due.refuses("copy from nothing", NOTHING, () -> x.copy(3, 9, 2, 9, 9));
        due.refuses("copy to nothing", NOTHING, () -> x.copy(2, 9, 3, 9, 9));
        due.refuses("copy from a boot", OTHER, () -> x.copy(2, 9, 0, 9, 9));
        due.refuses("copy to a boot", OTHER, () -> x.copy(0, 9, 2, 9, 9));
        due.refuses("copy from no bag", ARGUMENT, () -> x.copy(8, 9, 3, 9, 9));
        due.refuses("copy to no bag", ARGUMENT, () -> x.copy(3, 9, 8, 9, 9));
        due.refuses("copy from bag -1", ARGUMENT, () -> x.copy(-1, 0, 3, 0, 0));
        due.refuses("copy to bag -1", ARGUMENT, () -> x.copy(3, 0, -1, 0, 0));
        due.same("refused", x.status(4) * 1000 + x.status(2) * 100 + x.status(3) * 10 + x.status(1), 14224);
    }

    private static void promise44Same() {
        UnreadyLead x = maps();
        due.same("the same one, on", x.copy(0, 0, 0, 1, 4), 4);
        int[] want = {10, 10, 11, 12, 13};
        for (int i = 0; i < 5; i++) {
            due.same("as they were, " + i, x.read(0, i), want[i]);
        }
        UnreadyLead y = maps();
        due.same("the same one, back", y.copy(0, 1, 0, 0, 4), 4);
        int[] back = {11, 12, 13, 14, 14};
        for (int i = 0; i < 5; i++) {
            due.same("as they were, back " + i, y.read(0, i), back[i]);
        }
    }

    /** As many persons and tasks as there may be, then fewer: nothing of the others is left. */
    private static void fullHouse() {
        UnreadyLead x = Due.of("person 9 0;".repeat(8) + "task 7;".repeat(6) + "pack 0;pack 7;");
        due.same("of readiness 27, six, and 67, two", x.readiest(0) * 100 + x.readiest(1), 67);
        due.same("alike", x.alike(7) * 1000 + x.alike(1), 1124);
        due.same("open", x.open(), 63);
        due.same("left", x.left(63), 42);
        due.same("fresh", x.fresh(), 63);
        due.same("the last", x.next(7), 7);
        due.same("rank", x.rank(7), 7);
        due.same("quickest", x.quickest(0), 1);
        due.same("plan", x.plan(63), 6);
        due.same("gives", x.gives(5, 63), 6);
        due.same("plans of fewer tasks behind it", x.plan(15) * 100 + x.plan(7) * 10 + x.plan(48), 432);
        due.same("soup", x.soup(7, 255, 8 * 27 + 13), 33);
        due.same("look", x.look(1), 24);
        due.same("hours", x.hours(1), 0xffffff);
        due.same("comings", Due.work(x, "come 0;come 1;come 2;come 3;come 4;come 5;hour;"), 7);
        due.same("done", x.told(6) * 1000 + x.task(5, 1), 63007);
        due.same("book", Due.book(x, "7 67;0 67;1 27;2 27;3 27;4 27;5 27;6 27;"), 8);
        due.same("fits", x.fits(), 0xffffff);
        due.same("decade", x.decade(1, 9, 16, 0), 0);
        due.same("fewer", Due.federation(x, "person 1 0;task 3;"), 1);
        due.same("open then", x.open() * 10 + x.fresh(), 11);
        due.same("left then", x.left(1), 3);
        due.same("alike then", x.alike(0), 0);
        due.same("readiest then", x.readiest(1), 3);
        due.same("none is done", x.told(6), 0);
        due.same("next then", x.next(1), -1);
        due.same("soup then", x.soup(0, 1, 2), 2);
        due.refuses("left(2) then", ARGUMENT, () -> x.left(2));
        due.refuses("soup by 2 then", ARGUMENT, () -> x.soup(0, 2, 1));
        due.refuses("person 1 then", ELEMENT, () -> x.person(1, 0));
        due.refuses("task 1 then", ELEMENT, () -> x.task(1, 0));
        due.same("a work of such a one", Due.work(x, "boot 1;"), -8);
    }

    private static void imagesAndCounts() {
        promise45And46();
        promise46Works();
        promise47();
        promise48();
    }

    private static void promise45And46() {
        UnreadyLead x = afterSome();
        int[] then = all(x);
        due.same("image 1", x.image(), 1);
        Due.work(x, "come 2;hour;bare 2;sit 1;pack 0;");
        due.same("image 2", x.image(), 2);
        Due.work(x, "hour;come 0;boot 3;sit 0;sit 0;sit 0;");
        due.same("image 3", x.image(), 3);
        due.same("image 4", x.image(), -1);
        due.same("there are 3", x.count(0), 3);
        due.same("refused", x.told(10) > 0 ? 1 : 0, 1);
        due.same("restore 3", x.restore(), 2);
        due.same("none refused", x.told(10), 0);
        due.same("restore 2", x.restore(), 1);
        due.same("hour of 2", x.told(3), 2);
        due.same("restore 1", x.restore(), 0);
        int[] now = all(x);
        for (int i = 0; i < then.length; i++) {
            due.same("restored " + i, now[i], then[i]);
        }
        Due.work(x, "bare 0;");
        due.same("restore none", x.restore(), -1);
        due.same("which does nothing", x.told(10) * 10 + x.count(2), 12);
    }

    private static void promise46Works() {
        UnreadyLead x = Due.of("person 0 0;");
        for (int i = 0; i < 16; i++) {
            Due.work(x, "hour;");
        }
        x.image();
        for (int i = 0; i < 5; i++) {
            x.undo();
        }
        Due.work(x, "feint 0;");
        Due.work(x, "feint 0;");
        due.same("works then", x.count(2), 13);
        x.image();
        for (int i = 0; i < 13; i++) {
            x.undo();
        }
        due.same("none is left", x.undo(), -1);
        due.same("restore", x.restore(), 1);
        due.same("works of the second", x.count(2), 13);
        due.same("undone", x.undo(), 12);
        due.same("feigns", x.told(8) * 100 + x.told(3), 111);
        due.same("undone, too", x.undo(), 11);
        due.same("feigns no more", x.told(8) * 100 + x.told(3), 11);
        due.same("restore the first", x.restore(), 0);
        due.same("works of the first", x.count(2), 16);
        due.same("no more of them", Due.work(x, "hour;"), -20);
        for (int i = 15; i >= 0; i--) {
            due.same("undo to " + i, x.undo(), i);
            due.same("hour " + i, x.told(3), i);
        }
    }

    private static void promise47() {
        UnreadyLead x = new UnreadyLead();
        due.refuses("0", ELEMENT, () -> x.alike(0));
        for (int i = 0; i < 2; i++) {
            due.refuses("1", ARGUMENT, () -> x.next(-1));
        }
        for (int i = 0; i < 3; i++) {
            due.refuses("2", NOTHING, () -> x.wear(0));
        }
        x.bag(0, 1, 1);
        for (int i = 0; i < 4; i++) {
            due.refuses("3", OTHER, () -> x.wear(0));
        }
        for (int i = 0; i < 5; i++) {
            due.refuses("4", PLACE, () -> x.read(0, 1));
        }
        for (int i = 0; i < 6; i++) {
            due.refuses("5", SHORT, () -> x.bag(0, 1, -1));
        }
        x.image();
        due.refuses("1 behind the image", ARGUMENT, () -> x.told(99));
        x.restore();
        Due.federation(x, "foo");
        Due.work(x, "hour;");
        int[] want = {1, 3, 3, 4, 5, 6};
        for (int what = 0; what < 6; what++) {
            due.same("status(" + what + ")", x.status(what), want[what]);
        }
        due.same("status(6)", x.status(6), -1);
        due.same("status(-1)", x.status(-1), -1);
        due.same("status is no refused call", x.status(1), 3);
    }

    private static void promise48() {
        UnreadyLead x = Due.of(FOUR);
        x.image();
        x.image();
        Due.work(x, "");
        Due.work(x, "");
        Due.work(x, "");
        x.bag(0, 0, 0);
        x.bag(3, 1, 0);
        x.bag(5, 2, 0);
        x.bag(7, 3, 0);
        x.bag(7, 3, 1);
        x.feed(0, 0, 0, 0, 0);
        due.same("images", x.count(0), 2);
        due.same("bytes", x.count(1), 20);
        due.same("works", x.count(2), 3);
        due.same("bags", x.count(3), 4);
        due.same("count(4)", x.count(4), -1);
        due.same("count(-1)", x.count(-1), -1);
        due.same("no refused call", x.status(1), 0);
    }
}
