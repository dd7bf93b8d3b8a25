/** The edges of texts, sentence by sentence: federations, laws, works, books, their faults; promises 1 to 7. */
public final class TextEdgesTest {
    private static final Class<IllegalArgumentException> ARGUMENT = IllegalArgumentException.class;
    private static final Due due = new Due();

    private TextEdgesTest() {
    }

    public static void main(String[] args) {
        federations();
        laws();
        worksAndBooks();
        signs();
        faults();
        promises();
        due.close("TextEdgesTest");
    }

    private static void federation(String text, int want, int place) {
        UnreadyLead x = new UnreadyLead();
        due.reads(text, x, Due.federation(x, text), want, place);
    }

    private static void law(String text, int want, int place) {
        UnreadyLead x = new UnreadyLead();
        due.reads(text, x, Due.law(x, text), want, place);
    }

    private static UnreadyLead two() {
        return Due.of("person 1 1;person 2 2;task 9;");
    }

    private static void work(String text, int want, int place) {
        UnreadyLead x = two();
        due.reads(text, x, Due.work(x, text), want, place);
    }

    private static void book(String text, int want, int place) {
        UnreadyLead x = two();
        due.reads(text, x, Due.book(x, text), want, place);
    }

    /** What comes out of a law, held between 0 and 99. */
    private static void value(String law, int want) {
        UnreadyLead x = new UnreadyLead();
        due.same("reading \"" + law + "\"", Due.law(x, law), 1);
        due.same("\"" + law + "\"", x.would(0, 0, 0, 0, 0, 0, 0, 0), want);
    }

    private static void federations() {
        clauses();
        sixHundredBytes();
        sixtyClauses();
        eightPersons();
        digitsOfPersons();
        sixTasks();
        needsOfTasks();
        packedAtFirst();
    }

    private static void sixHundredBytes() {
        due.about(0, "A FEDERATION is a text of up to 600 bytes");
        UnreadyLead x = new UnreadyLead();
        due.same("600 bytes", Due.federation(x, " ".repeat(582) + "person 1 2;task 9;"), 1);
        due.same("the last clause of them", x.task(0, 0), 9);
        due.same("599 bytes", Due.federation(x, " ".repeat(592) + "task 8;"), 0);
        due.same("the only clause of them", x.task(0, 0), 8);
    }

    private static void clauses() {
        due.about(0, "CLAUSE: \"person\" R S");
        federation("person 1 2;", 1, -1);
        federation("person 1;", -9, 8);
        federation("person;", -9, 6);
        federation("person 1 2 3;", -9, 11);
        due.about(0, "\"task\" N");
        federation("task 1;", 0, -1);
        federation("task;", -9, 4);
        federation("task 1 2;", -9, 7);
        due.about(0, "\"pack\" P");
        federation("person 1 2;pack;", -9, 15);
        federation("person 1 2;pack 0 0;", -9, 18);
    }

    private static void sixtyClauses() {
        due.about(0, "{ CLAUSE \";\" }, at most 60");
        String fiftyNine = "person 1 1;" + "pack 0;".repeat(58);
        federation(fiftyNine, 1, -1);
        federation(fiftyNine + "task 9;", 1, -1);
        federation(fiftyNine + "pack 0;", 1, -1);
        federation(fiftyNine + "pack 0;   ", 1, -1);
        federation(fiftyNine + "pack 0;pack 0;", -7, 424);
        federation(fiftyNine + "pack 0; person 1 1;", -7, 425);
        federation(fiftyNine + "pack 0;  task 1;", -7, 426);
        federation(fiftyNine + "pack 0;pack 0;pack 0;", -7, 424);
    }

    private static void eightPersons() {
        due.about(0, "PERSONS, numbered from 0 on, 8 at most");
        federation("person 1 1;".repeat(7), 7, -1);
        federation("person 1 1;".repeat(8), 8, -1);
        federation("person 1 1;".repeat(9), -7, 88);
        federation("person 1 1;".repeat(8) + "task 9; person 1 1;", -7, 96);
        UnreadyLead x = Due.of("person 1 2;".repeat(7) + "person 8 9;");
        due.same("the eighth is number 7", x.person(7, 0) * 10 + x.person(7, 1), 89);
        due.same("the first is number 0", x.person(0, 0) * 10 + x.person(0, 1), 12);
    }

    private static void digitsOfPersons() {
        due.about(0, "R, S, 0 to 9 each");
        UnreadyLead x = new UnreadyLead();
        due.same("the least and the most", Due.federation(x, "person 0 9;person 9 0;"), 2);
        due.same("the first one's", x.person(0, 0) * 10 + x.person(0, 1), 9);
        due.same("the second one's", x.person(1, 0) * 10 + x.person(1, 1), 90);
        federation("person 10 0;", -8, 7);
        federation("person 0 10;", -8, 9);
        federation("person 10 10;", -8, 7);
        federation("person -1 0;", -9, 7);
    }

    private static void sixTasks() {
        due.about(0, "TASKS likewise, 6");
        UnreadyLead x = new UnreadyLead();
        due.same("six", Due.federation(x, "task 1;task 2;task 3;task 4;task 5;task 6;"), 0);
        due.same("tasks", x.told(1), 6);
        due.same("the first is number 0", x.task(0, 0), 1);
        due.same("the sixth is number 5", x.task(5, 0), 6);
        federation("task 1;".repeat(5), 0, -1);
        federation("task 1;".repeat(7), -7, 42);
        federation("task 1;".repeat(6) + "person 1 1;  task 1;", -7, 55);
    }

    private static void needsOfTasks() {
        due.about(0, "NEEDS N, 1 to 200");
        UnreadyLead x = new UnreadyLead();
        due.same("the least and the most", Due.federation(x, "task 1;task 200;"), 0);
        due.same("the least", x.task(0, 0), 1);
        due.same("the most", x.task(1, 0), 200);
        federation("task 0;", -8, 5);
        federation("task 201;", -8, 5);
    }

    private static void packedAtFirst() {
        due.about(0, "\"pack\" P (PERSON P, told ahead, is packed at first; told once more it is as once)");
        federation("pack 0;", -8, 5);
        federation("pack 0;person 1 1;", -8, 5);
        federation("person 1 1;pack 0;", 1, -1);
        federation("person 1 1;pack 1;", -8, 16);
        federation("person 1 1;pack 1;person 1 1;", -8, 16);
        federation("person 1 1;".repeat(8) + "pack 7;", 8, -1);
        federation("person 1 1;".repeat(8) + "pack 8;", -8, 93);
        due.same("nobody", Due.of("person 1 1;person 1 1;").told(7), 0);
        due.same("once", Due.of("person 1 1;pack 0;person 1 1;").told(7), 1);
        due.same("twice", Due.of("person 1 1;pack 0;pack 0;person 1 1;").told(7), 1);
        due.same("three times", Due.of("person 1 1;person 1 1;pack 1;pack 1;pack 1;").told(7), 2);
        due.same("two of three", Due.of("person 1 1;person 1 1;person 1 1;pack 2;pack 0;pack 2;").told(7), 5);
    }

    private static void laws() {
        sums();
        products();
        names();
        lawOf150Bytes();
        nothingMore();
        withoutLaw();
        withinReadiness();
        numbersOfLaws();
        oneOrZero();
        wrapping();
        cuttingAndLeaving();
        leastAndMost();
    }

    private static void sums() {
        due.about(0, "E: T { + or - T }");
        value("7", 7);
        value("7 + 8", 15);
        value("50 - 20", 30);
        value("50 - 20 - 5", 25);
        value("50 - 20 + 5", 35);
        value("5 - 20 + 50", 35);
        value("50 - (20 + 5)", 25);
        law("7 +", -9, 3);
        law("7 + + 8", -9, 4);
        law("7 - - 8", -9, 4);
        law("7 8", -9, 2);
    }

    private static void products() {
        due.about(0, "T: U { * or / or % U }");
        value("7 * 8", 56);
        value("2 + 3 * 4", 14);
        value("3 * 4 + 2", 14);
        value("(2 + 3) * 4", 20);
        value("80 / 4 / 2", 10);
        value("80 / (4 / 2)", 40);
        value("80 / 4 * 2", 40);
        value("80 % 30 % 7", 6);
        value("7 * 8 % 10", 6);
        value("99 - 80 / 7 % 4 * 5", 84);
        law("7 *", -9, 3);
        law("7 * * 8", -9, 4);
        law("7 / % 8", -9, 4);
        law("* 7", -9, 0);
    }

    private static void names() {
        due.about(0, "\"ready\" (READY), \"boots\" (how many it has on)");
        UnreadyLead x = Due.of("person 0 0;person 3 4;task 9;task 9;");
        Due.work(x, "boot 1;boot 1;again 25[hour;];");
        Due.law(x, "ready * 10 + boots");
        due.same("ready 7, boots 2", x.person(1, 6), 72);
        due.same("ready 0, boots 0", x.person(0, 6), 0);
        due.about(0, "\"hour\" (the HOUR), \"day\" (the DAY), \"led\" (how often it led a TASK to its end), \"person\" (its number)");
        Due.law(x, "hour * 10 + day");
        due.same("hour 1, day 1", x.person(1, 6), 11);
        Due.law(x, "led * 10 + person");
        due.same("person 0, who has not led", x.person(0, 6), 0);
        due.same("person 1, who has not led", x.person(1, 6), 1);
        Due.work(x, "come 0;hour;");
        due.same("person 0, who has led once", x.person(0, 6), 10);
        Due.work(x, "come 1;sit 1;");
        due.same("person 1, who sat down", x.person(1, 6), 1);
        for (String name : new String[] {"ready", "boots", "packed", "feint", "hour", "day", "led", "person"}) {
            law(name, 1, -1);
            law(name + "s", -9, 0);
            law(name.substring(1), -9, 0);
            law(name.substring(0, name.length() - 1), -9, 0);
        }
    }

    private static void lawOf150Bytes() {
        due.about(0, "A LAW is a text of up to 150 bytes");
        value(" ".repeat(148) + "57", 57);
        value("1" + "+1".repeat(74) + " ", 75);
        value("0" + "*1".repeat(73) + "+42", 42);
    }

    private static void nothingMore() {
        due.about(0, "E, at the end nothing more");
        law("5 ", 1, -1);
        law("5 5", -9, 2);
        law("5 ready", -9, 2);
        law("5)", -9, 1);
        law("5]", -9, 1);
        law("5,", -9, 1);
        law("5;", -9, 1);
    }

    private static void withoutLaw() {
        due.about(0, "without: ready * 3 + boots * 20 + packed * 40 + feint * 9");
        UnreadyLead x = new UnreadyLead();
        due.same("of nothing", x.would(0, 0, 0, 0, 23, 400, 999, 7), 0);
        due.same("ready", x.would(9, 0, 0, 0, 0, 0, 0, 0), 27);
        due.same("boots", x.would(0, 2, 0, 0, 0, 0, 0, 0), 40);
        due.same("packed", x.would(0, 0, 1, 0, 0, 0, 0, 0), 40);
        due.same("feint", x.would(0, 0, 0, 1, 0, 0, 0, 0), 9);
        due.same("most", x.would(3, 2, 1, 1, 0, 0, 0, 0), 98);
        due.same("more than most", x.would(9, 2, 1, 1, 0, 0, 0, 0), 99);
        due.same("a law that can't be read", Due.law(x, "7 +"), -9);
        due.same("without still", x.would(9, 0, 0, 0, 0, 0, 0, 0), 27);
    }

    private static void withinReadiness() {
        due.about(0, "READINESS of a PERSON: what comes out, 0 at least, 99 at most");
        value("0 - 1", 0);
        value("0", 0);
        value("1", 1);
        value("98", 98);
        value("99", 99);
        value("100", 99);
        value("256 * 256 * 256 * 128", 0);
        value("256 * 256 * 256 * 128 - 1", 99);
        UnreadyLead x = Due.of("person 0 0;");
        Due.law(x, "100 - hour * 9");
        due.same("of a person: the most", x.person(0, 6), 99);
        due.same("of a person: the least", x.readiness(0, 12), 0);
    }

    private static void numbersOfLaws() {
        due.about(0, "N (0 to 999)");
        value("0", 0);
        value("999 - 900", 99);
        value("0999 - 901", 98);
        law("1000", -8, 0);
        law("9 + 1000", -8, 4);
    }

    private static void oneOrZero() {
        due.about(0, "\"packed\" (1, or 0), \"feint\" (1: it feigns, 0 not)");
        UnreadyLead x = Due.of("person 0 0;person 0 0;pack 1;");
        Due.law(x, "packed * 50 + feint * 30");
        due.same("neither", x.person(0, 6), 0);
        due.same("packed", x.person(1, 6), 50);
        Due.work(x, "feint 0;feint 1;");
        due.same("feigns", x.person(0, 6), 30);
        due.same("both", x.person(1, 6), 80);
        Due.work(x, "feint 0;feint 1;pack 1;");
        due.same("none any more", x.person(0, 6) + x.person(1, 6), 0);
    }

    private static void wrapping() {
        due.about(0, "Values are whole numbers of 32 bits that wrap");
        // 2 to the 31st is the least number, one less the greatest one
        value("256 * 256 * 256 * 128", 0);
        value("256 * 256 * 256 * 64 + 256 * 256 * 256 * 64", 0);
        value("256 * 256 * 256 * 128 - 1", 99);
        value("256 * 256 * 256 * 128 - 1 + 1", 0);
        value("0 - 256 * 256 * 256 * 128 - 1", 99);
        value("256 * 256 * 256 * 256", 0);
        value("256 * 256 * 256 * 256 + 5", 5);
        value("999 * 999 * 999", 99);
        value("999 * 999 * 999 * 3", 0);
        // 996,005,996,001 wraps to -426,416,671
        value("999 * 999 * 999 * 999 % 100 + 90", 19);
        value("most[256 * 256 * 256 * 128, 7]", 7);
        value("least[256 * 256 * 256 * 128, 7] + 1", 0);
        value("256 * 256 * 256 * 128 / (0 - 1)", 0);
        value("256 * 256 * 256 * 128 / (0 - 1) - 1", 99);
        value("256 * 256 * 256 * 128 % (0 - 1) + 3", 3);
    }

    private static void cuttingAndLeaving() {
        due.about(0, "/ cuts, % leaves (with the sign of what is divided), by 0 both are 0");
        value("7 / 2", 3);
        value("50 + (0 - 7) / 2", 47);
        value("50 + 7 / (0 - 2)", 47);
        value("(0 - 7) / (0 - 2)", 3);
        value("7 % 4", 3);
        value("50 + (0 - 7) % 4", 47);
        value("50 + 7 % (0 - 4)", 53);
        value("50 + (0 - 7) % (0 - 4)", 47);
        value("8 % 4", 0);
        value("50 + 7 / 0", 50);
        value("50 + 7 % 0", 50);
        value("50 + (0 - 7) / 0", 50);
        value("50 + (0 - 7) % 0", 50);
        value("50 + 0 / 0", 50);
        value("50 + 0 % 0", 50);
    }

    private static void leastAndMost() {
        due.about(0, "\"least\" \"[\" E \",\" E \"]\", \"most\" \"[\" E \",\" E \"]\", or \"(\" E \")\"");
        value("least[3, 4]", 3);
        value("least[4, 3]", 3);
        value("least[4, 4]", 4);
        value("most[3, 4]", 4);
        value("most[4, 3]", 4);
        value("most[4, 4]", 4);
        value("9 - least[0 - 3, 4]", 12);
        law("least[3]", -9, 7);
        law("least[3,]", -9, 8);
        law("least[,3]", -9, 6);
        law("least[]", -9, 6);
        law("most[1,2,3]", -9, 8);
        law("most(1,2)", -9, 4);
        law("()", -9, 1);
    }

    private static void worksAndBooks() {
        workOf150Bytes();
        eachStep();
        rounds();
        toldPersonsAndTasks();
        bookOf60Bytes();
        eachLine();
        nobodyTwice();
        toldInBook();
        readinessInBook();
    }

    private static void workOf150Bytes() {
        due.about(0, "WORK is a text of up to 150 bytes");
        work(" ".repeat(145) + "hour;", 1, -1);
        work("hour;".repeat(30), 30, -1);
        work("feint 0;".repeat(18) + " hour;", 19, -1);
        work("", 0, -1);
    }

    private static void eachStep() {
        due.about(0, "\"boot\" P, \"bare\" P, \"pack\" P, \"feint\" P, \"come\" T, \"sit\" P, \"hour\"");
        work("boot 0;bare 0;pack 0;feint 0;come 0;sit 1;hour;", 7, -1);
        for (String word : new String[] {"boot", "bare", "pack", "feint", "come", "sit", "hour"}) {
            work(word + "s 0;", -9, 0);
            work(word.substring(1) + " 0;", -9, 0);
            work(word + " 0 0;", -9, word.equals("hour") ? 5 : word.length() + 3);
            work(word + " 0", -9, word.equals("hour") ? 5 : word.length() + 2);
        }
        work("hour 0;", -9, 5);
        due.about(0, "{ STEP \";\" }");
        work("", 0, -1);
        work("hour;hour", -9, 9);
        work("hour,", -9, 4);
    }

    private static void rounds() {
        due.about(0, "\"again\" N \"[\" { STEP \";\" } \"]\" (N 0 to 60)");
        work("again 0[hour;];", 0, -1);
        work("again 1[hour;];", 1, -1);
        work("again 60[hour;];", 60, -1);
        work("again 61[hour;];", -8, 6);
        work("again 60[];", 0, -1);
        work("again 60[", -9, 9);
        work("again 60[hour]", -9, 13);
        work("again 60];", -9, 8);
    }

    private static void toldPersonsAndTasks() {
        due.about(0, "(P: a PERSON, T: a TASK, told)");
        for (String word : new String[] {"boot", "bare", "pack", "feint", "sit"}) {
            int at = word.length() + 1;
            UnreadyLead x = two();
            due.same(word + " 1 can be read", Due.work(x, word + " 1;") >= 0 ? 1 : 0, 1);
            work(word + " 2;", -8, at);
            work(word + ";", -9, at - 1);
            UnreadyLead y = Due.of("task 9;");
            due.reads(word + " 0 without persons", y, Due.work(y, word + " 0;"), -8, at);
        }
        work("come 0;", 1, -1);
        work("come 1;", -8, 5);
        work("come;", -9, 4);
        UnreadyLead z = Due.of("person 1 1;person 1 1;");
        due.reads("come 0 without tasks", z, Due.work(z, "come 0;"), -8, 5);
        UnreadyLead w = Due.of("person 1 1;".repeat(8) + "task 9;".repeat(6));
        due.reads("the last of each", w, Due.work(w, "boot 7;come 5;"), 2, -1);
        due.reads("beyond the last task", w, Due.work(w, "come 6;"), -8, 5);
        due.reads("beyond the last person", w, Due.work(w, "boot 8;"), -8, 5);
    }

    private static void bookOf60Bytes() {
        due.about(0, "A BOOK is a text of up to 60 bytes");
        book(" ".repeat(56) + "1 5;", 1, -1);
        book("0 5;" + " ".repeat(51) + "1 99;", 2, -1);
        book("", 0, -1);
    }

    private static void eachLine() {
        due.about(0, "{ P L \";\" }");
        book("0 1;1 2;", 2, -1);
        book("0;", -9, 1);
        book("0 1 2;", -9, 4);
        book("0 1;1 2", -9, 7);
        book("0,1;", -9, 1);
    }

    private static void nobodyTwice() {
        due.about(0, "no P twice");
        book("0 1;1 1;", 2, -1);
        book("0 1;0 1;", -8, 4);
        book("1 1;0 1; 1 1;", -8, 9);
        book("0 1;00 2;", -8, 4);
        book("0 1;0", -8, 4);
    }

    private static void toldInBook() {
        due.about(0, "PERSON P, one told");
        book("1 0;", 1, -1);
        book("2 0;", -8, 0);
        book("0 0;2 0;", -8, 4);
        UnreadyLead x = Due.of("task 9;");
        due.reads("nobody is told", x, Due.book(x, "0 0;"), -8, 0);
        UnreadyLead y = Due.of("person 1 1;".repeat(8));
        due.reads("the last of eight", y, Due.book(y, "7 0;"), 1, -1);
        due.reads("beyond the last of eight", y, Due.book(y, "8 0;"), -8, 0);
    }

    private static void readinessInBook() {
        due.about(0, "is of READINESS L (0 to 99)");
        book("0 0;", 1, -1);
        book("0 99;", 1, -1);
        book("0 100;", -8, 2);
        UnreadyLead x = Due.of("person 0 0;person 0 0;");
        Due.law(x, "99 * person");
        Due.book(x, "0 0;1 99;");
        due.same("the least and the most are right", x.fits(), 0xffffff);
        Due.book(x, "0 1;");
        due.same("one more is not", x.fits(), 0);
        Due.book(x, "1 98;");
        due.same("nor one less", x.fits(), 0);
    }

    private static void signs() {
        digits();
        letters();
        blanks();
    }

    private static void digits() {
        due.about(0, "Numbers: digits, as many as stand there");
        federation("task 00000000000000000000000000000000000200;", 0, -1);
        federation("task 2000;", -8, 5);
        // numbers that 32 or 64 bits would wrap to 1
        federation("task 4294967297;", -8, 5);
        federation("task 18446744073709551617;", -8, 5);
        federation("task " + "9".repeat(500) + ";", -8, 5);
        federation("task 2147483648;", -8, 5);
        federation("person 11;", -8, 7);
        federation("person 1;", -9, 8);
        federation("task 1 0;", -9, 7);
        law("4294967296", -8, 0);
        law("9223372036854775808", -8, 0);
        law("1 1", -9, 2);
        work("again 4294967296[];", -8, 6);
        work("boot 4294967296;", -8, 5);
        book("4294967296 1;", -8, 0);
        book("0 4294967296;", -8, 2);
        book("01;", -9, 2);
        book("000000000000000000 000000000000000000099;", 1, -1);
        // the signs beside the digits are none
        federation("task 1/;", -9, 6);
        federation("task 1:;", -9, 6);
        federation("task /1;", -9, 5);
        federation("task :1;", -9, 5);
        book("0 1:;", -9, 3);
        book("0:1;", -9, 1);
        work("boot 1:;", -9, 6);
        law("1:", -9, 1);
        law(":1", -9, 0);
        federation("person 0 9;task 109;", 1, -1);
    }

    private static void letters() {
        due.about(0, "WORDS: small letters, as many as stand there");
        federation("personx 1 1;", -9, 0);
        federation("perso 1 1;", -9, 0);
        federation("per son 1 1;", -9, 0);
        federation("Person 1 1;", -9, 0);
        federation("PERSON 1 1;", -9, 0);
        federation("person1 1;", 1, -1);
        federation("taskpack 1;", -9, 0);
        law("readyready", -9, 0);
        law("read", -9, 0);
        law("ready1", -9, 5);
        law("1ready", -9, 1);
        law("leastmost[1,2]", -9, 0);
        law("Ready", -9, 0);
        work("hourhour;", -9, 0);
        work("hou;", -9, 0);
        work("hour hour;", -9, 5);
        work("againx 1[];", -9, 0);
        work("agai 1[];", -9, 0);
        work("boot1;", 1, -1);
        // each letter counts, the first and the last
        federation("xerson 1 1;", -9, 0);
        federation("persox 1 1;", -9, 0);
        federation("xask 1;", -9, 0);
        federation("xack 0;", -9, 0);
        law("xeady", -9, 0);
        law("xeast[1,2]", -9, 0);
        law("xost[1,2]", -9, 0);
        work("xour;", -9, 0);
        work("xgain 1[];", -9, 0);
        // the letters' first and last one, and the signs beside them
        federation("taska 1;", -9, 0);
        federation("taskz 1;", -9, 0);
        federation("task` 1;", -9, 4);
        federation("task{ 1;", -9, 4);
        federation("zask 1;", -9, 0);
        law("ready`", -9, 5);
        law("ready{", -9, 5);
        law("readyz", -9, 0);
        work("hourz;", -9, 0);
        work("hour{;", -9, 4);
    }

    private static void blanks() {
        due.about(0, "blanks (32) may stand ahead of all these, and at the end");
        federation("  person  1  1  ;  task  9  ;  pack  0  ;  ", 1, -1);
        federation("     ", 0, -1);
        law("  least  [  1  ,  2  ]  +  (  3  )  *  ready  ", 1, -1);
        work("  again  2  [  hour  ;  boot  0  ;  ]  ;  ", 4, -1);
        work("   ", 0, -1);
        book("  0  1  ;  1  2  ;  ", 2, -1);
        book("   ", 0, -1);
        for (char c : new char[] {0, 9, 10, 13, 31, 33, 160, 255}) {
            federation("task" + c + "9;", -9, 4);
            federation("task 9;" + c, -9, 7);
            law("1" + c, -9, 1);
            work("hour;" + c, -9, 5);
            book("0" + c + "1;", -9, 1);
        }
    }

    private static void faults() {
        firstFromTheLeft();
        cannotStand();
        endsTooEarly();
        noSuchNumber();
        tooMany();
        seventhOpen();
        ofOneTheLeast();
    }

    private static void firstFromTheLeft() {
        due.about(0, "FAULTS, the first from the left, at its first byte");
        federation("task 0;foo", -8, 5);
        federation("foo;task 0;", -9, 0);
        federation("  task   201 ;foo", -8, 9);
        federation("person 10 11 foo", -8, 7);
        federation("task 1;".repeat(7) + "foo", -7, 42);
        law("1 + foo + 1000", -9, 4);
        law("1 + 1000 + foo", -8, 4);
        work("hour;boot 2;foo;", -8, 10);
        work("again 61 foo", -8, 6);
        book("0 100;0 1;", -8, 2);
        book("0 1;0 100;", -8, 4);
        book("2 100;", -8, 0);
    }

    private static void cannotStand() {
        due.about(0, "1 what can't stand there");
        federation(";", -9, 0);
        federation("person 1 1;;", -9, 11);
        federation("1;", -9, 0);
        federation("person ; 1", -9, 7);
        federation("person 1 ,", -9, 9);
        federation("hour;", -9, 0);
        law("+1", -9, 0);
        law("-1", -9, 0);
        law("1 + * 2", -9, 4);
        law("1 ( 2 )", -9, 2);
        law("[1]", -9, 0);
        law("again", -9, 0);
        work(";", -9, 0);
        work("];", -9, 0);
        work("hour;];", -9, 5);
        work("again 1[];];", -9, 10);
        work("again 1[;];", -9, 8);
        work("task 1;", -9, 0);
        work("5;", -9, 0);
        book("a 1;", -9, 0);
        book("0 a;", -9, 2);
        book("0 1,", -9, 3);
        book("0 1;;", -9, 4);
    }

    private static void endsTooEarly() {
        due.about(0, "(at the length, if the text ends too early)");
        String[] federations = {"task", "task ", "task 9", "task 9  ", "person", "person 1", "person 1 1", "pers"};
        for (String text : federations) {
            federation(text, -9, text.equals("pers") ? 0 : text.length());
        }
        for (String text : new String[] {"", "   ", "1 +", "1 + ", "(", "(1", "(1 ", "least", "least[", "least[1", "least[1,", "least[1,2", "1 *"}) {
            law(text, -9, text.length());
        }
        for (String text : new String[] {"hour", "hour ", "boot", "boot 1", "again", "again 2", "again 2[", "again 2[hour;", "again 2[hour; ", "again 2[hour;]"}) {
            work(text, -9, text.length());
        }
        for (String text : new String[] {"0", "0 ", "0 1", "0 1 ", "0 1;1"}) {
            book(text, -9, text.length());
        }
        // the length is that of the text, though more stands on the tape
        UnreadyLead x = new UnreadyLead();
        Due.put(x, "person 1 1;");
        due.reads("person 1 1; cut to 9", x, x.federation(9), -9, 9);
        Due.put(x, "1 + 1");
        due.reads("1 + 1 cut to 3", x, x.law(3), -9, 3);
        Due.put(x, "hour;");
        due.reads("hour; cut to 3", x, x.work(3), -9, 0);
        Due.put(x, "hour;");
        due.reads("hour; cut to 4", x, x.work(4), -9, 4);
    }

    private static void noSuchNumber() {
        due.about(0, "2 a number that is none such (a P twice in a BOOK)");
        federation("person 10 1;", -8, 7);
        federation("person 1 10;", -8, 9);
        federation("task 0;", -8, 5);
        federation("pack 0;", -8, 5);
        law("(1000)", -8, 1);
        work("boot 2;", -8, 5);
        work("come 1;", -8, 5);
        work("again 61[];", -8, 6);
        book("2 1;", -8, 0);
        book("1 100;", -8, 2);
        book("1 1;1 1;", -8, 4);
    }

    private static void tooMany() {
        due.about(0, "3 a CLAUSE, PERSON or TASK too many (at its word)");
        federation("person 1 1;".repeat(8) + "person", -7, 88);
        federation("person 1 1;".repeat(8) + "  person 99", -7, 90);
        federation("task 1;".repeat(6) + "task", -7, 42);
        federation("task 1;".repeat(6) + "  task 0;", -7, 44);
        String sixty = "person 1 1;" + "pack 0;".repeat(59);
        federation(sixty + "pack", -7, 424);
        federation(sixty + "  pack 9;", -7, 426);
        federation(sixty + "task 0;", -7, 424);
        federation("person 1 1;".repeat(8) + "task 1;".repeat(6) + "pack 0;".repeat(46), 8, -1);
        federation("person 1 1;".repeat(8) + "task 1;".repeat(6) + "pack 0;".repeat(46) + "person 1 1;", -7, 452);
    }

    private static void seventhOpen() {
        due.about(0, "or a 7th of ( least most again that is open at one time");
        law("((((((1))))))", 1, -1);
        law("(((((((1)))))))", -7, 6);
        law("((((((  (1)))))))", -7, 8);
        law("least[".repeat(6) + "1" + ",1]".repeat(6), 1, -1);
        law("least[1,".repeat(6) + "1" + "]".repeat(6), 1, -1);
        law("least[".repeat(7) + "1" + ",1]".repeat(7), -7, 36);
        law("least[1,".repeat(7) + "1" + "]".repeat(7), -7, 48);
        law("most[".repeat(6) + "1" + ",1]".repeat(6), 1, -1);
        law("most[".repeat(7) + "1" + ",1]".repeat(7), -7, 30);
        law("most[1,".repeat(6) + " most[1,1]" + "]".repeat(6), -7, 43);
        law("(least[1,(most[(least[1,1]),1])])", 1, -1);
        law("(least[1,(most[(least[1,(1)]),1])])", -7, 24);
        law("(least[1,(most[(least[(1),1]),1])])", -7, 22);
        law("(((((((", -7, 6);
        law("((((((least", -7, 6);
        law("((((((most", -7, 6);
        // those that are closed are not open any more
        law("((((((1)))))) + ((((((1))))))", 1, -1);
        law("(1)" + "+(1)".repeat(9), 1, -1);
        law("(((((least[1,1]+most[1,1]+(1)+least[(1),1])))))", -7, 36);
        law("(((((least[1,1]+most[1,1]+(1)+least[1,1])))))", 1, -1);
        work("again 1[".repeat(6) + "hour;" + "];".repeat(6), 1, -1);
        work("again 2[".repeat(6) + "hour;" + "];".repeat(6), 64, -1);
        work("again 2[".repeat(5) + "again 3[hour;];hour;" + "];".repeat(5), 128, -1);
        work("again 1[".repeat(7) + "];".repeat(7), -7, 48);
        work("again 1[".repeat(6) + "  again", -7, 50);
        work("again 1[".repeat(6) + "again 61", -7, 48);
        work("again 1[];".repeat(9), 0, -1);
        work("again 1[".repeat(5) + "again 1[];again 1[];hour;" + "];".repeat(5), 1, -1);
        UnreadyLead x = two();
        due.reads("seven open", x, Due.work(x, "again 1[".repeat(7)), -7, 48);
        due.reads("six open behind it", x, Due.work(x, "again 1[".repeat(6) + "];".repeat(6)), 0, -1);
    }

    private static void ofOneTheLeast() {
        due.about(0, "of one the least");
        String sixty = "person 1 1;" + "pack 0;".repeat(59);
        federation(sixty + "packs 0;", -9, 424);
        federation(sixty + ";", -9, 424);
        federation(sixty + "0", -9, 424);
        federation("person 1 1;".repeat(8) + "persons", -9, 88);
        federation("task 1;".repeat(6) + "tasks", -9, 42);
        law("((((((leasts", -9, 6);
        law("((((((+", -9, 6);
        work("again 1[".repeat(6) + "agains", -9, 48);
    }

    private static void promises() {
        promise1();
        promise2Full();
        promise2Order();
        promise3Bytes();
        promise3Anew();
        promise3Stays();
        promise3Refused();
        promise4();
        promise5Counts();
        promise5Faulty();
        promise5Full();
        promise6();
        promise7();
    }

    private static void promise1() {
        due.about(1, "A FEDERATION without CLAUSES");
        UnreadyLead x = new UnreadyLead();
        UnreadyLead y = new UnreadyLead();
        due.same("federation(0)", y.federation(0), 0);
        due.same("a new one is as one of 0 bytes", Probe.of(x), Probe.of(y));
        UnreadyLead z = new UnreadyLead();
        for (int what = 0; what < 12; what++) {
            due.same("told(" + what + ")", z.told(what), 0);
        }
        due.same("caught(), next(0)", z.caught() + z.next(0), -2);
        due.same("open(), fresh(), plan(0), left(0)", z.open() + z.fresh() + z.plan(0) + z.left(0), 0);
        due.same("fits()", z.fits(), 0xffffff);
        due.same("look(0), look(1)", z.look(0) + z.look(1), -2);
        due.same("readiest, quickest", z.readiest(0) + z.readiest(1) + z.quickest(0) + z.quickest(1), -4);
        due.same("ahead", z.ahead(500, 0) + z.ahead(500, 1) + z.ahead(500, 2), 0);
        due.same("decade", z.decade(1, 96, 16, 0) + z.decade(1, 96, 16, 1) + z.decade(1, 96, 16, 2) + z.decade(1, 96, 16, 3), 0);
        due.same("image(), restore(), restore(), undo()", z.image() * 1000 + z.restore() * 100 + z.restore() * 10 + z.undo(), 989);
        due.same("work of 24 hours", Due.work(z, "again 24[hour;];"), 24);
        due.same("day 1", z.told(2), 1);
    }

    private static void promise2Full() {
        due.about(2, "NONE, doing nothing, if there would be more than 600");
        UnreadyLead x = new UnreadyLead();
        Due.put(x, " ".repeat(580));
        due.same("580 bytes", x.count(1), 580);
        due.same("580 and 20", x.feed(0x20202020, 0x20202020, 0x20202020, 0x20207461, 0x736b2037), 600);
        due.same("600 and 20", x.feed(0x3b3b3b3b, 0x3b3b3b3b, 0x3b3b3b3b, 0x3b3b3b3b, 0x3b3b3b3b), -1);
        due.same("bytes then", x.count(1), 600);
        due.reads("all 600", x, x.federation(600), -9, 600);
        due.same("feed behind it", x.feed(0x7461736b, 0x20373b20, 0x20202020, 0x20202020, 0x20202020), 20);
        due.reads("20 bytes", x, x.federation(20), 0, -1);
        due.same("not refused", x.status(1), 0);
    }

    private static void promise2Order() {
        due.about(2, "Twenty bytes come on the TAPE, of each number the highest first: how many there are");
        UnreadyLead x = new UnreadyLead();
        due.same("20", x.feed(0x7461736b, 0x313b7461, 0x736b323b, 0x7461736b, 0x333b7461), 20);
        due.same("40", x.feed(0x736b343b, 0x20202020, 0x20202020, 0x20202020, 0x20202035), 40);
        due.same("task1;task2;task3;task4;", x.federation(39), 0);
        due.same("needs", x.task(0, 0) * 1000 + x.task(1, 0) * 100 + x.task(2, 0) * 10 + x.task(3, 0), 1234);
        // the highest bit is no sign of a byte
        x.feed(0xa0a0a0a0, -1, Integer.MIN_VALUE, 0, 0);
        due.reads("byte 160", x, x.federation(1), -9, 0);
    }

    private static void promise3Bytes() {
        due.about(3, "The first n bytes of the TAPE (empty then) are the FEDERATION");
        UnreadyLead x = new UnreadyLead();
        Due.put(x, "person 1 1;person 2 2;foo");
        due.same("11 of 40 bytes", x.federation(11), 1);
        due.same("the tape", x.count(1), 0);
        due.same("fed behind it", x.feed(0x7461736b, 0x20393b20, 0, 0, 0), 20);
        due.same("8 of 20 bytes", x.federation(8), 0);
        due.same("tasks", x.told(1) * 10 + x.task(0, 0), 19);
        Due.put(x, "person 1 1;");
        due.same("0 of 20 bytes", x.federation(0), 0);
        due.same("nobody", x.told(0) + x.told(1) + x.count(1), 0);
        Due.put(x, "foo");
        due.same("a fault", x.federation(3), -9);
        due.same("the tape behind a fault", x.count(1), 0);
    }

    private static UnreadyLead busy() {
        UnreadyLead x = Due.of("person 0 0;person 5 1;task 30;task 5;pack 1;");
        Due.law(x, "50 - ready");
        Due.book(x, "0 50;");
        Due.work(x, "come 0;come 1;again 25[hour;];come 0;feint 0;pack 0;boot 0;sit 1;sit 1;");
        x.image();
        x.image();
        for (int b = 0; b < 8; b++) {
            x.bag(b, b % 4, b);
        }
        return x;
    }

    private static void promise3Anew() {
        due.about(3, "(DAY 0; no LAW, BOOK, IMAGES, BAGS, nothing to undo)");
        UnreadyLead x = busy();
        due.same("it is day 1", x.told(2), 1);
        due.same("the same federation", Due.federation(x, "person 0 0;person 5 1;task 30;task 5;pack 1;"), 2);
        due.same("day, hour", x.told(2) * 100 + x.told(3), 0);
        due.same("who leads, what is led, done, who feigns", x.told(4) + x.told(5) + x.told(6) + x.told(8), 0);
        due.same("packed", x.told(7), 2);
        due.same("lines, steps refused, comings", x.told(9) + x.told(10) + x.told(11), 0);
        due.same("boots, led", x.person(0, 3) + x.person(1, 3) + x.person(0, 5) + x.person(1, 5), 0);
        due.same("done of tasks", x.task(0, 1) + x.task(1, 1), 0);
        due.same("no law", x.person(0, 6) * 100 + x.person(1, 6), 55);
        due.same("no book", x.fits(), 0xffffff);
        due.same("no images, works, bags", x.count(0) + x.count(2) + x.count(3), 0);
        due.same("nothing to undo", x.undo(), -1);
        due.same("nothing to restore", x.restore(), -1);
        for (int b = 0; b < 8; b++) {
            due.same("bag " + b, x.kind(b), -1);
        }
        UnreadyLead y = busy();
        due.same("of 0 bytes", y.federation(0), 0);
        due.same("as a new one", Probe.of(y), Probe.of(new UnreadyLead()));
    }

    private static void promise3Stays() {
        due.about(3, "or the FAULT less 10 (all stays)");
        String[] texts = {"person 1 1;task 1;pack 0;foo", "person 1 1;task 0;", "person 1 1;" + "task 1;".repeat(7)};
        int[] answers = {-9, -8, -7};
        for (int i = 0; i < 3; i++) {
            UnreadyLead x = busy();
            due.same(texts[i], Due.federation(x, texts[i]), answers[i]);
            // another text is read by both, so that only what stays is compared
            UnreadyLead y = busy();
            Due.book(x, "0 50;");
            Due.book(y, "0 50;");
            due.same("all behind " + texts[i], Probe.of(x), Probe.of(y));
        }
    }

    private static void promise3Refused() {
        due.about(3, "IllegalArgumentException: n is not 0 to the TAPE's bytes (it stays)");
        UnreadyLead x = new UnreadyLead();
        due.refuses("1 of none", ARGUMENT, () -> x.federation(1));
        due.refuses("-1 of none", ARGUMENT, () -> x.federation(-1));
        due.same("0 of none", x.federation(0), 0);
        Due.put(x, "person 1 2; task 30;");
        for (int n : new int[] {21, -1, 600, 601, Integer.MAX_VALUE, Integer.MIN_VALUE}) {
            due.refuses(n + " of 20", ARGUMENT, () -> x.federation(n));
            due.same("bytes behind it", x.count(1), 20);
        }
        due.same("refused", x.status(1), 8);
        due.same("20 of 20", x.federation(20), 1);
        due.same("what stood there", x.person(0, 0) * 1000 + x.person(0, 1) * 100 + x.task(0, 0), 1230);
        UnreadyLead y = new UnreadyLead();
        Due.put(y, " ".repeat(600));
        due.refuses("601 of 600", ARGUMENT, () -> y.federation(601));
        due.same("600 of 600", y.federation(600), 0);
    }

    /** Twenty bytes more than the text may have stand on the tape, a number among its last ones. */
    private static void promise4() {
        due.about(4, "Likewise the LAW (n to 150): 1");
        UnreadyLead x = new UnreadyLead();
        Due.put(x, " ".repeat(148) + "57" + " ".repeat(20));
        for (int n : new int[] {151, 160, 170, 180, 181, -1, Integer.MAX_VALUE, Integer.MIN_VALUE}) {
            due.refuses("law(" + n + ")", ARGUMENT, () -> x.law(n));
            due.same("bytes behind it", x.count(1), 180);
        }
        due.same("refused", x.status(1), 8);
        due.same("law(150)", x.law(150), 1);
        due.same("bytes then", x.count(1), 0);
        due.same("readiness by it", x.would(0, 0, 0, 0, 0, 0, 0, 0), 57);
        due.refuses("law(1) without bytes", ARGUMENT, () -> x.law(1));
        due.reads("law(0)", x, x.law(0), -9, 0);
        due.same("the law stays", x.would(0, 0, 0, 0, 0, 0, 0, 0), 57);
        Due.put(x, "12345");
        due.refuses("21 of 20", ARGUMENT, () -> x.law(21));
        due.same("2 of 20", x.law(2), 1);
        due.same("another law", x.would(0, 0, 0, 0, 0, 0, 0, 0), 12);
        for (String bad : new String[] {"5 5", "1000", "(((((((5)))))))", "5 + "}) {
            due.same(bad, Due.law(x, bad) < 0 ? 1 : 0, 1);
            due.same("bytes behind a fault", x.count(1), 0);
            due.same("the law stays behind " + bad, x.would(0, 0, 0, 0, 0, 0, 0, 0), 12);
        }
    }

    private static void promise5Counts() {
        due.about(5, "how many STEPS were done (agains not counted, nor REFUSED ones)");
        work("", 0, -1);
        work("again 3[];", 0, -1);
        work("bare 0;sit 0;", 0, -1);
        work("again 3[hour;again 2[bare 0;pack 0;];];", 9, -1);
        work("boot 0;boot 0;boot 0;bare 0;bare 0;", 3, -1);
    }

    private static void promise5Faulty() {
        due.about(5, "or the FAULT less 10 (none is)");
        String[] texts = {"hour;boot 0;come 0;foo;", "hour;boot 0;come 0;boot 2;", "hour;boot 0;" + "again 1[".repeat(7), "hour;boot 0;come 0"};
        int[] answers = {-9, -8, -7, -9};
        for (int i = 0; i < texts.length; i++) {
            UnreadyLead x = two();
            due.same(texts[i], Due.work(x, texts[i]), answers[i]);
            due.same("no work", x.count(2), 0);
            due.same("nothing to undo", x.undo(), -1);
            Due.law(x, "5");
            UnreadyLead y = two();
            Due.law(y, "5");
            due.same("as ahead of it", Probe.of(x), Probe.of(y));
        }
    }

    private static void promise5Full() {
        due.about(5, "-20 ahead of that (nothing is read, there is no FAULT, the TAPE is empty then): 16 WORKS are there that were not undone");
        UnreadyLead x = two();
        for (int i = 1; i <= 16; i++) {
            due.same("a faulty one ahead of " + i, Due.work(x, "foo"), -9);
            due.same("work " + i, Due.work(x, i % 2 == 0 ? "" : "hour;bare 0;"), i % 2);
        }
        due.same("works", x.count(2), 16);
        due.same("a fault ahead of it", Due.law(x, "foo"), -9);
        due.reads("the 17th", x, Due.work(x, "hour;"), -20, -1);
        due.same("the hour stays", x.told(3), 8);
        due.same("works stay", x.count(2), 16);
        due.same("the tape", x.count(1), 0);
        due.reads("a faulty one", x, Due.work(x, "foo;"), -20, -1);
        due.reads("of no bytes", x, x.work(0), -20, -1);
        Due.put(x, "hour;" + " ".repeat(160));
        due.refuses("151 bytes of 180", ARGUMENT, () -> x.work(151));
        due.refuses("-1 bytes of 180", ARGUMENT, () -> x.work(-1));
        due.same("the tape stays", x.count(1), 180);
        due.same("150 bytes of 180", x.work(150), -20);
        due.same("the tape then", x.count(1), 0);
        due.same("one is undone", x.undo(), 15);
        due.same("another one", Due.work(x, "hour;"), 1);
        due.same("once more", Due.work(x, "hour;"), -20);
        due.same("all undone", undoAll(x), 16);
        for (int i = 1; i <= 16; i++) {
            Due.work(x, "");
        }
        due.same("of no steps, too", Due.work(x, ""), -20);
    }

    private static int undoAll(UnreadyLead x) {
        int many = 0;
        while (many < 100 && x.undo() >= 0) {
            many++;
        }
        return many;
    }

    private static void promise6() {
        due.about(6, "Likewise the BOOK (n to 60): how many lines");
        UnreadyLead x = Due.of("person 1 0;".repeat(8));
        Due.put(x, " ".repeat(55) + "7 12;" + " ".repeat(20));
        for (int n : new int[] {61, 80, 81, -1, Integer.MAX_VALUE, Integer.MIN_VALUE}) {
            due.refuses("book(" + n + ")", ARGUMENT, () -> x.book(n));
            due.same("bytes behind it", x.count(1), 80);
        }
        due.same("refused", x.status(1), 6);
        due.same("book(60)", x.book(60), 1);
        due.same("bytes then", x.count(1), 0);
        due.same("lines", x.told(9), 1);
        due.refuses("book(1) without bytes", ARGUMENT, () -> x.book(1));
        due.same("eight lines", Due.book(x, "0 3;1 3;2 3;3 3;4 3;5 3;6 3;7 3;"), 8);
        due.same("all are right", x.fits(), 0xffffff);
        for (String bad : new String[] {"0 3;0 3;", "8 3;", "0 100;", "0 3"}) {
            due.same(bad, Due.book(x, bad) < 0 ? 1 : 0, 1);
            due.same("bytes behind a fault", x.count(1), 0);
            due.same("the lines stay behind " + bad, x.told(9), 8);
            due.same("and are right", x.fits(), 0xffffff);
        }
        due.same("the last line stays", Due.book(x, "7 4;"), 1);
        due.same("and is wrong", x.fits(), 0);
        due.same("book(0)", x.book(0), 0);
        due.same("no lines", x.told(9), 0);
        due.same("all is right again", x.fits(), 0xffffff);
    }

    private static void promise7() {
        due.about(7, "The place of the FAULT of the latest text; NONE without");
        UnreadyLead x = two();
        due.same("no fault", x.fault(), -1);
        due.same("new", new UnreadyLead().fault(), -1);
        Due.federation(x, "person 1 1; foo");
        due.same("of a federation", x.fault(), 12);
        Due.law(x, "1 + foo");
        due.same("of a law", x.fault(), 4);
        Due.work(x, "hour;foo");
        due.same("of a work", x.fault(), 5);
        Due.book(x, "0 foo");
        due.same("of a book", x.fault(), 2);
        Due.book(x, "foo");
        due.same("at the first byte", x.fault(), 0);
        due.refuses("a refused text", ARGUMENT, () -> x.law(1));
        due.same("is none", x.fault(), 0);
        x.undo();
        x.restore();
        x.image();
        x.feed(0, 0, 0, 0, 0);
        due.same("behind other calls", x.fault(), 0);
        x.law(0);
        due.same("of a law of no bytes", x.fault(), 0);
        Due.law(x, "1");
        due.same("without", x.fault(), -1);
        Due.law(x, "1 1");
        Due.work(x, "");
        due.same("without, by a work", x.fault(), -1);
        Due.law(x, "1 1");
        Due.book(x, "");
        due.same("without, by a book", x.fault(), -1);
        Due.law(x, "1 1");
        Due.federation(x, "");
        due.same("without, by a federation", x.fault(), -1);
    }
}
