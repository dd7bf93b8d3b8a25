/** The edges of bags and counts, sentence by sentence: promises 37 to 44, 47 and 48; what is refused is in RefusalEdgesTest. */
public final class BagEdgesTest {
    private static final int LEAST = Integer.MIN_VALUE;
    private static final int GREATEST = Integer.MAX_VALUE;
    private static final Due due = new Due();

    private BagEdgesTest() {
    }

    public static void main(String[] args) {
        eightBags();
        oneThing();
        sizes();
        mapsAtFirst();
        cloths();
        noWork();
        another();
        put();
        drop();
        kinds();
        wear();
        fold();
        markAndRead();
        copy();
        copyWithin();
        status();
        counts();
        due.close("BagEdgesTest");
    }

    private static void eightBags() {
        due.about(0, "Eight of them, 0 to 7; nothing is in them at first");
        UnreadyLead x = new UnreadyLead();
        for (int b = 0; b < 8; b++) {
            due.same("kind(" + b + ")", x.kind(b), -1);
        }
        due.same("bags in which anything is", x.count(3), 0);
        for (int b = 0; b < 8; b++) {
            due.same("a boot of " + b, x.bag(b, 0, b), 1);
        }
        for (int b = 0; b < 8; b++) {
            due.same("each has its own, " + b, x.wear(b), b);
        }
        due.refuses("bag 8", IllegalArgumentException.class, () -> x.kind(8));
        due.refuses("bag -1", IllegalArgumentException.class, () -> x.kind(-1));
    }

    private static void oneThing() {
        due.about(0, "In one there is one thing at the most");
        UnreadyLead x = new UnreadyLead();
        for (int kind : new int[] {0, 1, 2, 3, 2, 1, 0}) {
            due.same("kind " + kind, x.bag(4, kind, 3), 1);
            due.same("what is there", x.kind(4), kind);
            due.same("in one bag", x.count(3), 1);
        }
        due.same("dropped", x.drop(4), 1);
        due.same("nothing is left", x.drop(4) + x.count(3), 0);
    }

    private static void sizes() {
        due.about(0, "KIND 0 a boot of size n (n: any int)");
        UnreadyLead x = new UnreadyLead();
        for (int n : new int[] {0, 1, -1, 24, 25, LEAST, GREATEST}) {
            due.same("a boot of " + n, x.bag(0, 0, n), 1);
            due.same("its size", x.wear(0), n);
        }
        due.about(0, "2 a towel of n folds, 3 a napkin of n folds (n: any int each)");
        for (int n : new int[] {0, 1, -1, 24, 25, LEAST, GREATEST}) {
            due.same("a towel of " + n, x.bag(0, 2, n), 1);
            due.same("folded", x.fold(0), 2 * n + 1);
            due.same("a napkin of " + n, x.bag(0, 3, n), 1);
            due.same("folded", x.fold(0), n + 1);
        }
    }

    private static void mapsAtFirst() {
        due.about(0, "1 a map of n places (0 to 24), 0 at each at first");
        for (int n : new int[] {0, 1, 2, 23, 24}) {
            UnreadyLead x = new UnreadyLead();
            due.same("a map of " + n, x.bag(7, 1, n), 1);
            for (int i = 0; i < n; i++) {
                due.same("place " + i + " of " + n, x.mark(7, i, i + 5), 0);
            }
            due.refuses("beyond " + n, IndexOutOfBoundsException.class, () -> x.read(7, n));
            due.refuses("below 0", IndexOutOfBoundsException.class, () -> x.read(7, -1));
            due.same("once more", x.bag(7, 1, n), 1);
            for (int i = 0; i < n; i++) {
                due.same("place " + i + " of another one", x.read(7, i), 0);
            }
        }
        // places of a longer map that was there do not come back
        UnreadyLead y = new UnreadyLead();
        y.bag(0, 1, 24);
        y.mark(0, 20, 9);
        y.bag(0, 1, 3);
        y.bag(0, 1, 24);
        due.same("a long one again", y.read(0, 20), 0);
        y.mark(0, 5, 9);
        y.drop(0);
        y.bag(0, 1, 24);
        due.same("a dropped one again", y.read(0, 5), 0);
        y.mark(0, 5, 9);
        y.bag(0, 0, 24);
        y.bag(0, 1, 24);
        due.same("behind a boot", y.read(0, 5), 0);
    }

    private static void cloths() {
        due.about(0, "A towel and a napkin are cloths; a boot and a map are not");
        UnreadyLead x = new UnreadyLead();
        x.bag(0, 0, 1);
        x.bag(1, 1, 1);
        x.bag(2, 2, 1);
        x.bag(3, 3, 1);
        due.refuses("a boot", ClassCastException.class, () -> x.fold(0));
        due.refuses("a map", ClassCastException.class, () -> x.fold(1));
        due.same("a towel", x.fold(2), 3);
        due.same("a napkin", x.fold(3), 2);
    }

    private static void noWork() {
        due.about(0, "BAGS are no WORK: nothing undoes them, no IMAGE keeps them");
        UnreadyLead x = new UnreadyLead();
        x.bag(0, 1, 2);
        x.bag(1, 3, 7);
        x.image();
        Due.work(x, "hour;");
        x.mark(0, 1, 5);
        x.fold(1);
        x.bag(2, 0, 9);
        x.undo();
        due.same("marked, behind undo()", x.read(0, 1), 5);
        due.same("put, behind undo()", x.wear(2), 9);
        x.restore();
        due.same("marked, behind restore()", x.read(0, 1), 5);
        due.same("put, behind restore()", x.wear(2), 9);
        due.same("folded, behind both", x.fold(1), 9);
        x.image();
        x.drop(0);
        x.restore();
        due.same("dropped, behind restore()", x.kind(0), -1);
    }

    private static void another() {
        due.about(0, "another FEDERATION empties them all");
        UnreadyLead x = new UnreadyLead();
        for (int b = 0; b < 8; b++) {
            x.bag(b, b % 4, b);
        }
        due.same("one with a fault", Due.federation(x, "person 1 1;foo"), -9);
        due.same("empties none", x.count(3), 8);
        due.refuses("one that is refused", IllegalArgumentException.class, () -> x.federation(1));
        due.same("empties none either", x.count(3), 8);
        due.same("another", x.federation(0), 0);
        due.same("all are empty", x.count(3), 0);
        for (int b = 0; b < 8; b++) {
            due.same("kind(" + b + ")", x.kind(b), -1);
        }
    }

    private static void put() {
        due.about(37, "A thing of a KIND (0 to 3) by n is in a BAG, whatever was there: 1");
        UnreadyLead x = new UnreadyLead();
        for (int was = 0; was < 4; was++) {
            for (int kind = 0; kind < 4; kind++) {
                x.bag(7, was, 2);
                due.same("kind " + kind + " where " + was + " was", x.bag(7, kind, 3), 1);
                due.same("then", x.kind(7), kind);
            }
        }
        due.about(37, "NegativeArraySizeException: a map of less than 0 (what was there stays)");
        UnreadyLead y = new UnreadyLead();
        for (int n : new int[] {-1, LEAST}) {
            y.drop(0);
            due.refuses("where nothing was", NegativeArraySizeException.class, () -> y.bag(0, 1, n));
            due.same("nothing is", y.kind(0), -1);
            y.bag(0, 1, 2);
            y.mark(0, 1, 6);
            due.refuses("where a map was", NegativeArraySizeException.class, () -> y.bag(0, 1, n));
            due.same("it is", y.read(0, 1), 6);
            y.bag(0, 0, 8);
            due.refuses("where a boot was", NegativeArraySizeException.class, () -> y.bag(0, 1, n));
            due.same("it is, too", y.wear(0), 8);
        }
        due.same("refused", y.status(5), 6);
        due.about(37, "IllegalArgumentException: no such BAG (so below, ahead of others), no such KIND, or a map of more than 24 places");
        for (int n : new int[] {25, GREATEST}) {
            due.refuses("a map of " + n, IllegalArgumentException.class, () -> y.bag(0, 1, n));
            due.same("what was there is", y.wear(0), 8);
        }
        due.same("a boot of more than 24", y.bag(1, 0, 25), 1);
        due.same("a boot of less than 0", y.bag(1, 0, -1), 1);
    }

    private static void drop() {
        due.about(38, "Nothing is in a BAG any more: 1; 0: nothing was");
        UnreadyLead x = new UnreadyLead();
        for (int b : new int[] {0, 7}) {
            due.same("nothing was", x.drop(b), 0);
            for (int kind = 0; kind < 4; kind++) {
                x.bag(b, kind, 0);
                due.same("kind " + kind + " was", x.drop(b), 1);
                due.same("nothing is", x.kind(b), -1);
                due.same("nothing was then", x.drop(b), 0);
            }
        }
        x.bag(3, 0, 1);
        x.bag(4, 0, 2);
        x.drop(3);
        due.same("the other one stays", x.wear(4), 2);
    }

    private static void kinds() {
        due.about(39, "The KIND of what is in a BAG; NONE: nothing is");
        UnreadyLead x = new UnreadyLead();
        due.same("nothing is", x.kind(0), -1);
        for (int kind = 0; kind < 4; kind++) {
            x.bag(0, kind, 0);
            due.same("kind " + kind, x.kind(0), kind);
        }
        x.drop(0);
        due.same("nothing is any more", x.kind(0), -1);
    }

    private static void wear() {
        due.about(40, "The size of the boot in a BAG. NullPointerException: nothing is there; ClassCastException: it is no boot");
        UnreadyLead x = new UnreadyLead();
        due.refuses("nothing", NullPointerException.class, () -> x.wear(7));
        x.bag(7, 0, LEAST);
        due.same("a boot", x.wear(7), LEAST);
        due.same("worn it stays", x.wear(7), LEAST);
        for (int kind = 1; kind < 4; kind++) {
            x.bag(7, kind, 0);
            due.refuses("kind " + kind, ClassCastException.class, () -> x.wear(7));
        }
        x.drop(7);
        due.refuses("nothing any more", NullPointerException.class, () -> x.wear(7));
    }

    private static void fold() {
        due.about(41, "The cloth in a BAG is folded once more (its folds wrap): a towel has twice its folds and 1, a napkin one fold more: how many then");
        int[][] towels = {{0, 1}, {1, 3}, {-1, -1}, {GREATEST, -1}, {1073741823, GREATEST}, {1073741824, LEAST + 1}, {LEAST, 1}, {-1073741825, GREATEST}};
        int[][] napkins = {{0, 1}, {-1, 0}, {GREATEST, LEAST}, {GREATEST - 1, GREATEST}, {LEAST, LEAST + 1}};
        UnreadyLead x = new UnreadyLead();
        for (int[] t : towels) {
            x.bag(0, 2, t[0]);
            due.same("a towel of " + t[0], x.fold(0), t[1]);
        }
        for (int[] n : napkins) {
            x.bag(0, 3, n[0]);
            due.same("a napkin of " + n[0], x.fold(0), n[1]);
        }
        x.bag(1, 2, 0);
        for (int i = 1; i <= 40; i++) {
            due.same("a towel folded " + i + " times", x.fold(1), i < 32 ? (1 << i) - 1 : -1);
        }
        due.about(41, "NullPointerException: nothing is there; ClassCastException: it is no cloth");
        due.refuses("nothing", NullPointerException.class, () -> x.fold(5));
        x.bag(5, 0, 0);
        due.refuses("a boot", ClassCastException.class, () -> x.fold(5));
        due.same("which stays", x.wear(5), 0);
        x.bag(5, 1, 1);
        due.refuses("a map", ClassCastException.class, () -> x.fold(5));
        due.same("which stays, too", x.read(5, 0), 0);
    }

    private static void markAndRead() {
        due.about(42, "A place of the map in a BAG is marked by v: what was there");
        UnreadyLead x = new UnreadyLead();
        x.bag(0, 1, 24);
        x.bag(1, 1, 24);
        for (int place : new int[] {0, 23}) {
            due.same("0 at first", x.mark(0, place, LEAST), 0);
            due.same("then", x.mark(0, place, GREATEST), LEAST);
            due.same("then, too", x.mark(0, place, 7), GREATEST);
            due.same("the other map's", x.read(1, place), 0);
        }
        for (int place = 1; place < 23; place++) {
            due.same("place " + place, x.read(0, place), 0);
        }
        due.about(42, "NullPointerException: nothing is there; then ClassCastException: it is no map; then IndexOutOfBoundsException: it has no such place");
        due.refuses("nothing, no such place", NullPointerException.class, () -> x.mark(2, -1, 0));
        for (int kind : new int[] {0, 2, 3}) {
            x.bag(2, kind, 5);
            due.refuses("kind " + kind + ", a place", ClassCastException.class, () -> x.mark(2, 0, 0));
            due.refuses("kind " + kind + ", no such place", ClassCastException.class, () -> x.mark(2, -1, 0));
        }
        x.bag(2, 1, 3);
        x.bag(3, 1, 24);
        for (int place : new int[] {-1, 3, 23, 24, LEAST, GREATEST}) {
            due.refuses("place " + place + " of 3", IndexOutOfBoundsException.class, () -> x.mark(2, place, 9));
        }
        for (int place = 0; place < 24; place++) {
            due.same("the next map's", x.read(3, place), 0);
        }
        due.same("the last place", x.mark(2, 2, 9), 0);
        due.about(43, "What is at a place of the map in a BAG (exceptions as for mark())");
        due.same("the first place", x.read(0, 0), 7);
        due.same("the last place", x.read(0, 23), 7);
        due.same("read it stays", x.read(0, 23), 7);
        for (int place : new int[] {-1, 3, 24, LEAST, GREATEST}) {
            due.refuses("place " + place + " of 3", IndexOutOfBoundsException.class, () -> x.read(2, place));
        }
        x.bag(2, 1, 0);
        due.refuses("place 0 of none", IndexOutOfBoundsException.class, () -> x.read(2, 0));
        x.bag(2, 2, 5);
        due.refuses("of a towel", ClassCastException.class, () -> x.read(2, 0));
        due.refuses("of a towel, no such place", ClassCastException.class, () -> x.read(2, 99));
        due.refuses("of nothing, no such place", NullPointerException.class, () -> x.read(7, 99));
    }

    /** Bag 0: a map of 5 by 10 to 14; bag 1: one of 3; bag 2: a boot; bag 3: a napkin; bags 4 to 7: nothing. */
    private static UnreadyLead maps() {
        UnreadyLead x = new UnreadyLead();
        x.bag(0, 1, 5);
        x.bag(1, 1, 3);
        x.bag(2, 0, 9);
        x.bag(3, 3, 9);
        for (int i = 0; i < 5; i++) {
            x.mark(0, i, 10 + i);
        }
        return x;
    }

    private static void copy() {
        due.about(44, "n places of the map in a BAG, from one on, come to the map in another BAG (or the same one: as they were), from one on: n");
        UnreadyLead x = maps();
        due.same("three, the last ones", x.copy(0, 2, 1, 0, 3), 3);
        due.same("there", x.read(1, 0) * 10000 + x.read(1, 1) * 100 + x.read(1, 2), 121314);
        due.same("one, the first to the last", x.copy(0, 0, 1, 2, 1), 1);
        due.same("there then", x.read(1, 0) * 10000 + x.read(1, 1) * 100 + x.read(1, 2), 121310);
        for (int i = 0; i < 5; i++) {
            due.same("from where they came, " + i, x.read(0, i), 10 + i);
        }
        due.about(44, "(of 3 places, 0 from place 3 on can be copied, from 4 on not)");
        due.same("0 from 3", x.copy(1, 3, 0, 0, 0), 0);
        due.refuses("0 from 4", IndexOutOfBoundsException.class, () -> x.copy(1, 4, 0, 0, 0));
        due.same("0 to 3", x.copy(0, 0, 1, 3, 0), 0);
        due.refuses("0 to 4", IndexOutOfBoundsException.class, () -> x.copy(0, 0, 1, 4, 0));
        due.same("0 from the end to the end of itself", x.copy(1, 3, 1, 3, 0), 0);
        UnreadyLead y = maps();
        y.bag(1, 1, 0);
        due.same("0 to a map of none", y.copy(0, 5, 1, 0, 0), 0);
        due.refuses("1 to a map of none", IndexOutOfBoundsException.class, () -> y.copy(0, 0, 1, 0, 1));
        due.about(44, "IndexOutOfBoundsException: n or a place is below 0, or a place and n together are more than its map has");
        int[][] outside = {{0, 0, 1, 0, -1}, {0, -1, 1, 0, 1}, {0, 0, 1, -1, 1}, {0, -1, 1, 0, 0}, {0, 0, 1, -1, 0}, {0, -1, 1, -1, 2},
            {0, 3, 1, 0, 3}, {0, 0, 1, 1, 3}, {0, 0, 1, 0, 4}, {0, 5, 1, 0, 1}, {0, 0, 1, 3, 1}, {1, 1, 0, 0, 3}, {1, 0, 0, 3, 3},
            {0, GREATEST, 1, 0, 1}, {0, 1, 1, 0, GREATEST}, {0, GREATEST, 1, 0, GREATEST}, {0, 0, 1, GREATEST, 1}, {0, 0, 1, 1, GREATEST},
            {0, LEAST, 1, 0, 1}, {0, 0, 1, LEAST, 1}, {0, 0, 1, 0, LEAST}, {0, 0, 0, 1, 5}, {0, 1, 0, 0, 5}};
        due.about(44, "nothing is copied");
        for (int[] o : outside) {
            UnreadyLead z = maps();
            due.refuses("copy " + java.util.Arrays.toString(o), IndexOutOfBoundsException.class, () -> z.copy(o[0], o[1], o[2], o[3], o[4]));
            due.same("all behind it", Probe.of(z), Probe.of(maps()));
        }
        copyOrder();
    }

    private static void copyOrder() {
        due.about(44, "NullPointerException: nothing is in one of them; then ClassCastException: one is no map; then IndexOutOfBoundsException");
        UnreadyLead x = maps();
        for (int bag : new int[] {0, 2, 3, 4}) {
            due.refuses("from nothing to " + bag, NullPointerException.class, () -> x.copy(4, -1, bag, -1, -1));
            due.refuses("to nothing from " + bag, NullPointerException.class, () -> x.copy(bag, -1, 4, -1, -1));
        }
        for (int bag : new int[] {2, 3}) {
            due.refuses("from " + bag + " to a map", ClassCastException.class, () -> x.copy(bag, -1, 0, -1, -1));
            due.refuses("to " + bag + " from a map", ClassCastException.class, () -> x.copy(0, -1, bag, -1, -1));
            due.refuses("within " + bag, ClassCastException.class, () -> x.copy(bag, 0, bag, 0, 0));
            due.refuses("no places of " + bag, ClassCastException.class, () -> x.copy(bag, 0, 0, 0, 0));
        }
        due.same("refused", x.status(2) * 100 + x.status(3) * 10 + x.status(4), 880);
        due.about(44, "n places of the map in a BAG");
        due.refuses("from bag 8 to nothing", IllegalArgumentException.class, () -> x.copy(8, -1, 4, -1, -1));
        due.refuses("to bag 8 from nothing", IllegalArgumentException.class, () -> x.copy(4, -1, 8, -1, -1));
        due.refuses("from bag -1 to a boot", IllegalArgumentException.class, () -> x.copy(-1, -1, 2, -1, -1));
        due.refuses("to bag -1 from a boot", IllegalArgumentException.class, () -> x.copy(2, -1, -1, -1, -1));
        due.same("one refusal each", x.status(1) * 1000 + x.status(2) * 100 + x.status(3) * 10 + x.status(4), 4880);
    }

    private static void copyWithin() {
        due.about(44, "(or the same one: as they were)");
        int[][] ways = {{0, 1, 4}, {1, 0, 4}, {0, 2, 3}, {2, 0, 3}, {0, 0, 5}, {0, 4, 1}, {4, 0, 1}, {1, 2, 3}, {2, 1, 3}, {5, 0, 0}};
        for (int[] w : ways) {
            UnreadyLead x = maps();
            int[] want = {10, 11, 12, 13, 14};
            int[] was = want.clone();
            for (int i = 0; i < w[2]; i++) {
                want[w[1] + i] = was[w[0] + i];
            }
            due.same("copy " + java.util.Arrays.toString(w), x.copy(0, w[0], 0, w[1], w[2]), w[2]);
            for (int i = 0; i < 5; i++) {
                due.same("place " + i + " by " + java.util.Arrays.toString(w), x.read(0, i), want[i]);
            }
        }
    }

    private static void status() {
        due.about(47, "NONE for others");
        UnreadyLead x = new UnreadyLead();
        for (int what : new int[] {-1, 6, LEAST, GREATEST}) {
            due.same("status(" + what + ")", x.status(what), -1);
        }
        for (int what = 0; what < 6; what++) {
            due.same("status(" + what + ")", x.status(what), 0);
        }
        due.about(47, "(No IMAGE keeps it.)");
        x.image();
        due.refuses("a refused call", IllegalArgumentException.class, () -> x.told(12));
        due.same("counted", x.status(1), 1);
        x.restore();
        due.same("behind restore()", x.status(1), 1);
        Due.work(x, "hour;");
        due.refuses("another one", IllegalArgumentException.class, () -> x.told(12));
        x.undo();
        due.same("behind undo()", x.status(1), 2);
    }

    private static void counts() {
        due.about(48, "0 IMAGES, 1 bytes of the TAPE, 2 WORKS that can be undone, 3 BAGS in which anything is; NONE for others");
        UnreadyLead x = Due.of("person 1 1;");
        for (int what : new int[] {-1, 4, LEAST, GREATEST}) {
            due.same("count(" + what + ")", x.count(what), -1);
        }
        for (int what = 0; what < 4; what++) {
            due.same("count(" + what + ")", x.count(what), 0);
        }
        for (int i = 1; i <= 3; i++) {
            x.image();
            due.same("images", x.count(0), i);
        }
        for (int i = 1; i <= 16; i++) {
            Due.work(x, "");
            due.same("works", x.count(2), i);
        }
        for (int i = 1; i <= 30; i++) {
            x.feed(0, 0, 0, 0, 0);
            due.same("bytes", x.count(1), 20 * i);
        }
        for (int b = 0; b < 8; b++) {
            x.bag(b, b % 4, 0);
            due.same("bags", x.count(3), b + 1);
        }
        for (int what = 0; what < 4; what++) {
            due.same("the most of " + what, x.count(what), new int[] {3, 600, 16, 8}[what]);
        }
        due.same("no call was refused", x.status(1), 0);
    }
}
