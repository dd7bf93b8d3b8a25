import java.nio.charset.StandardCharsets;

/** What is due, and how often something else came; and short ways to feed texts. */
final class Due {
    interface Call {
        long go();
    }

    private int asked = 0;
    private int wrong = 0;
    private String about = "";

    /** What is asked from here on is about these words of a promise (0: of the terms), which must stand there. */
    void about(int promise, String words) {
        asked++;
        about = (promise == 0 ? "terms" : "promise " + promise) + ", \"" + words + "\": ";
        if (!Doc.says(promise, words)) {
            fails("the document does not say so");
        }
    }

    private void fails(String what) {
        wrong++;
        System.out.println(about + what);
    }

    void same(String call, long got, long want) {
        asked++;
        if (got != want) {
            fails(call + " answered " + got + ", due is " + want);
        }
    }

    void same(String call, Object got, Object want) {
        asked++;
        if (!got.equals(want)) {
            fails(call + " answered " + got + ", due is " + want);
        }
    }

    /** A text's answer, and the place of its fault, -1 without. */
    void reads(String text, UnreadyLead x, int answer, int want, int place) {
        same("\"" + text + "\"", answer, want);
        same("fault() behind \"" + text + "\"", x.fault(), place);
    }

    void refuses(String call, Class<? extends RuntimeException> want, Call run) {
        asked++;
        String got;
        try {
            got = "" + run.go();
        } catch (RuntimeException e) {
            if (e.getClass() == want) {
                return;
            }
            got = e.toString();
        }
        fails(call + " answered " + got + ", due is " + want.getName());
    }

    /** Ends the program: with 1 if anything was wrong. */
    void close(String name) {
        System.out.println(name + ": " + asked + " asked, " + wrong + " wrong");
        if (wrong != 0 || asked == 0) {
            System.exit(1);
        }
    }

    /** The numbers by which a text comes on the tape, five a row, with zeros behind the text. */
    static int[][] rows(String text) {
        byte[] bytes = text.getBytes(StandardCharsets.ISO_8859_1);
        int[][] rows = new int[(bytes.length + 19) / 20][5];
        for (int i = 0; i < bytes.length; i++) {
            rows[i / 20][i % 20 / 4] |= (bytes[i] & 255) << 24 - 8 * (i % 4);
        }
        return rows;
    }

    static int put(UnreadyLead x, String text) {
        for (int[] r : rows(text)) {
            x.feed(r[0], r[1], r[2], r[3], r[4]);
        }
        return text.length();
    }

    static int federation(UnreadyLead x, String text) {
        return x.federation(put(x, text));
    }

    static int law(UnreadyLead x, String text) {
        return x.law(put(x, text));
    }

    static int work(UnreadyLead x, String text) {
        return x.work(put(x, text));
    }

    static int book(UnreadyLead x, String text) {
        return x.book(put(x, text));
    }

    static UnreadyLead of(String federation) {
        UnreadyLead x = new UnreadyLead();
        federation(x, federation);
        return x;
    }
}
