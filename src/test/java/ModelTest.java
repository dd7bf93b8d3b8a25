import java.util.Random;

/** Long runs of made-up calls, each answer compared with the model's. */
public final class ModelTest {
    private static final int RUNS = 1500;
    private static final int CALLS = 512;

    private final Random random;
    private final UnreadyLead x = new UnreadyLead();
    private final Model m = new Model();
    private final StringBuilder log = new StringBuilder();
    private int persons = 0;
    private int tasks = 0;
    private int wrong = 0;

    private ModelTest(long seed) {
        random = new Random(seed);
    }

    public static void main(String[] args) {
        int wrong = 0;
        for (int i = 0; i < RUNS && wrong == 0; i++) {
            wrong += new ModelTest(i).run(i);
        }
        System.out.println("ModelTest: " + RUNS + " runs, " + wrong + " wrong");
        if (wrong != 0) {
            System.exit(1);
        }
    }

    private int run(int number) {
        int calls = 0;
        while (calls < CALLS && wrong == 0) {
            calls += random.nextInt(4) == 0 ? aText() : aCall();
        }
        if (wrong != 0) {
            System.out.println("run " + number + ":\n" + log);
        }
        return wrong;
    }

    private static String answer(Due.Call call) {
        try {
            return "" + call.go();
        } catch (RuntimeException e) {
            return e.getClass().getSimpleName();
        }
    }

    private String both(String name, Due.Call mine, Due.Call models) {
        String got = answer(mine);
        String want = answer(models);
        log.append(name).append(" ").append(got).append('\n');
        if (!got.equals(want)) {
            wrong++;
            log.append("  due is ").append(want).append('\n');
        }
        return got;
    }

    private int pick(int least, int most) {
        return least + random.nextInt(most - least + 1);
    }

    private boolean chance(int of) {
        return random.nextInt(of) == 0;
    }

    /** Mostly within, at times just outside, now and then far outside. */
    private int near(int least, int most) {
        if (chance(60)) {
            return chance(2) ? Integer.MAX_VALUE : Integer.MIN_VALUE;
        }
        if (chance(20)) {
            return chance(2) ? least - 1 : most + 1;
        }
        return most < least ? least : pick(least, most);
    }

    // ---- texts

    private String gap() {
        return chance(6) ? " ".repeat(pick(1, 3)) : "";
    }

    private String number(int least, int most) {
        String zeros = chance(30) ? "0".repeat(pick(1, 12)) : "";
        if (chance(60)) {
            return "4294967296";
        }
        return zeros + Math.max(0, chance(40) ? (chance(2) ? least - 1 : most + 1) : pick(least, Math.max(least, most)));
    }

    private String spoiled(String text, int often) {
        if (text.isEmpty() || !chance(often)) {
            return text;
        }
        int i = random.nextInt(text.length());
        String signs = ";[](),+-*/% 0159azqe\u0000\u00ff\t";
        char c = signs.charAt(random.nextInt(signs.length()));
        switch (random.nextInt(4)) {
            case 0: return text.substring(0, i);
            case 1: return text.substring(0, i) + text.substring(i + 1);
            case 2: return text.substring(0, i) + c + text.substring(i + 1);
            default: return text.substring(0, i) + c + text.substring(i);
        }
    }

    private String aFederation() {
        StringBuilder b = new StringBuilder();
        int p = chance(12) ? 0 : chance(12) ? 9 : pick(1, 8);
        int t = chance(12) ? 0 : chance(12) ? 7 : pick(1, 6);
        int packs = chance(20) ? pick(40, 60) : pick(0, 3);
        int told = 0;
        while (p + t + packs > 0) {
            int i = random.nextInt(p + t + packs);
            if (i < p) {
                b.append("person ").append(number(0, 9)).append(' ').append(gap()).append(number(0, 9));
                p--;
                told++;
            } else if (i < p + t) {
                b.append("task").append(chance(9) ? "" : " ").append(number(1, chance(2) ? 200 : 30));
                t--;
            } else {
                packs--;
                if (told == 0 && !chance(30)) {
                    continue;
                }
                b.append("pack").append(gap()).append(number(0, told - 1));
            }
            b.append(gap()).append(';').append(gap());
        }
        return cut(spoiled(b.toString(), 12), 600);
    }

    private static String cut(String text, int most) {
        return text.length() > most ? text.substring(0, most) : text;
    }

    private String expression(int depth) {
        StringBuilder b = new StringBuilder();
        int parts = chance(3) ? 1 : pick(1, 3);
        for (int i = 0; i < parts; i++) {
            b.append(i == 0 ? "" : gap() + "+-*/%*+-".charAt(random.nextInt(8)) + gap()).append(part(depth));
        }
        return b.toString();
    }

    private String part(int depth) {
        int kind = random.nextInt(depth > 0 ? 10 : 7);
        if (kind < 2) {
            return number(0, chance(3) ? 999 : 12);
        }
        if (kind < 7) {
            return new String[] {"ready", "boots", "packed", "feint", "hour", "day", "led", "person"}[random.nextInt(8)];
        }
        if (kind == 7) {
            return "(" + gap() + expression(depth - 1) + gap() + ")";
        }
        return (kind == 8 ? "least" : "most") + gap() + "[" + expression(depth - 1) + gap() + "," + expression(depth - 1) + "]";
    }

    private String aLaw() {
        if (chance(12)) {
            int n = pick(5, 8);
            return "(".repeat(n) + expression(0) + ")".repeat(n);
        }
        if (chance(8)) {
            return spoiled("ready * 5 + boots * 11 - led * 7 + (day + hour) % 9", 9);
        }
        String law = expression(pick(0, 4));
        for (int i = 0; i < 20 && law.length() > 150; i++) {
            law = expression(2);
        }
        return cut(spoiled(law, 9), 150);
    }

    private String steps(int depth, int room) {
        StringBuilder b = new StringBuilder();
        while (b.length() < room && !chance(9)) {
            int kind = random.nextInt(depth > 0 ? 16 : 14);
            if (kind < 5) {
                b.append(new String[] {"boot", "bare", "pack", "feint", "sit"}[kind]).append(gap()).append(number(0, persons - 1));
            } else if (kind < 10) {
                b.append("come ").append(number(0, tasks - 1));
            } else if (kind < 14) {
                b.append("hour");
            } else {
                b.append("again").append(gap()).append(chance(9) ? number(0, 60) : "" + pick(0, 6)).append(gap()).append('[')
                    .append(steps(depth - 1, room / 2)).append(gap()).append(']');
            }
            b.append(gap()).append(';').append(gap());
        }
        return b.toString();
    }

    private String aWork() {
        if (chance(10)) {
            return "again 60 [again 60 [hour;];];";
        }
        if (chance(12)) {
            int n = pick(5, 7);
            return "again 2 [".repeat(n) + "hour;" + "];".repeat(n);
        }
        return cut(spoiled(steps(pick(0, 4), pick(0, 110)), 10), 150);
    }

    private String aBook() {
        StringBuilder b = new StringBuilder();
        int hour = random.nextInt(24);
        for (int p = 0; p < persons; p++) {
            if (chance(3)) {
                int level = chance(6) ? pick(0, 99) : x.readiness(p, hour);
                b.append(p).append(' ').append(gap()).append(chance(30) ? number(0, 99) : "" + level).append(gap()).append(';');
            }
        }
        if (chance(12)) {
            b.append(number(0, persons)).append(" 1;");
        }
        return cut(spoiled(b.toString(), 12), 60);
    }

    private int aText() {
        int kind = random.nextInt(20);
        String text = kind == 0 || persons == 0 ? aFederation() : kind < 4 ? aLaw() : kind < 15 ? aWork() : aBook();
        boolean federation = kind == 0 || persons == 0;
        int calls = 2;
        for (int[] r : Due.rows(text)) {
            both("feed " + text, () -> x.feed(r[0], r[1], r[2], r[3], r[4]), () -> m.feed(r));
            calls++;
        }
        int n = chance(25) ? near(0, 600) : x.count(1) == 0 ? 0 : Math.min(text.length(), x.count(1));
        if (federation) {
            both("federation " + n, () -> x.federation(n), () -> m.federation(n));
            persons = x.told(0);
            tasks = x.told(1);
        } else if (kind < 4) {
            both("law " + n, () -> x.law(n), () -> m.law(n));
        } else if (kind < 15) {
            both("work " + n, () -> x.work(n), () -> m.work(n));
        } else {
            both("book " + n, () -> x.book(n), () -> m.book(n));
        }
        both("fault", x::fault, m::fault);
        return calls;
    }

    // ---- other calls

    private int bits(int many) {
        return chance(20) ? 1 << many : chance(40) ? random.nextInt() : random.nextInt(1 << many);
    }

    private int aCall() {
        int kind = random.nextInt(4);
        if (kind == 0) {
            aBagCall();
        } else if (kind == 1) {
            aRareCall();
        } else {
            aQuestion();
        }
        return 1;
    }

    private void aRareCall() {
        int a = near(0, 11);
        int b = near(0, 6);
        switch (random.nextInt(14)) {
            case 0: both("undo", x::undo, m::undo); break;
            case 1: both("image", x::image, m::image); break;
            case 2: both("restore", x::restore, m::restore); break;
            case 3: case 4: both("status " + b, () -> x.status(b), () -> m.status(b)); break;
            case 5: case 6: both("count " + b, () -> x.count(b), () -> m.count(b)); break;
            case 7: case 8: both("told " + a, () -> x.told(a), () -> m.told(a)); break;
            case 9: numbersAlone(); break;
            case 10: decades(); break;
            case 11:
                int[] r = {random.nextInt(), random.nextInt(), random.nextInt(), random.nextInt(), random.nextInt()};
                if (chance(4)) {
                    both("feed noise", () -> x.feed(r[0], r[1], r[2], r[3], r[4]), () -> m.feed(r));
                }
                break;
            default: soups();
        }
    }

    private void numbersAlone() {
        int v = near(0, 99);
        int w = near(0, chance(2) ? 99 : 9);
        int what = near(0, 2);
        both("waiters " + v + " " + w + " " + what, () -> x.waiters(v, w, what), () -> m.waiters(v, w, what));
        int n = near(0, 12);
        int k = near(0, 13);
        int q = near(0, 16);
        int part = near(0, 1);
        both("found " + n + " " + k + " " + q + " " + part, () -> x.found(n, k, q, part), () -> m.found(n, k, q, part));
        int[] g = {near(0, 9), near(0, 2), near(0, 1), near(0, 1), near(0, 23), near(0, 400), near(0, 999), near(0, 7)};
        both("would " + java.util.Arrays.toString(g), () -> x.would(g[0], g[1], g[2], g[3], g[4], g[5], g[6], g[7]),
            () -> m.would(g[0], g[1], g[2], g[3], g[4], g[5], g[6], g[7]));
    }

    private void decades() {
        int seed = random.nextInt();
        int hours = near(1, 96);
        int q = near(0, 16);
        int what = near(0, 3);
        both("decade " + seed + " " + hours + " " + q + " " + what, () -> x.decade(seed, hours, q, what),
            () -> m.decade(seed, hours, q, what));
        int many = near(1, chance(9) ? 20 : 4);
        int other = near(0, 2);
        int p = near(0, persons - 1);
        both("span " + seed + " " + many + " " + hours + " " + q + " " + other + " " + p,
            () -> x.span(seed, many, hours, q, other, p), () -> m.span(seed, many, hours, q, other, p));
    }

    private void soups() {
        int p = near(0, persons - 1);
        int bits = bits(persons);
        int n = near(0, chance(9) ? 9999 : 300);
        both("soup " + p + " " + bits + " " + n, () -> x.soup(p, bits, n), () -> m.soup(p, bits, n));
    }

    private void aQuestion() {
        int p = near(0, persons - 1);
        int t = near(0, tasks - 1);
        int what = near(0, 1);
        int bits = bits(tasks);
        int h = near(0, 23);
        switch (random.nextInt(25)) {
            case 0: int w = near(0, 7); both("person " + p + " " + w, () -> x.person(p, w), () -> m.person(p, w)); break;
            case 1: int v = near(0, 2); both("task " + t + " " + v, () -> x.task(t, v), () -> m.task(t, v)); break;
            case 2: both("readiness " + p + " " + h, () -> x.readiness(p, h), () -> m.readiness(p, h)); break;
            case 3: both("caught", x::caught, m::caught); break;
            case 4: both("next " + p, () -> x.next(p), () -> m.next(p)); break;
            case 5: both("hours " + p, () -> x.hours(p), () -> m.hours(p)); break;
            case 6: both("waits " + p, () -> x.waits(p), () -> m.waits(p)); break;
            case 7: both("ends " + t, () -> x.ends(t), () -> m.ends(t)); break;
            case 8: both("plan " + bits, () -> x.plan(bits), () -> m.plan(bits)); break;
            case 9: both("gives " + t + " " + bits, () -> x.gives(t, bits), () -> m.gives(t, bits)); break;
            case 10:
                int n = near(0, chance(3) ? 500 : 20);
                int a = near(0, 2);
                both("ahead " + n + " " + a, () -> x.ahead(n, a), () -> m.ahead(n, a));
                break;
            case 11: both("fits", x::fits, m::fits); break;
            case 12: case 13: both("look " + what, () -> x.look(what), () -> m.look(what)); break;
            case 14: both("readiest " + what, () -> x.readiest(what), () -> m.readiest(what)); break;
            case 15: both("open", x::open, m::open); break;
            case 16: both("left " + bits, () -> x.left(bits), () -> m.left(bits)); break;
            case 17: both("alike " + p, () -> x.alike(p), () -> m.alike(p)); break;
            case 18: both("busy " + p, () -> x.busy(p), () -> m.busy(p)); break;
            case 19: both("rank " + p, () -> x.rank(p), () -> m.rank(p)); break;
            case 20: both("fresh", x::fresh, m::fresh); break;
            case 21: both("quickest " + what, () -> x.quickest(what), () -> m.quickest(what)); break;
            default: int u = near(0, 11); both("told " + u, () -> x.told(u), () -> m.told(u));
        }
    }

    private void aBagCall() {
        int b = near(0, 7);
        int place = near(0, chance(2) ? 4 : 24);
        int any = chance(3) ? random.nextInt() : pick(-3, 30);
        switch (random.nextInt(10)) {
            case 0: case 1:
                int kind = chance(2) ? 1 : near(0, 3);
                both("bag " + b + " " + kind + " " + any, () -> x.bag(b, kind, any), () -> m.bag(b, kind, any));
                break;
            case 2: if (chance(3)) both("drop " + b, () -> x.drop(b), () -> m.drop(b)); break;
            case 3: both("kind " + b, () -> x.kind(b), () -> m.kind(b)); break;
            case 4: both("wear " + b, () -> x.wear(b), () -> m.wear(b)); break;
            case 5: both("fold " + b, () -> x.fold(b), () -> m.fold(b)); break;
            case 6: both("mark " + b + " " + place, () -> x.mark(b, place, any), () -> m.mark(b, place, any)); break;
            case 7: both("read " + b + " " + place, () -> x.read(b, place), () -> m.read(b, place)); break;
            default:
                int c = chance(3) ? b : near(0, 7);
                int at = near(0, 9);
                int n = near(0, 6);
                both("copy " + b + " " + place + " " + c + " " + at + " " + n, () -> x.copy(b, place, c, at, n),
                    () -> m.copy(b, place, c, at, n));
        }
    }
}
