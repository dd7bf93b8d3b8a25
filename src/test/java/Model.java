import java.math.BigInteger;
import java.util.ArrayDeque;
import java.util.ArrayList;
import java.util.Arrays;
import java.util.Collections;
import java.util.Deque;
import java.util.HashSet;
import java.util.List;
import java.util.NoSuchElementException;
import java.util.Set;
import java.util.TreeMap;
import java.util.function.ToIntFunction;

/** The document once more, written with the whole library and without a thought for room: an answer to compare with. */
final class Model {
    static final class Bad extends Exception {
        private static final long serialVersionUID = 1L;
        final int kind;
        final int place;

        Bad(int kind, int place) {
            this.kind = kind;
            this.place = place;
        }
    }

    record Token(char type, String text, int place) {
    }

    record Names(int ready, int boots, int packed, int feint, int hour, int day, int led, int person) {
    }

    record Step(String word, int number, List<Step> inner) {
    }

    static final class Days {
        int day;
        int hour;
        int comings;
        boolean[] packed = new boolean[8];
        boolean[] feint = new boolean[8];
        int[] boots = new int[8];
        int[] led = new int[8];
        int[] leader = {-1, -1, -1, -1, -1, -1};
        int[] done = new int[6];

        Days twin() {
            Days d = new Days();
            d.day = day;
            d.hour = hour;
            d.comings = comings;
            d.packed = packed.clone();
            d.feint = feint.clone();
            d.boots = boots.clone();
            d.led = led.clone();
            d.leader = leader.clone();
            d.done = done.clone();
            return d;
        }

        int leads(int p) {
            for (int t = 0; t < 6; t++) {
                if (leader[t] == p) {
                    return t;
                }
            }
            return -1;
        }
    }

    record Image(Days days, List<Days> works) {
    }

    private byte[] tape = new byte[0];
    private int faultAt = -1;
    private List<int[]> persons = new ArrayList<>();
    private List<Integer> tasks = new ArrayList<>();
    private ToIntFunction<Names> law = plainLaw();
    private TreeMap<Integer, Integer> book = new TreeMap<>();
    private Days now = new Days();
    private Deque<Days> works = new ArrayDeque<>();
    private Deque<Image> images = new ArrayDeque<>();
    private int refusedSteps = 0;
    private final Object[] bags = new Object[8];
    private final int[] refused = new int[6];

    static ToIntFunction<Names> plainLaw() {
        return n -> n.ready * 3 + n.boots * 20 + n.packed * 40 + n.feint * 9;
    }

    // ---- things in bags

    static final class Boot {
        int size;
    }

    static class Cloth {
        int folds;
    }

    static final class Towel extends Cloth {
    }

    static final class Napkin extends Cloth {
    }

    // ---- tokens

    static final class Reader {
        final List<Token> tokens = new ArrayList<>();
        final int length;
        int k = 0;
        int open = 0;

        Reader(String text) {
            length = text.length();
            int i = 0;
            while (i < length) {
                int j = i;
                char c = text.charAt(i);
                if (c == ' ') {
                    i++;
                    continue;
                }
                while (j < length && text.charAt(j) >= 'a' && text.charAt(j) <= 'z') {
                    j++;
                }
                if (j == i) {
                    while (j < length && text.charAt(j) >= '0' && text.charAt(j) <= '9') {
                        j++;
                    }
                    if (j > i) {
                        tokens.add(new Token('9', text.substring(i, j), i));
                    } else {
                        j = i + 1;
                        tokens.add(new Token('!', text.substring(i, j), i));
                    }
                } else {
                    tokens.add(new Token('a', text.substring(i, j), i));
                }
                i = j;
            }
        }

        boolean more() {
            return k < tokens.size();
        }

        int place() {
            return more() ? tokens.get(k).place : length;
        }

        boolean is(String text) {
            return more() && tokens.get(k).text.equals(text);
        }

        Token take(char type) throws Bad {
            if (!more() || tokens.get(k).type != type) {
                throw new Bad(1, place());
            }
            return tokens.get(k++);
        }

        void sign(String sign) throws Bad {
            if (!is(sign)) {
                throw new Bad(1, place());
            }
            k++;
        }

        int number(int least, int most) throws Bad {
            Token t = take('9');
            BigInteger n = new BigInteger(t.text);
            if (n.compareTo(BigInteger.valueOf(least)) < 0 || n.compareTo(BigInteger.valueOf(most)) > 0) {
                throw new Bad(2, t.place);
            }
            return n.intValue();
        }

        void openOne(int place) throws Bad {
            if (++open == 7) {
                throw new Bad(3, place);
            }
        }
    }

    private static ToIntFunction<Names> sum(Reader r) throws Bad {
        ToIntFunction<Names> a = product(r);
        while (r.is("+") || r.is("-")) {
            boolean plus = r.take('!').text.equals("+");
            ToIntFunction<Names> x = a;
            ToIntFunction<Names> y = product(r);
            a = plus ? n -> x.applyAsInt(n) + y.applyAsInt(n) : n -> x.applyAsInt(n) - y.applyAsInt(n);
        }
        return a;
    }

    private static ToIntFunction<Names> product(Reader r) throws Bad {
        ToIntFunction<Names> a = part(r);
        while (r.is("*") || r.is("/") || r.is("%")) {
            char sign = r.take('!').text.charAt(0);
            ToIntFunction<Names> x = a;
            ToIntFunction<Names> y = part(r);
            a = n -> {
                long u = x.applyAsInt(n);
                long v = y.applyAsInt(n);
                return (int) (sign == '*' ? u * v : v == 0 ? 0 : sign == '/' ? u / v : u % v);
            };
        }
        return a;
    }

    private static ToIntFunction<Names> part(Reader r) throws Bad {
        if (!r.more()) {
            throw new Bad(1, r.length);
        }
        if (r.tokens.get(r.k).type == '9') {
            int v = r.number(0, 999);
            return n -> v;
        }
        if (r.is("(")) {
            r.openOne(r.place());
            r.sign("(");
            ToIntFunction<Names> a = sum(r);
            r.sign(")");
            r.open--;
            return a;
        }
        Token t = r.take('a');
        switch (t.text) {
            case "ready": return Names::ready;
            case "boots": return Names::boots;
            case "packed": return Names::packed;
            case "feint": return Names::feint;
            case "hour": return Names::hour;
            case "day": return Names::day;
            case "led": return Names::led;
            case "person": return Names::person;
            case "least":
            case "most":
                r.openOne(t.place);
                r.sign("[");
                ToIntFunction<Names> a = sum(r);
                r.sign(",");
                ToIntFunction<Names> b = sum(r);
                r.sign("]");
                r.open--;
                return t.text.equals("least")
                    ? n -> Math.min(a.applyAsInt(n), b.applyAsInt(n)) : n -> Math.max(a.applyAsInt(n), b.applyAsInt(n));
            default:
                throw new Bad(1, t.place);
        }
    }

    private List<Step> steps(Reader r, boolean inside) throws Bad {
        List<Step> list = new ArrayList<>();
        while (inside ? !r.is("]") : r.more()) {
            Token t = r.take('a');
            switch (t.text) {
                case "boot":
                case "bare":
                case "pack":
                case "feint":
                case "sit":
                    list.add(new Step(t.text, r.number(0, persons.size() - 1), null));
                    break;
                case "come":
                    list.add(new Step(t.text, r.number(0, tasks.size() - 1), null));
                    break;
                case "hour":
                    list.add(new Step(t.text, 0, null));
                    break;
                case "again":
                    r.openOne(t.place);
                    int n = r.number(0, 60);
                    r.sign("[");
                    List<Step> inner = steps(r, true);
                    r.sign("]");
                    r.open--;
                    list.add(new Step(t.text, n, inner));
                    break;
                default:
                    throw new Bad(1, t.place);
            }
            r.sign(";");
        }
        return list;
    }

    // ---- the face

    int feed(int... five) {
        if (tape.length + 20 > 600) {
            return -1;
        }
        int from = tape.length;
        tape = Arrays.copyOf(tape, from + 20);
        java.nio.ByteBuffer b = java.nio.ByteBuffer.wrap(tape, from, 20);
        for (int v : five) {
            b.putInt(v);
        }
        return tape.length;
    }

    private String text(int n, int most) {
        fine(n >= 0 && n <= tape.length && n <= most);
        String s = new String(tape, 0, n, java.nio.charset.StandardCharsets.ISO_8859_1);
        tape = new byte[0];
        faultAt = -1;
        return s;
    }

    private int faulty(Bad b) {
        faultAt = b.place;
        return b.kind - 10;
    }

    int federation(int n) {
        Reader r = new Reader(text(n, 600));
        List<int[]> ps = new ArrayList<>();
        List<Integer> ts = new ArrayList<>();
        Set<Integer> packs = new HashSet<>();
        try {
            for (int clauses = 1; r.more(); clauses++) {
                Token t = r.take('a');
                if (!List.of("person", "task", "pack").contains(t.text)) {
                    throw new Bad(1, t.place);
                }
                if (clauses > 60 || t.text.equals("person") && ps.size() == 8 || t.text.equals("task") && ts.size() == 6) {
                    throw new Bad(3, t.place);
                }
                if (t.text.equals("person")) {
                    ps.add(new int[] {r.number(0, 9), r.number(0, 9)});
                } else if (t.text.equals("task")) {
                    ts.add(r.number(1, 200));
                } else {
                    packs.add(r.number(0, ps.size() - 1));
                }
                r.sign(";");
            }
        } catch (Bad b) {
            return faulty(b);
        }
        persons = ps;
        tasks = ts;
        law = plainLaw();
        book.clear();
        works.clear();
        images.clear();
        refusedSteps = 0;
        Arrays.fill(bags, null);
        now = new Days();
        for (int p : packs) {
            now.packed[p] = true;
        }
        return ps.size();
    }

    int law(int n) {
        Reader r = new Reader(text(n, 150));
        try {
            ToIntFunction<Names> a = sum(r);
            if (r.more()) {
                throw new Bad(1, r.place());
            }
            law = a;
            return 1;
        } catch (Bad b) {
            return faulty(b);
        }
    }

    private int begun;
    private int finished;

    int work(int n) {
        String s = text(n, 150);
        if (works.size() == 16) {
            return -20;
        }
        try {
            List<Step> list = steps(new Reader(s), false);
            works.push(now.twin());
            begun = 0;
            finished = 0;
            refusedSteps = 0;
            doAll(list);
            return finished;
        } catch (Bad b) {
            return faulty(b);
        }
    }

    private void doAll(List<Step> list) {
        for (Step s : list) {
            if (begun == 200) {
                return;
            }
            begun++;
            if (s.inner != null) {
                for (int i = 0; i < s.number; i++) {
                    doAll(s.inner);
                }
            } else if (doOne(s)) {
                finished++;
            } else {
                refusedSteps++;
            }
        }
    }

    private boolean doOne(Step s) {
        int i = s.number;
        switch (s.word) {
            case "boot":
                return boot(now, i);
            case "bare":
                return bare(now, i);
            case "pack":
                now.packed[i] = !now.packed[i];
                return true;
            case "feint":
                now.feint[i] = !now.feint[i];
                return true;
            case "come":
                return come(now, i);
            case "sit":
                if (now.leads(i) < 0) {
                    return false;
                }
                now.leader[now.leads(i)] = -1;
                return true;
            default:
                if (now.day >= 400) {
                    return false;
                }
                hour(now);
                return true;
        }
    }

    private static boolean boot(Days d, int p) {
        if (d.boots[p] == 2) {
            return false;
        }
        d.boots[p]++;
        return true;
    }

    private static boolean bare(Days d, int p) {
        boolean any = d.boots[p] > 0;
        d.boots[p] = 0;
        return any;
    }

    private boolean come(Days d, int t) {
        int who = catches(d, d.hour);
        if (d.leader[t] >= 0 || d.done[t] == tasks.get(t) || who < 0) {
            return false;
        }
        d.leader[t] = who;
        d.comings++;
        return true;
    }

    private void hour(Days d) {
        Days was = d.twin();
        for (int t = 0; t < tasks.size(); t++) {
            int p = was.leader[t];
            if (p >= 0) {
                d.done[t] = Math.min(tasks.get(t), was.done[t] + pace(was, p));
                if (d.done[t] == tasks.get(t)) {
                    d.leader[t] = -1;
                    d.led[p]++;
                }
            }
        }
        int h = d.day * 24 + d.hour + 1;
        d.day = h / 24;
        d.hour = h % 24;
    }

    private int level(Days d, int p, int h) {
        int ready = (persons.get(p)[0] + persons.get(p)[1] * h) % 10;
        return clip(law.applyAsInt(new Names(ready, d.boots[p], d.packed[p] ? 1 : 0, d.feint[p] ? 1 : 0, h, d.day, d.led[p], p)));
    }

    private static int clip(int v) {
        return Math.max(0, Math.min(99, v));
    }

    private int level(Days d, int p) {
        return level(d, p, d.hour);
    }

    private int pace(Days d, int p) {
        return 10 - level(d, p) / 10;
    }

    /** Those who lead nothing, in the order in which they would be caught. */
    private List<Integer> order(Days d, int h) {
        List<Integer> list = new ArrayList<>();
        for (int p = 0; p < persons.size(); p++) {
            if (d.leads(p) < 0) {
                list.add(p);
            }
        }
        list.sort((a, b) -> Integer.compare(level(d, a, h), level(d, b, h)));
        return list;
    }

    private int catches(Days d, int h) {
        List<Integer> list = order(d, h);
        return list.isEmpty() ? -1 : list.get(0);
    }

    int book(int n) {
        Reader r = new Reader(text(n, 60));
        TreeMap<Integer, Integer> lines = new TreeMap<>();
        try {
            while (r.more()) {
                int place = r.place();
                int p = r.number(0, persons.size() - 1);
                if (lines.containsKey(p)) {
                    throw new Bad(2, place);
                }
                lines.put(p, r.number(0, 99));
                r.sign(";");
            }
        } catch (Bad b) {
            return faulty(b);
        }
        book = lines;
        return book.size();
    }

    int fault() {
        return faultAt;
    }

    int undo() {
        if (works.isEmpty()) {
            return -1;
        }
        now = works.pop();
        refusedSteps = 0;
        return works.size();
    }

    private void fine(boolean b) {
        if (!b) {
            refused[1]++;
            throw new IllegalArgumentException();
        }
    }

    private void within(int v, int a, int b) {
        fine(v >= a && v <= b);
    }

    private void aPerson(int p) {
        if (p < 0 || p >= persons.size()) {
            refused[0]++;
            throw new NoSuchElementException();
        }
    }

    private void aTask(int t) {
        if (t < 0 || t >= tasks.size()) {
            refused[0]++;
            throw new NoSuchElementException();
        }
    }

    private void bitsOf(int bits, int many) {
        fine((bits >>> many) == 0);
    }

    private int leaders(Days d) {
        int bits = 0;
        for (int p = 0; p < persons.size(); p++) {
            bits += d.leads(p) >= 0 ? 1 << p : 0;
        }
        return bits;
    }

    private int doneBits(Days d) {
        int bits = 0;
        for (int t = 0; t < tasks.size(); t++) {
            bits += d.done[t] == tasks.get(t) ? 1 << t : 0;
        }
        return bits;
    }

    private static int bitsOf(boolean[] row) {
        int bits = 0;
        for (int i = 0; i < row.length; i++) {
            bits += row[i] ? 1 << i : 0;
        }
        return bits;
    }

    int told(int what) {
        within(what, 0, 11);
        int led = 0;
        for (int t = 0; t < 6; t++) {
            led += now.leader[t] >= 0 ? 1 << t : 0;
        }
        return new int[] {persons.size(), tasks.size(), now.day, now.hour, leaders(now), led, doneBits(now),
            bitsOf(now.packed), bitsOf(now.feint), book.size(), refusedSteps, now.comings}[what];
    }

    int person(int p, int what) {
        aPerson(p);
        within(what, 0, 7);
        int[] rs = persons.get(p);
        return new int[] {rs[0], rs[1], (rs[0] + rs[1] * now.hour) % 10, now.boots[p], now.leads(p), now.led[p],
            level(now, p), pace(now, p)}[what];
    }

    int task(int t, int what) {
        aTask(t);
        within(what, 0, 2);
        return new int[] {tasks.get(t), now.done[t], now.leader[t]}[what];
    }

    int readiness(int p, int h) {
        aPerson(p);
        within(h, 0, 23);
        return level(now, p, h);
    }

    int would(int ready, int boots, int packed, int feint, int hour, int day, int led, int person) {
        fine(ready >= 0 && ready <= 9 && boots >= 0 && boots <= 2 && packed >= 0 && packed <= 1 && feint >= 0
            && feint <= 1 && hour >= 0 && hour <= 23 && day >= 0 && day <= 400 && led >= 0 && led <= 999 && person >= 0
            && person <= 7);
        return clip(law.applyAsInt(new Names(ready, boots, packed, feint, hour, day, led, person)));
    }

    int caught() {
        return catches(now, now.hour);
    }

    int next(int k) {
        fine(k >= 0);
        List<Integer> list = order(now, now.hour);
        return k < list.size() ? list.get(k) : -1;
    }

    int hours(int p) {
        aPerson(p);
        int bits = 0;
        for (int h = 0; h < 24; h++) {
            bits += catches(now, h) == p ? 1 << h : 0;
        }
        return bits;
    }

    private Days later(int n) {
        Days d = now.twin();
        for (int i = 0; i < n; i++) {
            hour(d);
        }
        return d;
    }

    int waits(int p) {
        aPerson(p);
        Days d = later(0);
        for (int h = 0; h <= 99; h++, hour(d)) {
            if (catches(d, d.hour) == p) {
                return h;
            }
        }
        return -1;
    }

    int ends(int t) {
        aTask(t);
        Days d = later(0);
        for (int h = 0; h <= 500; h++, hour(d)) {
            if (d.done[t] == tasks.get(t)) {
                return h;
            }
        }
        return -1;
    }

    private int[] bestPlan;
    private int bestSum;

    private void tryAll(List<Integer> ts, int i, int[] who, int sum) {
        if (i == ts.size()) {
            if (sum < bestSum) {
                bestSum = sum;
                bestPlan = who.clone();
            }
            return;
        }
        int t = ts.get(i);
        for (int p = 0; p < persons.size(); p++) {
            int q = p;
            if (now.leads(p) < 0 && Arrays.stream(who).noneMatch(v -> v == q)) {
                who[t] = p;
                int rest = tasks.get(t) - now.done[t];
                tryAll(ts, i + 1, who, sum + rest / pace(now, p) + (rest % pace(now, p) > 0 ? 1 : 0));
                who[t] = -1;
            }
        }
    }

    private int planOf(int bits) {
        List<Integer> ts = new ArrayList<>();
        for (int t = 0; t < tasks.size(); t++) {
            if ((bits >> t & 1) == 1 && now.leader[t] < 0 && now.done[t] < tasks.get(t)) {
                ts.add(t);
            }
        }
        int[] nobody = {-1, -1, -1, -1, -1, -1};
        bestPlan = nobody.clone();
        bestSum = Integer.MAX_VALUE;
        tryAll(ts, 0, nobody, 0);
        return bestSum == Integer.MAX_VALUE ? -1 : bestSum;
    }

    int plan(int bits) {
        bitsOf(bits, tasks.size());
        return planOf(bits);
    }

    int gives(int t, int bits) {
        aTask(t);
        bitsOf(bits, tasks.size());
        planOf(bits);
        return bestPlan[t];
    }

    int ahead(int n, int what) {
        within(n, 0, 500);
        within(what, 0, 2);
        Days d = later(n);
        return what == 0 ? doneBits(d) : what == 1 ? Arrays.stream(d.done).sum() : leaders(d);
    }

    int fits() {
        int bits = 0;
        for (int h = 0; h < 24; h++) {
            int at = h;
            bits += book.entrySet().stream().allMatch(l -> level(now, l.getKey(), at) == l.getValue()) ? 1 << h : 0;
        }
        return bits;
    }

    int look(int what) {
        within(what, 0, 1);
        int who = -1;
        int fewest = -1;
        int fits = fits();
        for (int p = persons.size() - 1; p >= 0; p--) {
            if (!book.containsKey(p)) {
                List<Integer> seen = new ArrayList<>();
                for (int h = 0; h < 24; h++) {
                    if ((fits >> h & 1) == 1) {
                        seen.add(level(now, p, h));
                    }
                }
                int worst = seen.stream().mapToInt(v -> Collections.frequency(seen, v)).max().orElse(0);
                if (who < 0 || worst <= fewest) {
                    who = p;
                    fewest = worst;
                }
            }
        }
        return what == 0 ? who : fewest;
    }

    int waiters(int v, int w, int what) {
        within(v, 0, 99);
        within(w, 0, 99);
        within(what, 0, 2);
        int[][] mine = {{w, 0}, {v, -w}};
        List<int[]> rests = new ArrayList<>();
        for (int a = 0; a < 2; a++) {
            for (int b = 0; b < 2; b++) {
                if (mine[1 - a][b] <= mine[a][b] && mine[1 - b][a] <= mine[b][a]) {
                    rests.add(new int[] {10 * a + b, mine[a][b] + mine[b][a]});
                }
            }
        }
        if (what == 0) {
            return rests.size();
        }
        return rests.isEmpty() ? what - 2 : rests.get(0)[what - 1];
    }

    long found(int n, int k, int q, int part) {
        within(n, 0, 12);
        within(k, 0, 13);
        within(q, 0, 16);
        within(part, 0, 1);
        // by how many ways out of 16 to the n that many are found, one coming after the other
        BigInteger[] ways = new BigInteger[15];
        Arrays.fill(ways, BigInteger.ZERO);
        ways[0] = BigInteger.ONE;
        for (int i = 0; i < n; i++) {
            for (int j = 13; j >= 0; j--) {
                BigInteger before = j == 0 ? BigInteger.ZERO : ways[j - 1];
                ways[j] = ways[j].multiply(BigInteger.valueOf(16 - q)).add(before.multiply(BigInteger.valueOf(q)));
            }
        }
        BigInteger above = BigInteger.ZERO;
        for (int j = k; j <= n; j++) {
            above = above.add(ways[j]);
        }
        BigInteger below = BigInteger.valueOf(16).pow(n);
        BigInteger g = above.gcd(below);
        return (part == 0 ? above : below).divide(g).longValueExact();
    }

    int soup(int p, int bits, int n) {
        aPerson(p);
        bitsOf(bits, persons.size());
        within(n, 0, 9999);
        int bound = 0;
        while (bound < 99) {
            int sum = 0;
            for (int i = 0; i < persons.size(); i++) {
                sum += (bits >> i & 1) * Math.min(level(now, i), bound + 1);
            }
            if (sum > n) {
                break;
            }
            bound++;
        }
        return (bits >> p & 1) * Math.min(level(now, p), bound);
    }

    int readiest(int what) {
        within(what, 0, 1);
        int best = -1;
        for (int p = 0; p < persons.size(); p++) {
            best = best < 0 || level(now, p) > level(now, best) ? p : best;
        }
        return what == 0 || best < 0 ? best : level(now, best);
    }

    int open() {
        int bits = 0;
        for (int t = 0; t < tasks.size(); t++) {
            bits += come(now.twin(), t) ? 1 << t : 0;
        }
        return bits;
    }

    int left(int bits) {
        bitsOf(bits, tasks.size());
        int sum = 0;
        for (int t = 0; t < tasks.size(); t++) {
            sum += (bits >> t & 1) * (tasks.get(t) - now.done[t]);
        }
        return sum;
    }

    int alike(int p) {
        aPerson(p);
        int bits = 0;
        for (int i = 0; i < persons.size(); i++) {
            bits += i != p && level(now, i) == level(now, p) ? 1 << i : 0;
        }
        return bits;
    }

    int busy(int p) {
        aPerson(p);
        Days d = later(0);
        for (int h = 0; h <= 500; h++, hour(d)) {
            if (d.leads(p) < 0) {
                return h;
            }
        }
        return -1;
    }

    int rank(int p) {
        aPerson(p);
        return order(now, now.hour).indexOf(p);
    }

    int fresh() {
        int bits = 0;
        for (int t = 0; t < tasks.size(); t++) {
            bits += now.done[t] == 0 && now.leader[t] < 0 ? 1 << t : 0;
        }
        return bits;
    }

    int quickest(int what) {
        within(what, 0, 1);
        int best = -1;
        for (int p = 0; p < persons.size(); p++) {
            best = best < 0 || pace(now, p) > pace(now, best) ? p : best;
        }
        return what == 0 || best < 0 ? best : pace(now, best);
    }

    private long seed;

    private int draw(int many) {
        seed = (seed * 1103515245L + 12345L) & 0xffffffffL;
        return (int) (seed / 65536 % 32768 % many);
    }

    private Days decadeOf(int first, int hours, int q) {
        seed = first & 0xffffffffL;
        Days d = now.twin();
        for (int h = 0; h < hours; h++) {
            if (!tasks.isEmpty()) {
                come(d, draw(tasks.size()));
            }
            if (!persons.isEmpty()) {
                int p = draw(persons.size());
                if (draw(16) < q) {
                    boot(d, p);
                } else {
                    bare(d, p);
                }
            }
            hour(d);
        }
        return d;
    }

    int decade(int first, int hours, int q, int what) {
        within(hours, 1, 96);
        within(q, 0, 16);
        within(what, 0, 3);
        Days d = decadeOf(first, hours, q);
        return new int[] {Arrays.stream(d.done).sum() - Arrays.stream(now.done).sum(), d.comings - now.comings,
            leaders(d), Arrays.stream(d.boots).sum()}[what];
    }

    int span(int first, int many, int hours, int q, int what, int p) {
        fine(p >= 0 && p < persons.size() && many >= 1 && many <= 20 && hours >= 1 && hours <= 96 && q >= 0 && q <= 16
            && what >= 0 && what <= 2);
        List<Integer> gains = new ArrayList<>();
        int leading = 0;
        for (int i = 0; i < many; i++) {
            Days d = decadeOf(first + i, hours, q);
            gains.add(Arrays.stream(d.done).sum() - Arrays.stream(now.done).sum());
            leading += d.leads(p) >= 0 ? 1 : 0;
        }
        return what == 0 ? Collections.min(gains) : what == 1 ? Collections.max(gains) : leading;
    }

    private void aBag(int b) {
        within(b, 0, 7);
    }

    private void full(int... bs) {
        for (int b : bs) {
            if (bags[b] == null) {
                refused[2]++;
                throw new NullPointerException();
            }
        }
    }

    private void is(Class<?> kind, int... bs) {
        for (int b : bs) {
            if (!kind.isInstance(bags[b])) {
                refused[3]++;
                throw new ClassCastException();
            }
        }
    }

    private void room(boolean b) {
        if (!b) {
            refused[4]++;
            throw new IndexOutOfBoundsException();
        }
    }

    int bag(int b, int kind, int n) {
        aBag(b);
        within(kind, 0, 3);
        fine(kind != 1 || n <= 24);
        if (kind == 1 && n < 0) {
            refused[5]++;
            throw new NegativeArraySizeException();
        }
        switch (kind) {
            case 0:
                Boot boot = new Boot();
                boot.size = n;
                bags[b] = boot;
                break;
            case 1:
                bags[b] = new int[n];
                break;
            default:
                Cloth cloth = kind == 2 ? new Towel() : new Napkin();
                cloth.folds = n;
                bags[b] = cloth;
        }
        return 1;
    }

    int drop(int b) {
        aBag(b);
        int was = bags[b] == null ? 0 : 1;
        bags[b] = null;
        return was;
    }

    int kind(int b) {
        aBag(b);
        Object x = bags[b];
        return x == null ? -1 : x instanceof Boot ? 0 : x instanceof int[] ? 1 : x instanceof Towel ? 2 : 3;
    }

    int wear(int b) {
        aBag(b);
        full(b);
        is(Boot.class, b);
        return ((Boot) bags[b]).size;
    }

    int fold(int b) {
        aBag(b);
        full(b);
        is(Cloth.class, b);
        Cloth c = (Cloth) bags[b];
        c.folds = c instanceof Towel ? c.folds * 2 + 1 : c.folds + 1;
        return c.folds;
    }

    private int[] map(int b, int place) {
        aBag(b);
        full(b);
        is(int[].class, b);
        int[] map = (int[]) bags[b];
        room(place >= 0 && place < map.length);
        return map;
    }

    int mark(int b, int place, int v) {
        int[] map = map(b, place);
        int was = map[place];
        map[place] = v;
        return was;
    }

    int read(int b, int place) {
        return map(b, place)[place];
    }

    int copy(int b, int place, int other, int at, int n) {
        fine(b >= 0 && b <= 7 && other >= 0 && other <= 7);
        full(b, other);
        is(int[].class, b, other);
        int[] from = (int[]) bags[b];
        int[] to = (int[]) bags[other];
        room(n >= 0 && place >= 0 && at >= 0 && (long) place + n <= from.length && (long) at + n <= to.length);
        int[] part = Arrays.copyOfRange(from, place, place + n);
        for (int i = 0; i < n; i++) {
            to[at + i] = part[i];
        }
        return n;
    }

    int image() {
        if (images.size() == 3) {
            return -1;
        }
        List<Days> twins = new ArrayList<>();
        works.forEach(d -> twins.add(d.twin()));
        images.push(new Image(now.twin(), twins));
        return images.size();
    }

    int restore() {
        if (images.isEmpty()) {
            return -1;
        }
        Image i = images.pop();
        now = i.days;
        works = new ArrayDeque<>(i.works);
        refusedSteps = 0;
        return images.size();
    }

    int status(int what) {
        return what < 0 || what > 5 ? -1 : refused[what];
    }

    int count(int what) {
        int full = 0;
        for (Object x : bags) {
            full += x == null ? 0 : 1;
        }
        return what < 0 || what > 3 ? -1 : new int[] {images.size(), tape.length, works.size(), full}[what];
    }
}
