import java.lang.reflect.InvocationTargetException;
import java.lang.reflect.Method;
import java.util.ArrayList;
import java.util.Arrays;
import java.util.HashMap;
import java.util.List;
import java.util.Map;
import java.util.Random;
import java.util.regex.Matcher;
import java.util.regex.Pattern;

/**
 * Drawn runs of calls on a book and on a second, plain writing of the document, which may use all of
 * Java: every answer must be the same, and the state is compared through the calls that tell it.
 */
public final class ModelTest {
    /** A run is 512 calls, as nothing is promised behind them; each second one keeps the last of them to compare the state. */
    private static final int RUNS = 4000, CALLS = 512, TO_COMPARE = 4 + 12 * 13 + 4 * 40;

    /** Each call with what its arguments are: the kinds that draw() knows. */
    private static final String[] CALLS_AND_KINDS = {"clause", "clause", "clause", "test c h t n n", "test c h t n n",
        "test c h t n n", "grant c g t a n", "grant c g t a n", "grant c g t a n", "span c d d", "span c d d", "except c e", "except c e",
        "of c w", "drop", "profile n n k k m", "trait p t", "outcome p d", "outcome p d", "reason p d", "why p d c k", "why p d c k",
        "hold p d k", "best p d t k", "jumps p d t k", "jumps p d t k", "bends p d t k", "bends p d t k", "enough p d t a",
        "share p d k", "mean d m", "until p d", "until p d", "mark", "touched p d", "touches p d t k", "touches p d t k", "drawn d m",
        "file c", "file c", "file c", "filed c k", "alike", "forget", "feed b f", "wipe", "text", "TEXT", "TEXT", "TEXT", "seed b",
        "sheet s o l", "sheet s o l", "write s i b", "write s i b", "item s i", "item s i", "copy s i s i l", "copy s i s i l", "lay p d t s",
        "lay p d t s", "image", "back", "count k"};

    private static final String[] WORDS = {"if", "then", "always", "age", "income", "children", "place", "not", "marks", "pay", "per",
        "less", "nothing", "cap", "from", "to", "except", ";", "0", "1", "31", "99", "999", "iff", "?"};

    private final Random random;
    private final StatuteBook book = new StatuteBook();
    private final Model model = new Model();
    private final List<String> log = new ArrayList<>();
    private static final Map<String, Method> ofBook = new HashMap<>(), ofModel = new HashMap<>();
    private static final Map<String, Integer> good = new HashMap<>();

    private final boolean compares;

    private ModelTest(long seed) {
        random = new Random(seed);
        compares = seed % 2 == 1;
    }

    public static void main(String[] args) throws Exception {
        for (Method m : StatuteBook.class.getMethods()) ofBook.put(m.getName(), m);
        for (Method m : Model.class.getDeclaredMethods()) ofModel.put(m.getName(), m);
        for (int run = 0; run < RUNS; run++) {
            ModelTest one = new ModelTest(run);
            if (!one.run()) {
                System.out.println("run " + run + " differs; its last calls:");
                for (String call : one.log.subList(Math.max(0, one.log.size() - 60), one.log.size())) System.out.println("  " + call);
                System.exit(1);
            }
        }
        for (String call : CALLS_AND_KINDS) {
            String name = call.equals("TEXT") ? "text" : call.split(" ")[0];
            if (good.getOrDefault(name, 0) < 1000) {
                System.out.println("the runs hardly use " + name + ": " + good.get(name));
                System.exit(1);
            }
        }
        System.out.println(RUNS + " runs are as the model's");
    }

    private boolean run() throws Exception {
        int most = compares ? CALLS - TO_COMPARE : CALLS;
        for (int i = 0; i < most; ) {
            String[] call = CALLS_AND_KINDS[random.nextInt(CALLS_AND_KINDS.length)].split(" ");
            if (call[0].equals("TEXT")) {
                byte[] bytes = lawText().getBytes("ISO-8859-1");
                if (bytes.length > 120 || i + bytes.length > most - 2) continue;
                if (!same("wipe")) return false;
                for (byte b : bytes) if (!same("feed", (int) b, 1)) return false;
                if (!same("text")) return false;
                i += bytes.length + 2;
                continue;
            }
            Object[] arguments = new Object[call.length - 1];
            for (int k = 0; k < arguments.length; k++) arguments[k] = draw(call[k + 1].charAt(0));
            if (!same(call[0], arguments)) return false;
            i++;
        }
        return !compares || sameState();
    }

    private boolean sameState() throws Exception {
        for (int what = 0; what < 4; what++) if (!same("count", what)) return false;
        for (int c = 0; c < model.clauses.size(); c++) {
            for (int what = 0; what <= 10; what++) if (!same("of", c, what)) return false;
            if (!same("filed", c, 0) || !same("filed", c, 1)) return false;
        }
        for (int s = 0; s < 4; s++) for (int i = 0; i < 40; i++) if (!same("item", s, i)) return false;
        return true;
    }

    private boolean same(String name, Object... arguments) throws Exception {
        String told = name + Arrays.toString(arguments);
        long want = ((Number) ofModel.get(name).invoke(model, arguments)).longValue();
        try {
            long got = ((Number) ofBook.get(name).invoke(book, arguments)).longValue();
            log.add(told + " answered " + got + ", the model " + want);
            if (want != -2) good.merge(name, 1, Integer::sum);
            return got == want;
        } catch (InvocationTargetException e) {
            log.add(told + " threw " + e.getCause() + ", the model " + want);
            return false;
        }
    }

    private int draw(char kind) {
        if (random.nextInt(60) == 0) {
            int[] wild = {-1, -2, Integer.MIN_VALUE, Integer.MAX_VALUE, 40, 41, 100, 1000, 25600000, Integer.MAX_VALUE - 1};
            return wild[random.nextInt(wild.length)];
        }
        switch (kind) {
            case 'c': return random.nextInt(Math.max(1, model.clauses.size()));
            case 'e': return random.nextInt(Math.max(2, model.clauses.size())) - 1;
            case 'h': return random.nextInt(6);
            case 'g': return random.nextInt(5);
            case 't': return random.nextInt(4) * random.nextInt(2);
            case 'n': return random.nextInt(3) == 0 ? 0 : random.nextInt(random.nextBoolean() ? 100 : 12);
            case 'a': return random.nextInt(random.nextBoolean() ? 1000 : 40);
            case 'd': return random.nextInt(5) == 0 ? random.nextBoolean() ? 0 : 999 : random.nextInt(random.nextBoolean() ? 1000 : 20);
            case 'w': return random.nextInt(11);
            case 'p': return random.nextInt(6) == 0 ? 25599999 : random.nextInt(25600000);
            case 'k': return random.nextInt(5);
            case 'm': return random.nextInt(22);
            case 'b': return random.nextBoolean() ? random.nextInt() : random.nextInt(8) - 4;
            case 'f': return random.nextInt(5);
            case 's': return random.nextInt(4);
            case 'o': return random.nextInt(4) - 1;
            case 'l': return random.nextBoolean() ? random.nextInt(41) : random.nextInt(6);
            default: return random.nextInt(random.nextBoolean() ? 40 : 6);
        }
    }

    private String lawText() {
        StringBuilder text = new StringBuilder();
        int laws = 1 + random.nextInt(3);
        for (int i = 0; i < laws; i++) text.append(i == 0 ? "" : ";").append(law(i));
        if (random.nextInt(2) == 0) {
            String[] tokens = text.toString().split(" ");
            tokens[random.nextInt(tokens.length)] = WORDS[random.nextInt(WORDS.length)];
            text = new StringBuilder(String.join(random.nextBoolean() ? " " : "  ", tokens));
        }
        if (random.nextInt(4) == 0) text.setLength(random.nextInt(text.length() + 1));
        if (random.nextInt(8) == 0) text.append(WORDS[random.nextInt(WORDS.length)]);
        return text.toString();
    }

    private String law(int more) {
        String[] traits = {"age", "income", "children", "place"};
        String t = traits[random.nextInt(4)], u = traits[random.nextInt(4)];
        String[] tests = {"always", t + " " + draw('n') + " " + draw('n'), t + " not " + draw('n') + " " + draw('n'),
            "marks " + random.nextInt(32) + " " + random.nextInt(33)};
        String[] grants = {"pay " + draw('a'), "per " + u + " " + draw('a') + " " + draw('n'), "less " + u + " " + draw('a') + " " + draw('n'),
            "nothing", "cap " + u + " " + draw('a')};
        String law = "if " + tests[random.nextInt(4)] + " then " + grants[random.nextInt(5)];
        if (random.nextInt(3) == 0) law += " from " + draw('d') + " to " + draw('d');
        if (random.nextInt(3) == 0) law += " except " + random.nextInt(model.clauses.size() + more + 1);
        return law;
    }

    /** The document once more, as plainly as all of Java lets it be said. */
    static final class Model {
        static final long NO = -4611686018427387904L;
        static final int[] SIZE = {100, 100, 10, 8, 32};
        List<int[]> clauses = new ArrayList<>(), then = new ArrayList<>(), imageClauses = null;
        List<int[]> register = new ArrayList<>(), imageRegister = null;
        List<Integer> tape = new ArrayList<>();
        Object[] rows = new Object[4];
        int z = 1, imageZ;

        static List<int[]> deep(List<int[]> of) {
            List<int[]> all = new ArrayList<>();
            for (int[] one : of) all.add(one.clone());
            return all;
        }

        boolean c(int c) { return c >= 0 && c < clauses.size(); }
        boolean p(int p, int d) { return p >= 0 && p <= 25599999 && d >= 0 && d <= 999; }

        int clause() {
            if (clauses.size() == 12) return -4;
            clauses.add(new int[] {0, 0, 0, 0, 0, 0, 0, 0, 0, 999, -1});
            return clauses.size() - 1;
        }

        int test(int c, int how, int t, int low, int high) {
            if (!c(c) || how < 0 || how > 5) return -2;
            boolean byTrait = how == 1 || how == 2 || how == 4;
            if (byTrait ? t < 0 || t > 3 : t != 0) return -2;
            int most = how == 3 ? 31 : 99;
            if (low < 0 || high < 0 || low > most || high > most) return -2;
            int[] x = clauses.get(c);
            int was = x[0];
            x[0] = how; x[1] = t; x[2] = low; x[3] = high;
            return was;
        }

        int grant(int c, int sort, int t, int a, int b) {
            if (!c(c) || sort < 0 || sort > 4 || a < 0 || a > 999 || b < 0 || b > 99) return -2;
            if (sort == 0 || sort == 3 ? t != 0 : t < 0 || t > 3) return -2;
            if (sort == 1 ? b == 0 : sort != 2 && b != 0) return -2;
            int[] x = clauses.get(c);
            int was = x[4];
            x[4] = sort; x[5] = t; x[6] = a; x[7] = b;
            return was;
        }

        int span(int c, int from, int to) {
            if (!c(c) || from < 0 || to > 999 || to < from) return -2;
            clauses.get(c)[8] = from;
            clauses.get(c)[9] = to;
            return 1;
        }

        int except(int c, int d) {
            if (!c(c) || d < -1 || d >= c) return -2;
            int was = clauses.get(c)[10];
            clauses.get(c)[10] = d;
            return was;
        }

        int of(int c, int what) { return !c(c) || what < 0 || what > 10 ? -2 : clauses.get(c)[what]; }

        int drop() {
            if (clauses.isEmpty()) return -3;
            clauses.remove(clauses.size() - 1);
            return clauses.size();
        }

        int profile(int age, int income, int children, int place, int marks) {
            int[] told = {age, income, children, place, marks};
            for (int t = 0; t < 5; t++) if (told[t] < 0 || told[t] >= SIZE[t]) return -2;
            return join(told);
        }

        static int join(int[] told) { return told[0] + 100 * (told[1] + 100 * (told[2] + 10 * (told[3] + 8 * told[4]))); }

        static int[] split(int p) {
            int[] told = new int[5];
            for (int t = 0; t < 5; t++) { told[t] = p % SIZE[t]; p /= SIZE[t]; }
            return told;
        }

        int trait(int p, int t) { return !p(p, 0) || t < 0 || t > 4 ? -2 : split(p)[t]; }

        static boolean so(int[] x, int p) {
            int[] told = split(p);
            boolean in = told[x[1]] >= x[2] && told[x[1]] <= x[3];
            if (x[0] == 0) return true;
            if (x[0] == 1) return in;
            if (x[0] == 2) return !in;
            if (x[0] == 3) {
                for (int m = 0; m < 5; m++) {
                    boolean there = (told[4] >> m & 1) != 0;
                    if ((x[2] >> m & 1) != 0 && !there || (x[3] >> m & 1) != 0 && there) return false;
                }
                return true;
            }
            if (x[0] == 4) return told[x[1]] * x[2] >= x[3];
            int both = told[0] + told[1];
            return both >= x[2] && both <= x[3];
        }

        static int brings(int[] x, int p) {
            int there = split(p)[x[5]], sum = x[6];
            switch (x[4]) {
                case 0: return x[6];
                case 1:
                    sum = 0;
                    for (int k = x[7]; k <= there; k += x[7]) sum += x[6];
                    return sum;
                case 2:
                    for (int k = 0; k < there; k++) sum -= x[7];
                    return sum < 0 ? 0 : sum;
                case 3: return 0;
                default: return there < sum ? there : sum;
            }
        }

        static boolean holds(List<int[]> all, int c, int p, int d) {
            int[] x = all.get(c);
            return x[8] <= d && d <= x[9] && so(x, p);
        }

        static boolean stands(List<int[]> all, int c, int p, int d) {
            if (!holds(all, c, p, d)) return false;
            for (int e = 0; e < all.size(); e++) if (all.get(e)[10] == c && stands(all, e, p, d)) return false;
            return true;
        }

        static boolean counts(List<int[]> all, int c, int p, int d) {
            int to = all.get(c)[10];
            return stands(all, c, p, d) && (to == -1 || holds(all, to, p, d));
        }

        static int sum(List<int[]> all, int p, int d) {
            int sum = 0;
            for (int c = 0; c < all.size(); c++) if (counts(all, c, p, d)) sum += brings(all.get(c), p);
            return sum;
        }

        int outcome(int p, int d) { return p(p, d) ? sum(clauses, p, d) : -2; }

        int reason(int p, int d) {
            if (!p(p, d)) return -2;
            int set = 0;
            for (int c = 0; c < clauses.size(); c++) if (counts(clauses, c, p, d)) set += 1 << c;
            return set;
        }

        int why(int p, int d, int c, int what) {
            if (!p(p, d) || !c(c) || what < 0 || what > 2) return -2;
            int[] x = clauses.get(c);
            int least = -1;
            for (int e = clauses.size() - 1; e >= 0; e--) if (clauses.get(e)[10] == c && stands(clauses, e, p, d)) least = e;
            if (what == 2) return least;
            if (what == 0) return counts(clauses, c, p, d) ? brings(x, p) : 0;
            if (d < x[8] || d > x[9]) return 1;
            if (!so(x, p)) return 2;
            if (least >= 0) return 3;
            return x[10] >= 0 && !holds(clauses, x[10], p, d) ? 4 : 0;
        }

        int hold(int p, int d, int what) {
            if (!p(p, d) || what < 0 || what > 1) return -2;
            int set = 0;
            for (int c = 0; c < clauses.size(); c++) if (what == 0 ? holds(clauses, c, p, d) : stands(clauses, c, p, d)) set += 1 << c;
            return set;
        }

        static int[] along(List<int[]> all, int p, int d, int t) {
            int[] told = split(p), row = new int[SIZE[t]];
            for (int v = 0; v < row.length; v++) { told[t] = v; row[v] = sum(all, join(told), d); }
            return row;
        }

        boolean t(int p, int d, int t) { return p(p, d) && t >= 0 && t <= 3; }

        int best(int p, int d, int t, int what) {
            if (!t(p, d, t) || what < 0 || what > 1) return -2;
            int[] row = along(clauses, p, d, t);
            int most = Arrays.stream(row).max().getAsInt();
            for (int v = 0; v < row.length; v++) if (row[v] == most) return what == 0 ? v : most;
            return -99;
        }

        int jumps(int p, int d, int t, int what) {
            if (!t(p, d, t) || what < 0 || what > 4) return -2;
            int[] row = along(clauses, p, d, t);
            int jumps = 0, first = -1, cliffs = 0, highest = -1, height = 0;
            for (int v = 1; v < row.length; v++) {
                if (row[v] == row[v - 1]) continue;
                jumps++;
                if (first < 0) first = v;
                if (row[v] > row[v - 1]) continue;
                cliffs++;
                if (row[v - 1] - row[v] > height) { height = row[v - 1] - row[v]; highest = v; }
            }
            return new int[] {jumps, first, cliffs, highest, height}[what];
        }

        int bends(int p, int d, int t, int what) {
            if (!t(p, d, t) || what < 0 || what > 2) return -2;
            int[] row = along(clauses, p, d, t);
            int bends = 0, first = -1, level = 0;
            for (int v = 2; v < row.length; v++) {
                if (row[v] - row[v - 1] == row[v - 1] - row[v - 2]) continue;
                bends++;
                if (first < 0) first = v;
            }
            for (int v = 0; v < row.length; v++) {
                int w = v;
                while (w < row.length && row[w] == row[v]) w++;
                level = Math.max(level, w - v);
            }
            return new int[] {bends, first, level}[what];
        }

        int enough(int p, int d, int t, int v) {
            if (!t(p, d, t) || v < 0) return -2;
            int[] row = along(clauses, p, d, t);
            for (int w = 0; w < row.length; w++) if (row[w] >= v) return w;
            return -1;
        }

        long share(int p, int d, int n) {
            return !p(p, d) || n < 1 || n > 9 ? NO - 2 : Double.doubleToLongBits((double) sum(clauses, p, d) / n);
        }

        int drawOne() {
            int[] told = new int[5];
            for (int t = 0; t < 5; t++) { z = z * 1103515245 + 12345; told[t] = (z >>> 16) % SIZE[t]; }
            return join(told);
        }

        int mean(int d, int n) {
            if (d < 0 || d > 999 || n < 1 || n > 20) return -2;
            int was = z;
            float sum = 0.0f;
            for (int i = 0; i < n; i++) { int p = drawOne(); sum += (float) sum(clauses, p, d) / (1 + split(p)[2]); }
            z = was;
            return Float.floatToIntBits(sum);
        }

        int until(int p, int d) {
            if (!p(p, d)) return -2;
            for (int e = d + 1; e <= 999; e++) if (sum(clauses, p, e) != sum(clauses, p, d)) return e;
            return -1;
        }

        int mark() { then = deep(clauses); return then.size(); }
        int touched(int p, int d) { return p(p, d) ? sum(clauses, p, d) - sum(then, p, d) : -2; }

        int touches(int p, int d, int t, int what) {
            if (!t(p, d, t) || what < 0 || what > 3) return -2;
            int[] row = along(clauses, p, d, t), old = along(then, p, d, t);
            int many = 0, least = -1, most = 0, less = 0;
            for (int v = row.length - 1; v >= 0; v--) {
                int by = row[v] - old[v];
                if (by != 0) { many++; least = v; }
                most = Math.max(most, by < 0 ? -by : by);
                if (by < 0) less++;
            }
            return new int[] {many, least, most, less}[what];
        }

        int drawn(int d, int n) {
            if (d < 0 || d > 999 || n < 1 || n > 50) return -2;
            int many = 0;
            for (int i = 0; i < n; i++) { int p = drawOne(); if (sum(clauses, p, d) != sum(then, p, d)) many++; }
            return many;
        }

        static int[] said(int[] x) { return Arrays.copyOf(x, 9 - 1); }

        int find(int[] x) {
            for (int i = 0; i < register.size(); i++) if (Arrays.equals(said(register.get(i)), said(x))) return i;
            return -1;
        }

        int file(int c) {
            if (!c(c)) return -2;
            int at = find(clauses.get(c));
            if (at < 0) {
                if (register.size() == 16) return -4;
                at = register.size();
                register.add(Arrays.copyOf(said(clauses.get(c)), 9));
            }
            register.get(at)[8]++;
            return at;
        }

        int filed(int c, int what) {
            if (!c(c) || what < 0 || what > 1) return -2;
            int at = find(clauses.get(c));
            return what == 0 ? at : at < 0 ? 0 : register.get(at)[8];
        }

        int alike() {
            int many = 0;
            for (int[] x : clauses) {
                int same = 0;
                for (int[] y : clauses) if (Arrays.equals(said(x), said(y))) same++;
                if (same > 1) many++;
            }
            return many;
        }

        int forget() { int had = register.size(); register = new ArrayList<>(); return had; }

        int feed(int bytes, int n) {
            if (n < 1 || n > 4) return -2;
            if (tape.size() + n > 120) return -4;
            int[] all = {bytes >>> 24, bytes >>> 16 & 255, bytes >>> 8 & 255, bytes & 255};
            for (int i = 4 - n; i < 4; i++) tape.add(all[i]);
            return tape.size();
        }

        int wipe() { int had = tape.size(); tape.clear(); return had; }

        /** Marked tokens of a whole text, matched by one pattern for a law; faults are sought one token at a time. */
        int text() {
            StringBuilder s = new StringBuilder();
            for (int b : tape) s.append((char) b);
            tape.clear();
            List<String> tokens = new ArrayList<>();
            List<Integer> places = new ArrayList<>();
            Matcher m = Pattern.compile("[a-z]+|[0-9]+|[^ ]", Pattern.DOTALL).matcher(s);
            while (m.find()) { tokens.add(m.group()); places.add(m.start()); }
            tokens.add("END");
            places.add(s.length());
            List<int[]> was = deep(clauses);
            int at = 0, laws = 0;
            while (true) {
                int reached = law(tokens, at);
                if (reached < 0) { clauses = was; return -100 - places.get(-reached - 1); }
                laws++;
                if (tokens.get(reached).equals("END")) return laws;
                if (!tokens.get(reached).equals(";")) { clauses = was; return -100 - places.get(reached); }
                at = reached + 1;
            }
        }

        static int number(String s, int low, int high) {
            if (!s.matches("[0-9]+")) return -1;
            java.math.BigInteger n = new java.math.BigInteger(s);
            if (n.bitLength() > 20) return -1;
            return n.intValue() >= low && n.intValue() <= high ? n.intValue() : -1;
        }

        static int traitOf(String s) { return Arrays.asList("age", "income", "children", "place").indexOf(s); }

        /** The token behind the law, or -1 less the one that is wrong. */
        int law(List<String> k, int i) {
            if (!k.get(i).equals("if") || clauses.size() == 12) return -1 - i;
            int[] x = {0, 0, 0, 0, 0, 0, 0, 0, 0, 999, -1};
            String w = k.get(++i);
            if (w.equals("always")) i++;
            else {
                if (traitOf(w) < 0 && !w.equals("marks")) return -1 - i;
                i++;
                x[0] = w.equals("marks") ? 3 : 1;
                x[1] = Math.max(0, traitOf(w));
                if (x[0] == 1 && k.get(i).equals("not")) { x[0] = 2; i++; }
                for (int f = 2; f <= 3; f++, i++) {
                    x[f] = number(k.get(i), 0, x[0] == 3 ? 31 : 99);
                    if (x[f] < 0) return -1 - i;
                }
            }
            if (!k.get(i).equals("then")) return -1 - i;
            x[4] = Arrays.asList("pay", "per", "less", "nothing", "cap").indexOf(k.get(++i));
            if (x[4] < 0) return -1 - i;
            i++;
            if (x[4] == 1 || x[4] == 2 || x[4] == 4) {
                x[5] = traitOf(k.get(i));
                if (x[5] < 0) return -1 - i;
                i++;
            }
            if (x[4] != 3) {
                x[6] = number(k.get(i), 0, 999);
                if (x[6] < 0) return -1 - i;
                i++;
            }
            if (x[4] == 1 || x[4] == 2) {
                x[7] = number(k.get(i), x[4] == 1 ? 1 : 0, 99);
                if (x[7] < 0) return -1 - i;
                i++;
            }
            if (k.get(i).equals("from")) {
                x[8] = number(k.get(++i), 0, 999);
                if (x[8] < 0) return -1 - i;
                if (!k.get(++i).equals("to")) return -1 - i;
                x[9] = number(k.get(++i), x[8], 999);
                if (x[9] < 0) return -1 - i;
                i++;
            }
            if (k.get(i).equals("except")) {
                x[10] = number(k.get(++i), 0, clauses.size() - 1);
                if (x[10] < 0) return -1 - i;
                i++;
            }
            clauses.add(x);
            return i;
        }

        int seed(int v) { int was = z; z = v; return was; }

        int sheet(int s, int sort, int n) {
            if (s < 0 || s > 3 || sort < -1 || sort > 2) return -2;
            if (sort >= 0 && n > 40) return -2;
            if (sort >= 0 && n < 0) return -14;
            rows[s] = sort == -1 ? null : sort == 0 ? new double[n] : sort == 1 ? new boolean[n] : new int[n];
            return 1;
        }

        static void set(Object row, int i, int v) {
            if (row instanceof double[] d) d[i] = v / 2.0;
            if (row instanceof boolean[] b) b[i] = v != 0;
            if (row instanceof int[] n) n[i] = v;
        }

        static int length(Object row) { return java.lang.reflect.Array.getLength(row); }

        int write(int s, int i, int v) {
            if (s < 0 || s > 3) return -2;
            if (rows[s] == null) return -11;
            if (i < 0 || i >= length(rows[s])) return -12;
            set(rows[s], i, v);
            return 1;
        }

        long item(int s, int i) {
            if (s < 0 || s > 3) return NO - 2;
            if (rows[s] == null) return NO - 11;
            if (i < 0 || i >= length(rows[s])) return NO - 12;
            if (rows[s] instanceof double[] d) return Double.doubleToLongBits(d[i]);
            if (rows[s] instanceof boolean[] b) return b[i] ? 1 : 0;
            return ((int[]) rows[s])[i];
        }

        int copy(int s, int i, int t, int j, int n) {
            if (s < 0 || s > 3 || t < 0 || t > 3) return -2;
            try {
                System.arraycopy(rows[s], i, rows[t], j, n);
                return n;
            } catch (NullPointerException e) {
                return -11;
            } catch (ArrayStoreException e) {
                return -13;
            } catch (IndexOutOfBoundsException e) {
                return -12;
            }
        }

        int lay(int p, int d, int t, int s) {
            if (!t(p, d, t) || s < 0 || s > 3) return -2;
            if (rows[s] == null) return -11;
            int[] row = along(clauses, p, d, t);
            int v = 0;
            for (; v < row.length && v < length(rows[s]); v++) set(rows[s], v, row[v]);
            return v;
        }

        int image() { imageClauses = deep(clauses); imageRegister = deep(register); imageZ = z; return clauses.size(); }

        int back() {
            if (imageClauses == null) return -3;
            clauses = deep(imageClauses);
            register = deep(imageRegister);
            z = imageZ;
            return clauses.size();
        }

        int count(int what) {
            if (what < 0 || what > 3) return -2;
            return new int[] {clauses.size(), register.size(), tape.size(), z}[what];
        }
    }
}
