import java.io.IOException;
import java.nio.charset.StandardCharsets;
import java.nio.file.Files;
import java.nio.file.Path;

/**
 * The document's sentences that name a boundary case, each quoted, with a test of its own. A quote that doesn't
 * stand in its section of the document fails, too. What each call refuses is in RefusalsTest.
 */
public final class BoundariesTest {
    private static final int LOWEST = Integer.MIN_VALUE, HIGHEST = Integer.MAX_VALUE;
    private static final int TERMS = 0, PROMISES = 41, LAST_PROFILE = 25599999;
    private static final long NO = -4611686018427387904L;
    private static final int[] LAST = {99, 99, 9, 7, 31}, WEIGHT = {1, 100, 10000, 100000, 800000};
    private static final String[] TRAITS = {"age", "income", "children", "place"};

    private static final int[] quoted = new int[PROMISES + 1];
    private static String document;
    private static String sentence = "";
    private static int section = 0, wrong = 0;

    public static void main(String[] args) throws IOException {
        document = Files.readString(Path.of("../shared/DOC.md")).replaceAll("\\s+", " ");
        answers();
        traitsAndProfiles();
        clauses();
        testBounds();
        grantBounds();
        spansAndExceptions();
        outcomes();
        reasons();
        along();
        sharesAndMeans();
        days();
        amendments();
        register();
        tape();
        tokens();
        laws();
        faults();
        sheets();
        image();
        for (int p = 1; p <= PROMISES; p++) {
            says(p, "## Promise " + p + ":");
            due("sentences with a test", quoted[p] > 1 ? 1 : 0, 1);
        }
        System.out.println(wrong == 0 ? "every boundary holds" : wrong + " answers are not as due");
        if (wrong != 0) System.exit(1);
    }

    // ---- means

    /** What follows is due by this sentence of a promise, or of the terms ahead of them all. */
    private static void says(int promise, String words) {
        section = promise;
        sentence = words;
        quoted[promise]++;
        int from = promise == TERMS ? 0 : document.indexOf("## Promise " + promise + ":");
        int to = document.indexOf("## ", Math.max(from + 2, promise == TERMS ? document.indexOf("## Terms") + 2 : 0));
        due("the words stand there", from >= 0 && document.substring(from, to).contains(words) ? 1 : 0, 1);
    }

    private static void due(String what, long got, long want) {
        if (got == want) return;
        wrong++;
        String where = section == TERMS ? "the terms" : "promise " + section;
        System.out.println(where + ", '" + sentence + "': " + what + " answered " + got + ", due is " + want);
    }

    private static StatuteBook bookOf(String text) {
        StatuteBook b = new StatuteBook();
        if (read(b, text) < 1) throw new IllegalStateException("can't be read: " + text);
        return b;
    }

    private static void feed(StatuteBook b, String text) {
        for (byte one : text.getBytes(StandardCharsets.ISO_8859_1)) {
            if (b.feed(one, 1) < 0) throw new IllegalStateException("too long: " + text);
        }
    }

    private static int read(StatuteBook b, String text) {
        feed(b, text);
        return b.text();
    }

    private static StatuteBook bookWith(int clauses) {
        StatuteBook b = new StatuteBook();
        for (int c = 0; c < clauses; c++) b.clause();
        return b;
    }

    private static int with(int t, int v) {
        return v * WEIGHT[t];
    }

    private static long halves(int v) {
        return Double.doubleToLongBits(v / 2.0);
    }

    // ---- terms: answers

    private static void answers() {
        says(TERMS, "An object is used for at most 512 calls after it has been made");
        StatuteBook last = new StatuteBook();
        for (int call = 1; call <= 511; call++) due("call " + call, call % 2 == 1 ? last.clause() : last.drop(), 0);
        due("the 512th call", last.drop(), 0);

        says(TERMS, "NONE = -1, BAD = -2, STATE = -3, FULL = -4;");
        due("NONE", StatuteBook.NONE, -1);
        due("BAD", StatuteBook.BAD, -2);
        due("STATE", StatuteBook.STATE, -3);
        due("FULL", StatuteBook.FULL, -4);

        says(TERMS, "where a long is answered, NO (-4611686018427387904) and that, together");
        StatuteBook b = new StatuteBook();
        due("NO", StatuteBook.NO, NO);
        due("share, BAD", b.share(0, 0, 0), NO - 2);
        due("item, BAD", b.item(4, 0), NO - 2);
        due("item, nothing is held", b.item(3, 0), NO - 11);
        b.sheet(3, 2, 0);
        due("item, a place outside", b.item(3, 0), NO - 12);

        says(TERMS, "Answers below 0 are refusals, where nothing else is told");
        for (int v : new int[] {-1, -2, -3, -4, -11, -12, -13, -14, -100, LOWEST}) {
            b.seed(v);
            due("z as low as a refusal", b.count(3), v);
            due("z was as low as a refusal", b.seed(0), v);
        }
        b.clause();
        due("to none it was, which is no refusal", b.except(0, -1), -1);

        says(TERMS, "Quotients are cut");
        int[] parts = {0, 0, 1, 1, 1, 2};
        StatuteBook third = bookOf("if always then per age 5 3");
        for (int age = 1; age <= 6; age++) due("age " + age, third.outcome(age, 0), 5 * parts[age - 1]);
    }

    // ---- terms 1: traits

    private static void traitsAndProfiles() {
        StatuteBook b = new StatuteBook();
        says(TERMS, "0 AGE (0 to 99), 1 INCOME (0 to 99), 2 CHILDREN (0 to 9), 3 PLACE (0 to 7), 4 a set of five MARKS (0 to 31)");
        for (int t = 0; t < 5; t++) {
            int[] told = new int[5];
            for (int v : new int[] {-1, LAST[t] + 1, LOWEST, HIGHEST}) {
                told[t] = v;
                due("trait " + t + " as " + v, b.profile(told[0], told[1], told[2], told[3], told[4]), -2);
            }
            for (int v : new int[] {0, 1, LAST[t]}) {
                told[t] = v;
                due("trait " + t + " as " + v, b.profile(told[0], told[1], told[2], told[3], told[4]), with(t, v));
            }
        }

        says(9, "A PROFILE as a number.");
        due("the least", b.profile(0, 0, 0, 0, 0), 0);
        due("the most", b.profile(99, 99, 9, 7, 31), LAST_PROFILE);

        says(9, "BAD: a trait that is none such.");
        due("all too great", b.profile(100, 100, 10, 8, 32), -2);
        due("all too small", b.profile(-1, -1, -1, -1, -1), -2);
        due("two that would make up for each other", b.profile(100, -1, 0, 0, 0), -2);
        due("two that would wrap around", b.profile(HIGHEST, HIGHEST, 0, 0, 0), -2);

        says(10, "Trait t (0 to 4) of a PROFILE.");
        for (int t = 0; t < 5; t++) {
            due("most of trait " + t, b.trait(LAST_PROFILE, t), LAST[t]);
            due("least of trait " + t, b.trait(0, t), 0);
            due("trait " + t + " alone", b.trait(with(t, LAST[t]), t), LAST[t]);
            due("all but trait " + t, b.trait(LAST_PROFILE - with(t, LAST[t]), t), 0);
        }

        says(10, "BAD.");
        due("t -1", b.trait(0, -1), -2);
        due("t 5", b.trait(0, 5), -2);
        due("below the least profile", b.trait(-1, 0), -2);
        due("behind the last profile", b.trait(25600000, 0), -2);
    }

    // ---- promises 1, 2, 7, 8: clauses

    private static void clauses() {
        says(1, "No CLAUSES, no mark, nothing filed.");
        StatuteBook first = new StatuteBook();
        first.clause();
        first.grant(0, 0, 0, 9, 0);
        first.mark();
        first.file(0);
        first.image();
        StatuteBook b = new StatuteBook();
        due("clauses", b.count(0), 0);
        due("filed", b.count(1), 0);
        due("bytes", b.count(2), 0);
        due("z", b.count(3), 1);
        due("no image", b.back(), -3);
        due("outcome by none", b.outcome(LAST_PROFILE, 999), 0);
        due("the first clause", b.clause(), 0);
        due("not filed", b.filed(0, 0), -1);
        b.grant(0, 0, 0, 7, 0);
        due("all is more than no mark", b.touched(0, 0), 7);

        says(2, "A CLAUSE more, with TEST always, GRANT 0 at once: its number.");
        StatuteBook more = new StatuteBook();
        int[] asMade = {0, 0, 0, 0, 0, 0, 0, 0, 0, 999, -1};
        for (int c = 0; c < 12; c++) {
            due("its number", more.clause(), c);
            for (int what = 0; what <= 10; what++) due("clause " + c + ", what " + what, more.of(c, what), asMade[what]);
            more.test(c, 5, 0, 1, 2);
        }
        due("the outcome of twelve", more.outcome(1, 0), 0);

        says(2, "FULL.");
        due("a 13th", more.clause(), -4);
        due("twelve are left", more.count(0), 12);
        due("a 13th again", more.clause(), -4);
        more.drop();
        due("room again", more.clause(), 11);
        due("made anew", more.of(11, 0), 0);
        due("full again", more.clause(), -4);

        says(TERMS, "CLAUSES 0, 1, .. (12 at most)");
        due("clause 11", more.of(11, 9), 999);
        due("clause 12", more.of(12, 9), -2);

        fieldsAndDrops();
    }

    private static void fieldsAndDrops() {
        says(7, "10 the CLAUSE to which it is an EXCEPTION (-1: none)");
        StatuteBook b = bookWith(12);
        due("none", b.of(11, 10), -1);
        b.except(11, 10);
        due("the last it can be", b.of(11, 10), 10);
        b.except(11, 0);
        due("the first", b.of(11, 10), 0);

        says(7, "Of a CLAUSE: 0 how, 1 t of TEST, 2 low, 3 high, 4 sort, 5 t of GRANT, 6 a, 7 b, 8 from, 9 to");
        b.test(11, 4, 3, 99, 98);
        b.grant(11, 2, 1, 999, 97);
        b.span(11, 5, 6);
        int[] want = {4, 3, 99, 98, 2, 1, 999, 97, 5, 6, 0};
        for (int what = 0; what <= 10; what++) due("what " + what, b.of(11, what), want[what]);
        for (int what = 0; what <= 7; what++) due("its neighbour's, what " + what, b.of(10, what), 0);

        says(7, "BAD.");
        due("what -1", b.of(11, -1), -2);
        due("what 11", b.of(11, 11), -2);
        due("clause -1, whose numbers would stand ahead", b.of(-1, 10), -2);
        due("clause 12", b.of(12, 0), -2);

        says(8, "The last CLAUSE is no more: how many there are.");
        StatuteBook two = bookOf("if always then pay 3;if always then pay 5 except 0");
        due("struck", two.outcome(0, 0), 5);
        due("one is left", two.drop(), 1);
        due("no more struck", two.outcome(0, 0), 3);
        due("it is none", two.of(1, 0), -2);
        due("it can be none's exception", two.except(1, 0), -2);
        due("none is left", two.drop(), 0);
        due("nothing", two.outcome(0, 0), 0);

        says(8, "STATE: there are none.");
        due("drop of none", two.drop(), -3);
        due("drop of none, ever", new StatuteBook().drop(), -3);
        due("none are left", two.count(0), 0);
        due("the next is the first", two.clause(), 0);
    }

    // ---- promise 3: tests

    private static int held(int how, int t, int low, int high, int profile) {
        StatuteBook b = bookWith(1);
        due("test(0, " + how + ", " + t + ", " + low + ", " + high + ")", b.test(0, how, t, low, high), 0);
        return b.hold(profile, 0, 0);
    }

    private static void testBounds() {
        says(3, "how it was told (how)");
        StatuteBook b = bookWith(1);
        int[] hows = {5, 4, 3, 2, 1, 0, 0};
        int was = 0;
        for (int how : hows) {
            due("how " + how, b.test(0, how, 0, 0, 0), was);
            was = how;
        }

        says(3, "t (by 1, 2, 4: 0 to 3; by others it must be 0)");
        for (int how = 0; how <= 5; how++) {
            boolean any = how == 1 || how == 2 || how == 4;
            for (int t = -1; t <= 5; t++) {
                boolean may = t >= 0 && t <= (any ? 3 : 0);
                due("how " + how + ", t " + t, bookWith(1).test(0, how, t, 0, 0), may ? 0 : -2);
            }
        }

        says(3, "Its TEST becomes another one");
        b.grant(0, 2, 3, 77, 5);
        b.test(0, 2, 3, 8, 9);
        int[] want = {2, 3, 8, 9, 2, 3, 77, 5, 0, 999, -1};
        for (int what = 0; what <= 10; what++) due("what " + what, b.of(0, what), want[what]);

        says(TERMS, "low, high: 0 to 99 each, also where they don't matter; by 3 0 to 31.");
        for (int how = 0; how <= 5; how++) {
            int most = how == 3 ? 31 : 99;
            for (int v : new int[] {-1, 0, most, most + 1}) {
                int answer = v < 0 || v > most ? -2 : 0;
                due("how " + how + ", low " + v, bookWith(1).test(0, how, 0, v, 0), answer);
                due("how " + how + ", high " + v, bookWith(1).test(0, how, 0, 0, v), answer);
            }
        }
        rangesOfTests();
        marksOfTests();
        timesAndSums();
    }

    private static void rangesOfTests() {
        says(TERMS, "1 trait t is low to high; 2 trait t isn't");
        for (int t = 0; t < 4; t++) {
            int last = LAST[t];
            int[][] cases = {{0, 0, 0, 1}, {0, 0, 1, 0}, {last, last, last, 1}, {last, last, last - 1, 0}, {2, 4, 1, 0}, {2, 4, 2, 1}, {2, 4, 4, 1},
                {2, 4, 5, 0}, {4, 2, 3, 0}, {4, 2, 4, 0}, {4, 2, 2, 0}, {0, 99, last, 1}, {0, 99, 0, 1}, {99, 99, 98 < last ? 98 : last, 0}};
            for (int[] one : cases) {
                String what = "trait " + t + ", " + one[0] + " to " + one[1] + " at " + one[2];
                int alone = with(t, one[2]), others = LAST_PROFILE - with(t, last - one[2]);
                due(what, held(1, t, one[0], one[1], alone), one[3]);
                due(what + ", others as great as can be", held(1, t, one[0], one[1], others), one[3]);
                due(what + ", not", held(2, t, one[0], one[1], alone), 1 - one[3]);
                due(what + ", not, others as great as can be", held(2, t, one[0], one[1], others), 1 - one[3]);
            }
        }

        says(TERMS, "0 always");
        due("for nobody", held(0, 0, 99, 0, 0), 1);
        due("for everybody", held(0, 0, 0, 99, LAST_PROFILE), 1);
    }

    private static void marksOfTests() {
        says(TERMS, "3 (MARKS) all marks of low are there, none of high");
        int none = 0, all = with(4, 31);
        due("no marks asked, none there", held(3, 0, 0, 0, none), 1);
        due("no marks asked, all there", held(3, 0, 0, 0, all), 1);
        due("all marks asked, all there", held(3, 0, 31, 0, all), 1);
        due("all marks asked, none there", held(3, 0, 31, 0, none), 0);
        due("all marks unwanted, none there", held(3, 0, 0, 31, none), 1);
        due("other traits don't matter", held(3, 0, 0, 31, 99 + 9900 + 90000 + 700000), 1);
        for (int m = 0; m < 5; m++) {
            int mark = 1 << m;
            due("one is missing", held(3, 0, 31, 0, all - with(4, mark)), 0);
            due("one is unwanted", held(3, 0, 0, 31, with(4, mark)), 0);
            due("just the one", held(3, 0, mark, 31 - mark, with(4, mark)), 1);
            due("all but the one", held(3, 0, 31 - mark, mark, all - with(4, mark)), 1);
            due("wanted and unwanted, there", held(3, 0, mark, mark, with(4, mark)), 0);
            due("wanted and unwanted, missing", held(3, 0, mark, mark, none), 0);
        }
    }

    private static void timesAndSums() {
        says(TERMS, "4 trait t, low times, is high or more");
        for (int t = 0; t < 4; t++) {
            due("just as much", held(4, t, 33, 99, with(t, 3)), 1);
            due("one time too few", held(4, t, 32, 99, with(t, 3)), 0);
            due("one too few", held(4, t, 33, 99, with(t, 2)), 0);
            due("more", held(4, t, 99, 99, with(t, LAST[t])), 1);
            due("0 is 0 or more", held(4, t, 99, 0, 0), 1);
            due("0 isn't 1 or more", held(4, t, 99, 1, 0), 0);
            due("no times is 0 or more", held(4, t, 0, 0, with(t, LAST[t])), 1);
            due("no times isn't 1 or more", held(4, t, 0, 1, with(t, LAST[t])), 0);
        }

        says(TERMS, "5 AGE and INCOME together are low to high");
        due("0 and 0", held(5, 0, 0, 0, 0), 1);
        due("0 and 1", held(5, 0, 0, 0, 100), 0);
        due("49 and 50", held(5, 0, 99, 99, 5049), 1);
        due("49 and 49", held(5, 0, 99, 99, 4949), 0);
        due("50 and 50", held(5, 0, 0, 99, 5050), 0);
        due("99 and 99", held(5, 0, 0, 99, 9999), 0);
        due("99 and 0", held(5, 0, 0, 99, 99), 1);
        due("0 and 99", held(5, 0, 0, 99, 9900), 1);
        due("others don't matter", held(5, 0, 0, 0, LAST_PROFILE - 9999), 1);
        due("low above high", held(5, 0, 51, 49, 50), 0);
    }

    // ---- promise 4: grants

    private static int granted(int sort, int t, int a, int b, int profile) {
        StatuteBook book = bookWith(1);
        due("grant(0, " + sort + ", " + t + ", " + a + ", " + b + ")", book.grant(0, sort, t, a, b), 0);
        return book.outcome(profile, 0);
    }

    private static void grantBounds() {
        says(4, "of which sort it was");
        StatuteBook b = bookWith(1);
        int was = 0;
        for (int sort : new int[] {4, 3, 2, 1, 0, 0}) {
            due("sort " + sort, b.grant(0, sort, 0, 0, sort == 1 ? 1 : 0), was);
            was = sort;
        }

        says(4, "t (by 1, 2, 4: 0 to 3; by others it must be 0)");
        for (int sort = 0; sort <= 4; sort++) {
            boolean any = sort == 1 || sort == 2 || sort == 4;
            for (int t = -1; t <= 5; t++) {
                boolean may = t >= 0 && t <= (any ? 3 : 0);
                due("sort " + sort + ", t " + t, bookWith(1).grant(0, sort, t, 0, sort == 1 ? 1 : 0), may ? 0 : -2);
            }
        }

        says(4, "b (by 0, 3, 4 it must be 0, too)");
        for (int sort = 0; sort <= 4; sort++) {
            int least = sort == 1 ? 1 : 0, most = sort == 1 || sort == 2 ? 99 : 0;
            for (int v : new int[] {-1, 0, 1, 2, 98, 99, 100}) {
                due("sort " + sort + ", b " + v, bookWith(1).grant(0, sort, 0, 0, v), v < least || v > most ? -2 : 0);
            }
        }

        says(4, "Its GRANT becomes another one");
        b.test(0, 4, 3, 98, 97);
        b.grant(0, 1, 2, 999, 99);
        int[] want = {4, 3, 98, 97, 1, 2, 999, 99, 0, 999, -1};
        for (int what = 0; what <= 10; what++) due("what " + what, b.of(0, what), want[what]);

        says(TERMS, "(a: 0 to 999; b: 0 to 99; t as above, not MARKS.)");
        for (int sort = 0; sort <= 4; sort++) {
            for (int a : new int[] {-1, 0, 999, 1000}) {
                due("sort " + sort + ", a " + a, bookWith(1).grant(0, sort, 0, a, sort == 1 ? 1 : 0), a < 0 || a > 999 ? -2 : 0);
            }
        }
        amounts();
    }

    private static void amounts() {
        says(TERMS, "0 a at once");
        due("nothing", granted(0, 0, 0, 0, LAST_PROFILE), 0);
        due("most", granted(0, 0, 999, 0, 0), 999);

        for (int t = 0; t < 4; t++) {
            int last = LAST[t], most = with(t, last), others = LAST_PROFILE - most;
            says(TERMS, "1 a for each b of trait t that are there (b 1 or more; cut)");
            due("for each, none there", granted(1, t, 999, 1, others), 0);
            due("for each one, all there", granted(1, t, 999, 1, most), 999 * last);
            due("for each as many as can be", granted(1, t, 999, last, most), 999);
            due("for each as many, one too few", granted(1, t, 999, last, most - WEIGHT[t]), 0);
            due("for each two of three", granted(1, t, 5, 2, with(t, 3)), 5);
            due("for each two of four", granted(1, t, 5, 2, with(t, 4)), 10);
            due("for each, nothing", granted(1, t, 0, 1, most), 0);

            says(TERMS, "2 a, less b for each of trait t (0 at least)");
            due("less for none", granted(2, t, 999, 99, others), 999);
            due("less nothing", granted(2, t, 999, 0, most), 999);
            due("less, all but one", granted(2, t, 7, 3, with(t, 2)), 1);
            due("less, just 0", granted(2, t, 6, 3, with(t, 2)), 0);
            due("less, one below 0", granted(2, t, 5, 3, with(t, 2)), 0);
            due("less, far below 0", granted(2, t, 0, 99, most), 0);

            says(TERMS, "4 a, but no more than trait t");
            due("no more than none", granted(4, t, 999, 0, others), 0);
            due("no more than one above", granted(4, t, 3, 0, with(t, 4)), 3);
            due("no more than just that", granted(4, t, 4, 0, with(t, 4)), 4);
            due("no more than one below", granted(4, t, 5, 0, with(t, 4)), 4);
            due("a 0", granted(4, t, 0, 0, most), 0);
        }

        says(TERMS, "3 nothing");
        due("whatever a is", granted(3, 0, 999, 0, LAST_PROFILE), 0);
    }

    // ---- promises 5, 6: spans, exceptions

    private static void spansAndExceptions() {
        says(5, "Its span becomes from, to: 1.");
        StatuteBook b = bookOf("if always then pay 7");
        int[][] spans = {{0, 999}, {0, 0}, {999, 999}, {500, 500}, {500, 501}, {1, 998}};
        for (int[] s : spans) {
            due("span", b.span(0, s[0], s[1]), 1);
            for (int day : new int[] {s[0] - 1, s[0], s[1], s[1] + 1}) {
                int want = day < 0 || day > 999 ? -2 : day < s[0] || day > s[1] ? 0 : 7;
                due("of " + s[0] + " to " + s[1] + ", day " + day, b.outcome(0, day), want);
            }
        }

        says(5, "BAD: also to less than from.");
        b.span(0, 5, 6);
        due("one less", b.span(0, 8, 7), -2);
        due("all less", b.span(0, 999, 0), -2);
        due("from -1", b.span(0, -1, 0), -2);
        due("to 1000", b.span(0, 0, 1000), -2);
        due("both 1000", b.span(0, 1000, 1000), -2);
        due("both -1", b.span(0, -1, -1), -2);
        due("clause 1", b.span(1, 0, 0), -2);
        due("as it was", b.of(0, 8) * 10 + b.of(0, 9), 56);

        says(TERMS, "(from, to: 0 to 999; 0 and 999 at first)");
        StatuteBook made = bookWith(1);
        due("from", made.of(0, 8), 0);
        due("to", made.of(0, 9), 999);

        says(6, "It is an EXCEPTION to CLAUSE d, or to none (-1): to which it was.");
        StatuteBook many = bookWith(12);
        due("none it was", many.except(11, 10), -1);
        due("10 it was", many.except(11, 0), 10);
        due("0 it was", many.except(11, -1), 0);
        due("none it was", many.except(11, -1), -1);
        due("the first can be to none alone", many.except(0, -1), -1);

        says(6, "BAD: also d not of lesser number.");
        many.except(11, 3);
        for (int c = 0; c < 12; c++) {
            due("itself", many.except(c, c), -2);
            due("the next", many.except(c, c + 1), -2);
        }
        due("d -2", many.except(11, -2), -2);
        due("d lowest", many.except(11, LOWEST), -2);
        due("d 12", many.except(11, 12), -2);
        due("clause 12, not there", many.except(12, 11), -2);
        due("clause -1", many.except(-1, -1), -2);
        due("as it was", many.of(11, 10), 3);
    }

    // ---- promises 11, 12, 14: outcomes

    private static void outcomes() {
        says(TERMS, "It STANDS, if it HOLDS, and no EXCEPTION to it STANDS.");
        StatuteBook chain = bookWith(12);
        for (int c = 1; c < 12; c++) chain.except(c, c - 1);
        for (int length = 12; length >= 1; length--) {
            due("each second of " + length, chain.hold(0, 0, 1), length % 2 == 0 ? 0xAAA & (1 << length) - 1 : 0x555 & (1 << length) - 1);
            due("all hold", chain.hold(0, 0, 0), (1 << length) - 1);
            chain.drop();
        }
        StatuteBook idle = bookOf("if age 1 1 then pay 1;if age 2 2 then pay 2 except 0;if always then pay 4 except 1");
        due("an exception that doesn't hold strikes nothing", idle.hold(1, 0, 1), 5);

        says(TERMS, "of all CLAUSES that STAND, are no EXCEPTION, or are one to a CLAUSE that HOLDS");
        due("2 stands, and 1 doesn't hold", idle.outcome(1, 0), 1);
        due("1 holds, though it doesn't stand", idle.outcome(2, 0), 4);
        due("neither", idle.outcome(3, 0), 0);

        says(11, "OUTCOME.");
        StatuteBook full = bookWith(12);
        for (int c = 0; c < 12; c++) full.grant(c, 1, c % 2, 999, 1);
        due("the most that can be", full.outcome(LAST_PROFILE, 999), 12 * 999 * 99);
        due("nothing", full.outcome(LAST_PROFILE - 9999, 0), 0);
        due("by no clauses", new StatuteBook().outcome(0, 0), 0);

        says(11, "BAD: PROFILE, DAY.");
        due("the last of both", full.outcome(LAST_PROFILE, 999) > 0 ? 1 : 0, 1);
        due("a profile behind the last", full.outcome(25600000, 999), -2);
        due("a profile ahead of the first", full.outcome(-1, 0), -2);
        due("a day behind the last", full.outcome(LAST_PROFILE, 1000), -2);
        due("a day ahead of the first", full.outcome(0, -1), -2);
        due("no clauses, no such day", new StatuteBook().outcome(0, 1000), -2);

        says(14, "CLAUSES that HOLD (what 0), STAND (1), as a set.");
        due("all of twelve hold", full.hold(0, 0, 0), 4095);
        due("all of twelve stand", full.hold(0, 0, 1), 4095);
        due("none of none", new StatuteBook().hold(0, 0, 0), 0);
        full.except(11, 0);
        due("one doesn't stand", full.hold(0, 0, 1), 4094);
        full.test(11, 1, 0, 1, 1);
        due("one doesn't hold", full.hold(0, 0, 0), 2047);

        says(14, "BAD.");
        due("what -1", full.hold(0, 0, -1), -2);
        due("what 2", full.hold(0, 0, 2), -2);
        due("day 1000", full.hold(0, 1000, 0), -2);
        due("a profile behind the last", full.hold(25600000, 0, 0), -2);
    }

    // ---- promises 12, 13: reasons

    private static void reasons() {
        says(12, "REASON.");
        StatuteBook b = bookWith(12);
        due("all of twelve, though they bring nothing", b.reason(0, 0), 4095);
        due("none of none", new StatuteBook().reason(0, 0), 0);
        b.test(0, 1, 0, 1, 1);
        b.except(11, 0);
        due("one stands and doesn't count", b.reason(0, 0), 2046);
        due("one is struck", b.reason(1, 0), 4094);

        says(12, "BAD.");
        due("a profile behind the last", b.reason(25600000, 0), -2);
        due("a profile ahead of the first", b.reason(-1, 0), -2);
        due("day 1000", b.reason(0, 1000), -2);
        due("day -1", b.reason(0, -1), -2);

        says(TERMS, "WHY NOT of a CLAUSE (the first that is so)");
        StatuteBook all = bookOf("if age 1 1 then pay 1;if age 1 1 then pay 2 from 1 to 1 except 0;if always then pay 4 except 1");
        due("all four: the day", all.why(0, 0, 1, 1), 1);
        due("the last three: the test", all.why(0, 1, 1, 1), 2);
        all.test(1, 0, 0, 0, 0);
        due("the last two: an exception", all.why(0, 1, 1, 1), 3);
        all.drop();
        due("the last one", all.why(0, 1, 1, 1), 4);
        due("none of these", all.why(1, 1, 1, 1), 0);
        due("a day behind its span", all.why(1, 2, 1, 1), 1);
        due("a day ahead of its span", all.why(1, 0, 1, 1), 1);

        says(13, "What a CLAUSE brings, if it STANDS and counts (else 0): what 0");
        due("it counts", all.why(1, 1, 1, 0), 2);
        due("it stands and doesn't count", all.why(0, 1, 1, 0), 0);
        due("it holds and doesn't stand", all.why(1, 1, 0, 0), 0);
        due("it doesn't hold", all.why(0, 0, 0, 0), 0);

        says(13, "the least EXCEPTION to it that STANDS (2; NONE)");
        StatuteBook many = bookWith(12);
        due("none", many.why(0, 0, 0, 2), -1);
        due("none to the last", many.why(0, 0, 11, 2), -1);
        for (int c = 11; c >= 1; c--) {
            many.except(c, 0);
            due("the least of " + (12 - c), many.why(0, 0, 0, 2), c);
        }
        many.test(1, 1, 0, 1, 1);
        due("the next, as the least doesn't hold", many.why(0, 0, 0, 2), 2);
        many.except(3, 2);
        due("the next, as the least is struck", many.why(0, 0, 0, 2), 4);
        due("none to 1", many.why(0, 0, 1, 2), -1);

        says(13, "BAD.");
        due("what -1", many.why(0, 0, 0, -1), -2);
        due("what 3", many.why(0, 0, 0, 3), -2);
        due("clause -1", many.why(0, 0, -1, 2), -2);
        due("clause 12", many.why(0, 0, 12, 2), -2);
        due("no clauses", new StatuteBook().why(0, 0, 0, 0), -2);
        due("day 1000", many.why(0, 1000, 0, 1), -2);
    }

    // ---- promises 15 to 18: along a trait

    private static void along() {
        bests();
        jumps();
        bends();
        enoughs();
    }

    private static void bests() {
        says(15, "with which OUTCOME is most: what 0 that, of several the least; 1 OUTCOME then");
        for (int t = 0; t < 4; t++) {
            int last = LAST[t];
            for (int v : new int[] {0, 1, last - 1, last}) {
                StatuteBook b = bookOf("if " + TRAITS[t] + " " + v + " " + v + " then pay 9");
                due("alone at " + v, b.best(LAST_PROFILE, 999, t, 0), v);
                due("alone at " + v + ", outcome", b.best(0, 0, t, 1), 9);
            }
            StatuteBook ends = bookOf("if " + TRAITS[t] + " not 2 " + (last - 1) + " then pay 9");
            due("of several the least", ends.best(with(t, last), 0, t, 0), 0);
            StatuteBook late = bookOf("if " + TRAITS[t] + " 2 99 then pay 9;if " + TRAITS[t] + " 3 99 then pay 1");
            due("of several the least", late.best(with(t, last), 0, t, 0), 3);
            due("outcome then", late.best(0, 0, t, 1), 10);
            due("all alike, at nothing", new StatuteBook().best(with(t, last), 0, t, 0), 0);
            due("all alike, at nothing, outcome", new StatuteBook().best(with(t, last), 0, t, 1), 0);
        }
        StatuteBook others = bookOf("if place 7 7 then per age 1 1");
        due("all others as they are", others.best(with(3, 7), 0, 0, 0), 99);
        due("all others as they are", others.best(with(3, 6), 0, 0, 0), 0);

        says(15, "BAD.");
        due("t 4", others.best(0, 0, 4, 0), -2);
        due("t -1", others.best(0, 0, -1, 0), -2);
        due("what 2", others.best(0, 0, 0, 2), -2);
        due("what -1", others.best(0, 0, 0, -1), -2);
    }

    private static void dueJumps(StatuteBook b, int profile, int t, int... want) {
        for (int what = 0; what < 5; what++) due("along " + t + ", what " + what, b.jumps(profile, 0, t, what), want[what]);
    }

    private static void jumps() {
        says(16, "JUMPS: how many (0), the first v (1; NONE); CLIFFS: how many (2), the v of the highest, of several the least (3; NONE), its height (4; 0)");
        for (int t = 0; t < 4; t++) {
            int last = LAST[t];
            String trait = TRAITS[t];
            dueJumps(new StatuteBook(), 0, t, 0, -1, 0, -1, 0);
            dueJumps(bookOf("if " + trait + " 0 0 then pay 1"), 0, t, 1, 1, 1, 1, 1);
            dueJumps(bookOf("if " + trait + " 1 99 then pay 1"), 0, t, 1, 1, 0, -1, 0);
            dueJumps(bookOf("if " + trait + " " + last + " 99 then pay 1"), 0, t, 1, last, 0, -1, 0);
            dueJumps(bookOf("if " + trait + " 0 " + (last - 1) + " then pay 999"), 0, t, 1, last, 1, last, 999);
            dueJumps(bookOf("if always then per " + trait + " 1 1"), LAST_PROFILE, t, last, 1, 0, -1, 0);
            dueJumps(bookOf("if always then less " + trait + " 999 1"), LAST_PROFILE, t, last, 1, last, 1, 1);
            dueJumps(bookOf("if " + trait + " 1 2 then pay 5;if " + trait + " 4 4 then pay 5"), 0, t, 4, 1, 2, 3, 5);
            dueJumps(bookOf("if " + trait + " 1 2 then pay 5;if " + trait + " 4 4 then pay 6"), 0, t, 4, 1, 2, 5, 6);
            dueJumps(bookOf("if " + trait + " 1 2 then pay 5;if " + trait + " 3 3 then pay 5"), 0, t, 2, 1, 1, 4, 5);
        }

        says(16, "BAD.");
        StatuteBook b = new StatuteBook();
        due("what 5", b.jumps(0, 0, 0, 5), -2);
        due("what -1", b.jumps(0, 0, 0, -1), -2);
        due("t 4", b.jumps(0, 0, 4, 0), -2);
        due("t -1", b.jumps(0, 0, -1, 0), -2);
    }

    private static void dueBends(StatuteBook b, int profile, int t, int... want) {
        for (int what = 0; what < 3; what++) due("along " + t + ", what " + what, b.bends(profile, 0, t, what), want[what]);
    }

    private static void bends() {
        says(17, "BENDS: how many (0), the first v (1; NONE); how many numbers LEVEL has (2)");
        for (int t = 0; t < 4; t++) {
            int last = LAST[t];
            String trait = TRAITS[t];
            dueBends(new StatuteBook(), 0, t, 0, -1, last + 1);
            dueBends(bookOf("if always then per " + trait + " 3 1"), LAST_PROFILE, t, 0, -1, 1);
            dueBends(bookOf("if " + trait + " 0 0 then pay 1"), 0, t, 1, 2, last);
            dueBends(bookOf("if " + trait + " 1 1 then pay 1"), 0, t, 2, 2, last - 1);
            dueBends(bookOf("if " + trait + " 2 99 then pay 1"), 0, t, 2, 2, last - 1);
            dueBends(bookOf("if " + trait + " " + last + " 99 then pay 1"), 0, t, 1, last, last);
            dueBends(bookOf("if " + trait + " 3 99 then per " + trait + " 1 1"), 0, t, 2, 3, 3);
            dueBends(bookOf("if " + trait + " not 0 " + (last - 2) + " then pay 1"), 0, t, 2, last - 1, last - 1);
            dueBends(bookOf("if always then cap " + trait + " " + (last - 1)), 0, t, 1, last, 2);
            dueBends(bookOf("if always then cap " + trait + " 1"), 0, t, 1, 2, last);
        }

        says(17, "BAD.");
        StatuteBook b = new StatuteBook();
        due("what 3", b.bends(0, 0, 0, 3), -2);
        due("what -1", b.bends(0, 0, 0, -1), -2);
        due("t 4", b.bends(0, 0, 4, 0), -2);
        due("t -1", b.bends(0, 0, -1, 0), -2);
    }

    private static void enoughs() {
        says(18, "the least number with which OUTCOME is v (0 or more) or more");
        for (int t = 0; t < 4; t++) {
            int last = LAST[t];
            StatuteBook b = bookOf("if always then per " + TRAITS[t] + " 10 1");
            due("0 is always there", b.enough(LAST_PROFILE, 0, t, 0), 0);
            due("1", b.enough(LAST_PROFILE, 0, t, 1), 1);
            due("just as much", b.enough(LAST_PROFILE, 0, t, 10), 1);
            due("one more", b.enough(LAST_PROFILE, 0, t, 11), 2);
            due("the most", b.enough(0, 0, t, 10 * last), last);
        }

        says(18, "BAD; NONE.");
        StatuteBook b = bookOf("if always then per place 10 1");
        due("one more than the most", b.enough(0, 0, 3, 71), -1);
        due("as much as can be asked", b.enough(0, 0, 3, HIGHEST), -1);
        due("v -1", b.enough(0, 0, 3, -1), -2);
        due("v lowest", b.enough(0, 0, 3, LOWEST), -2);
        due("t 4", b.enough(0, 0, 4, HIGHEST), -2);
        due("t -1", b.enough(0, 0, -1, HIGHEST), -2);
        due("no clauses", new StatuteBook().enough(0, 0, 0, 1), -1);
        due("no clauses, 0", new StatuteBook().enough(0, 0, 0, 0), 0);
    }

    // ---- promises 19, 20: share, mean

    private static StatuteBook richest() {
        StatuteBook b = bookWith(12);
        for (int c = 0; c < 12; c++) b.grant(c, 1, c % 2, 999, 1);
        return b;
    }

    private static void sharesAndMeans() {
        says(19, "Double.doubleToLongBits of (double) OUTCOME / n (n 1 to 9)");
        StatuteBook rich = richest(), one = bookOf("if always then pay 1");
        for (int n = 1; n <= 9; n++) {
            due("nothing by " + n, rich.share(0, 0, n), 0);
            due("1 by " + n, one.share(0, 0, n), Double.doubleToLongBits(1.0 / n));
            due("the most by " + n, rich.share(9999, 0, n), Double.doubleToLongBits(1186812.0 / n));
        }

        says(19, "BAD.");
        for (int n : new int[] {0, -1, 10, LOWEST, HIGHEST}) due("n " + n, rich.share(0, 0, n), NO - 2);
        due("day 1000", rich.share(0, 1000, 1), NO - 2);
        due("a profile behind the last", rich.share(25600000, 0, 1), NO - 2);

        says(20, "added up from 0.0f in that order: Float.floatToIntBits of the sum");
        for (int seed : new int[] {1, 0, -1, LOWEST, HIGHEST, 5}) {
            StatuteBook thirds = bookOf("if always then per age 7 3;if income 0 60 then less children 999 99");
            thirds.seed(seed);
            int[] z = {seed};
            float sum = 0.0f;
            for (int n = 1; n <= 20; n++) {
                int p = drawnProfile(z);
                sum = sum + (float) thirds.outcome(p, 3) / (1 + p / 10000 % 10);
                due("of " + n + ", z " + seed, thirds.mean(3, n), Float.floatToIntBits(sum));
            }
        }
        due("of nothing", new StatuteBook().mean(0, 20), 0);
        int[] z = {1};
        float most = 0.0f;
        for (int n = 1; n <= 20; n++) {
            int p = drawnProfile(z);
            most = most + (float) (6 * 999 * (p % 100 + p / 100 % 100)) / (1 + p / 10000 % 10);
        }
        due("as great as can be", rich.mean(999, 20), Float.floatToIntBits(most));

        says(20, "one behind another, in thought (z as it is)");
        due("z", rich.count(3), 1);
        due("asked again", rich.mean(999, 20), Float.floatToIntBits(most));

        says(20, "BAD.");
        for (int n : new int[] {0, -1, 21, LOWEST, HIGHEST}) due("n " + n, rich.mean(0, n), -2);
        due("day -1", rich.mean(-1, 1), -2);
        due("day 1000", rich.mean(1000, 20), -2);
        due("z stays", rich.count(3), 1);
    }

    private static int drawnProfile(int[] z) {
        int[] by = {100, 100, 10, 8, 32};
        int p = 0;
        for (int t = 0; t < 5; t++) {
            z[0] = z[0] * 1103515245 + 12345;
            p += (z[0] >>> 16) % by[t] * WEIGHT[t];
        }
        return p;
    }

    // ---- promises 21, 25, 33: days, draws

    private static void days() {
        says(21, "The first DAY behind day (999 at most) on which OUTCOME isn't that of day.");
        StatuteBook b = bookOf("if always then pay 7 from 0 to 0;if always then pay 7 from 2 to 998");
        due("the very next", b.until(0, 0), 1);
        due("the next", b.until(0, 1), 2);
        due("the last", b.until(0, 2), 999);
        due("the last, from the day ahead", b.until(0, 998), 999);
        b.span(1, 1, 998);
        due("one takes the other's place", b.until(0, 0), 999);

        StatuteBook edges = bookWith(12);
        for (int c = 0; c < 12; c++) edges.span(c, 10 + c, 100 + c);
        edges.except(1, 0);
        edges.span(0, 10, 999);
        edges.span(1, 5, 997);
        edges.grant(0, 0, 0, 5, 0);
        due("behind all days on which something else begins or ends", edges.until(0, 0), 998);

        says(21, "BAD; NONE.");
        due("the last day has none behind it", b.until(0, 999), -1);
        due("as long as days go", bookOf("if always then pay 1").until(0, 0), -1);
        due("no clauses", new StatuteBook().until(0, 0), -1);
        due("day 1000", b.until(0, 1000), -2);
        due("day -1", b.until(0, -1), -2);
        due("a profile behind the last", b.until(25600000, 999), -2);
        due("a profile ahead of the first", b.until(-1, 999), -2);

        says(33, "z becomes v: what it was.");
        StatuteBook s = new StatuteBook();
        due("1 at first", s.seed(HIGHEST), 1);
        due("the greatest", s.seed(LOWEST), HIGHEST);
        due("the least", s.seed(0), LOWEST);
        due("0", s.count(3), 0);

        says(TERMS, "z (an int; 1 at first) becomes z * 1103515245 + 12345, the DRAW is z >>> 16");
        for (int seed : new int[] {0, 1, -1, LOWEST, HIGHEST, 1 << 30}) {
            StatuteBook wrap = bookOf("if always then pay 1");
            wrap.seed(seed);
            long z = seed;
            for (int i = 0; i < 5; i++) z = z * 1103515245L + 12345L;
            due("drawn with z " + seed, wrap.drawn(0, 1), 1);
            due("z wraps around", wrap.count(3), (int) z);
        }
        draws();
    }

    private static void draws() {
        says(25, "Of n (1 to 50) PROFILES DRAWN, truly, one behind another: how many are TOUCHED on a DAY.");
        for (int n : new int[] {1, 2, 49, 50}) {
            StatuteBook b = bookOf("if always then pay 1");
            int[] z = {1};
            for (int i = 0; i < n; i++) drawnProfile(z);
            due("all of " + n, b.drawn(0, n), n);
            due("five draws each", b.count(3), z[0]);
            b.mark();
            due("none of " + n, b.drawn(999, n), 0);
        }
        for (int t = 0; t < 5; t++) {
            for (int v : new int[] {0, LAST[t]}) {
                StatuteBook b = bookWith(1);
                b.grant(0, 0, 0, 1, 0);
                if (t < 4) b.test(0, 1, t, v, v);
                else b.test(0, 3, 0, v, 31 - v);
                b.seed(0);
                int[] z = {0};
                int met = 0;
                for (int i = 0; i < 400; i++) met += drawnProfile(z) / WEIGHT[t] % (LAST[t] + 1) == v ? 1 : 0;
                int got = 0;
                for (int i = 0; i < 8; i++) got += b.drawn(0, 50);
                due("trait " + t + " as " + v + ", of 400", got, met);
                due("some are met (1)", met > 0 ? 1 : 0, 1);
            }
        }

        says(25, "BAD.");
        StatuteBook b = new StatuteBook();
        for (int n : new int[] {0, -1, 51, LOWEST, HIGHEST}) due("n " + n, b.drawn(0, n), -2);
        due("day -1", b.drawn(-1, 1), -2);
        due("day 1000", b.drawn(1000, 50), -2);
        due("nothing was drawn", b.count(3), 1);
    }

    // ---- promises 22 to 24: amendments

    private static void amendments() {
        says(22, "CLAUSES are marked as they are now: how many.");
        StatuteBook b = new StatuteBook();
        due("none", b.mark(), 0);
        for (int c = 0; c < 12; c++) {
            b.clause();
            b.grant(c, 0, 0, 100, 0);
        }
        due("all is more than none", b.touched(0, 0), 1200);
        due("twelve", b.mark(), 12);
        due("as marked", b.touched(0, 0), 0);
        due("marked again", b.mark(), 12);

        says(22, "CLAUSES are marked as they are now");
        b.grant(11, 0, 0, 101, 0);
        due("what is changed later isn't marked", b.touched(0, 0), 1);
        b.except(11, 10);
        due("an exception later", b.touched(0, 0), -99);
        for (int c = 0; c < 12; c++) b.drop();
        due("all dropped", b.touched(LAST_PROFILE, 999), -1200);
        due("none is marked", b.mark(), 0);
        due("none and none", b.touched(0, 0), 0);

        says(23, "(0: it isn't; it may be as low as refusals)");
        for (int by : new int[] {1, 2, 3, 4, 11, 12, 13, 14, 100, 999}) {
            StatuteBook less = bookOf("if always then pay " + by);
            due("more by " + by, less.touched(0, 0), by);
            less.mark();
            less.drop();
            due("less by " + by, less.touched(0, 0), -by);
        }
        StatuteBook rich = richest();
        due("the most", rich.touched(9999, 0), 1186812);
        rich.mark();
        for (int c = 0; c < 12; c++) rich.drop();
        due("the least", rich.touched(9999, 0), -1186812);
        StatuteBook same = bookOf("if always then pay 6;if always then pay 4");
        same.mark();
        same.grant(0, 0, 0, 5, 0);
        same.grant(1, 0, 0, 5, 0);
        due("by other clauses as much: it isn't", same.touched(0, 0), 0);

        says(23, "BAD.");
        due("day 1000", rich.touched(0, 1000), -2);
        due("day -1", rich.touched(0, -1), -2);
        due("a profile behind the last", rich.touched(25600000, 0), -2);
        due("a profile ahead of the first", rich.touched(-1, 0), -2);
        touches();
    }

    private static void dueTouches(StatuteBook b, int profile, int t, int... want) {
        for (int what = 0; what < 4; what++) due("along " + t + ", what " + what, b.touches(profile, 0, t, what), want[what]);
    }

    private static void touches() {
        says(TERMS, "(none, if there was no mark())");
        for (int t = 0; t < 4; t++) dueTouches(bookOf("if always then pay 1"), LAST_PROFILE, t, LAST[t] + 1, 0, 1, 0);

        says(24, "how many numbers are TOUCHED (0), the least (1; NONE), by how much most (2; the greatest difference either way, told as 0 or more), how many have less now (3)");
        for (int t = 0; t < 4; t++) {
            int last = LAST[t];
            String trait = TRAITS[t];
            dueTouches(new StatuteBook(), 0, t, 0, -1, 0, 0);
            for (int v : new int[] {0, 1, last}) {
                StatuteBook b = bookOf("if " + trait + " " + v + " " + v + " then pay 1");
                dueTouches(b, LAST_PROFILE, t, 1, v, 1, 0);
                b.mark();
                dueTouches(b, LAST_PROFILE, t, 0, -1, 0, 0);
                b.drop();
                dueTouches(b, LAST_PROFILE, t, 1, v, 1, 1);
            }
            StatuteBook both = bookOf("if " + trait + " 1 3 then pay 9;if " + trait + " 4 5 then pay 3");
            both.mark();
            both.grant(0, 0, 0, 2, 0);
            both.grant(1, 0, 0, 9, 0);
            dueTouches(both, 0, t, 5, 1, 7, 3);
            both.grant(1, 0, 0, 11, 0);
            dueTouches(both, 0, t, 5, 1, 8, 3);
        }

        says(24, "BAD.");
        StatuteBook b = new StatuteBook();
        due("what 4", b.touches(0, 0, 0, 4), -2);
        due("what -1", b.touches(0, 0, 0, -1), -2);
        due("t 4", b.touches(0, 0, 4, 0), -2);
        due("t -1", b.touches(0, 0, -1, 0), -2);
        due("day 1000", b.touches(0, 1000, 0, 0), -2);
    }

    // ---- promises 26 to 29: the register

    private static void fileNumbers(StatuteBook b, int from, int to) {
        for (int k = from; k <= to; k++) {
            b.grant(0, 0, 0, k, 0);
            due("the place of " + k, b.file(0), k);
        }
    }

    private static void register() {
        says(26, "FULL: it would be a 17th.");
        StatuteBook b = bookWith(2);
        fileNumbers(b, 0, 15);
        b.grant(0, 0, 0, 16, 0);
        due("a 17th", b.file(0), -4);
        due("nowhere", b.filed(0, 0), -1);
        due("never", b.filed(0, 1), 0);
        due("sixteen are left", b.count(1), 16);
        due("one that is there, of a full register", b.file(1), 0);
        b.grant(0, 0, 0, 15, 0);
        due("the last that is there", b.file(0), 15);

        says(26, "BAD; FULL");
        due("clause 2", b.file(2), -2);
        due("clause -1", b.file(-1), -2);
        due("no clauses", new StatuteBook().file(0), -2);

        says(26, "What a CLAUSE says is FILED: its place (from 0)");
        due("filed anew", new int[] {b.forget(), b.file(1)}[1], 0);
        due("filed again", b.file(1), 0);

        says(27, "Where what a CLAUSE says stands (what 0; NONE: nowhere), how often it was FILED (1; 0).");
        due("twice", b.filed(1, 1), 2);
        due("first", b.filed(1, 0), 0);
        due("nowhere", b.filed(0, 0), -1);
        due("never", b.filed(0, 1), 0);
        for (int i = 0; i < 100; i++) b.file(1);
        due("102 times", b.filed(1, 1), 102);

        says(27, "BAD.");
        due("what 2", b.filed(0, 2), -2);
        due("what -1", b.filed(0, -1), -2);
        due("clause 2", b.filed(2, 0), -2);
        due("clause -1", b.filed(-1, 0), -2);

        says(TERMS, "TEST with how, t, low, high, GRANT with sort, t, a, b; no spans, no EXCEPTIONS");
        b.span(1, 7, 8);
        b.except(1, 0);
        due("spans and exceptions aren't said", b.filed(1, 0), 0);

        says(29, "THE REGISTER is empty: how many it kept.");
        due("one", b.forget(), 1);
        due("none", b.forget(), 0);
        due("nowhere", b.filed(1, 0), -1);
        due("never", b.filed(1, 1), 0);
        fileNumbers(b, 0, 15);

        says(29, "how many it kept");
        due("as many as can be", b.forget(), 16);
        due("once, not as often as before", new int[] {b.file(0), b.filed(0, 1)}[1], 1);
        saidApart();
    }

    private static void saidApart() {
        int[][] said = {{0, 0, 0, 0, 0, 0, 0, 0}, {3, 0, 0, 0, 0, 0, 0, 0}, {1, 0, 0, 0, 0, 0, 0, 0}, {1, 1, 0, 0, 0, 0, 0, 0}, {1, 0, 1, 0, 0, 0, 0, 0},
            {1, 0, 0, 1, 0, 0, 0, 0}, {0, 0, 0, 0, 3, 0, 0, 0}, {0, 0, 0, 0, 2, 0, 0, 0}, {0, 0, 0, 0, 2, 1, 0, 0}, {0, 0, 0, 0, 2, 0, 1, 0},
            {0, 0, 0, 0, 2, 0, 0, 1}, {0, 0, 0, 1, 0, 0, 0, 0}};
        StatuteBook b = bookWith(12);
        says(28, "How many CLAUSES say the same as another one (each of these, too).");
        due("all of twelve", b.alike(), 12);
        for (int c = 0; c < 12; c++) {
            b.test(c, said[c][0], said[c][1], said[c][2], said[c][3]);
            b.grant(c, said[c][4], said[c][5], said[c][6], said[c][7]);
            due("all but " + (c + 1), b.alike(), c == 0 ? 12 : c == 11 ? 0 : 12 - c);
        }
        says(28, "say the same as another one");
        due("none of none", new StatuteBook().alike(), 0);
        due("one alone", bookWith(1).alike(), 0);
        due("two", bookWith(2).alike(), 2);
        StatuteBook pairs = bookWith(4);
        pairs.grant(0, 0, 0, 1, 0);
        pairs.grant(3, 0, 0, 1, 0);
        pairs.span(3, 1, 1);
        pairs.except(3, 2);
        due("two and two", pairs.alike(), 4);
        says(26, "What a CLAUSE says is FILED");
        for (int c = 0; c < 12; c++) due("each says another thing", b.file(c), c);
    }

    // ---- promises 30, 31: the tape

    private static void tape() {
        says(30, "(n 1 to 4): how many it has");
        StatuteBook b = new StatuteBook();
        int has = 0;
        for (int n = 1; n <= 4; n++) {
            has += n;
            due("n " + n, b.feed(0, n), has);
        }

        says(30, "THE TAPE gets the n lowest bytes of a number behind it, the highest of these first");
        String law = "if always then pay 7";
        for (int n = 1; n <= 4; n++) {
            StatuteBook by = new StatuteBook();
            int left = law.length();
            for (int i = 0; left > 0; i += n) {
                int some = Math.min(n, left), number = 'z';
                for (int k = 0; k < some; k++) number = number << 8 | law.charAt(i + k);
                by.feed(number, some);
                left -= some;
            }
            due("bytes by " + n, by.text(), 1);
            due("as it stood", by.outcome(0, 0), 7);
        }
        StatuteBook high = new StatuteBook();
        feed(high, "if always then pay 7");
        high.feed(-1, 1);
        due("byte 255 is one byte", high.count(2), 21);
        due("byte 255 begins no token", high.text(), -120);

        says(30, "BAD: n; FULL.");
        StatuteBook full = new StatuteBook();
        for (int i = 0; i < 29; i++) full.feed(0x20202020, 4);
        full.feed(0x20202020, 3);
        due("119, and two more", full.feed(0x2020, 2), -4);
        due("119, and four more", full.feed(0x20202020, 4), -4);
        due("still 119", full.count(2), 119);
        due("the 120th", full.feed(' ', 1), 120);
        due("the 121st", full.feed(' ', 1), -4);
        due("n 0", full.feed(0, 0), -2);
        due("n 5", full.feed(0, 5), -2);
        due("still 120", full.count(2), 120);

        says(TERMS, "THE TAPE takes bytes, 120 at most");
        due("a full tape that ends too early", full.text(), -220);

        says(31, "THE TAPE is empty: how many it had.");
        due("none", full.wipe(), 0);
        for (int i = 0; i < 30; i++) full.feed(0, 4);
        due("as many as can be", full.wipe(), 120);
        due("none", full.wipe(), 0);
        due("room again", full.feed(0, 1), 1);
        full.wipe();
        says(31, "THE TAPE is empty");
        feed(full, "no law");
        full.wipe();
        due("nothing of it is read", read(full, "if always then pay 7"), 1);
    }

    // ---- terms 3, promise 32: texts

    private static void dueRead(String text, int clause, int... want) {
        StatuteBook b = bookWith(clause);
        due("'" + text + "'", read(b, text), 1);
        for (int what = 0; what < want.length; what++) due("'" + text + "', what " + what, b.of(clause, what), want[what]);
        due("'" + text + "', the tape is empty then", b.count(2), 0);
    }

    /** The fault is where the sign | stands. */
    private static void dueFault(int clauses, String marked) {
        int place = marked.indexOf('|');
        String text = marked.substring(0, place) + marked.substring(place + 1);
        StatuteBook b = bookWith(clauses);
        due("'" + marked + "'", read(b, text), -100 - place);
        due("'" + marked + "', clauses", b.count(0), clauses);
        due("'" + marked + "', the tape is empty then", b.count(2), 0);
    }

    private static void tokens() {
        says(TERMS, "TOKENS, each as long as can be");
        dueFault(1, "if |alwaysthen pay 1");
        dueFault(1, "|ifalways then pay 1");
        dueFault(1, "if always then |payage 1");
        dueFault(1, "if age 12 |345then pay 1");
        dueFault(1, "if age 12|");
        dueRead("if age12 34then pay5from6to7except0", 1, 1, 0, 12, 34, 0, 0, 5, 0, 6, 7, 0);

        says(TERMS, "WORDS (a to z)");
        for (char sign : new char[] {'`', '{', '@', '[', 'A', 'Z', 'I', 0, 127, 128, 255}) {
            dueFault(1, "|" + sign + "f always then pay 1");
            dueFault(1, "if|" + sign + " always then pay 1");
        }
        dueFault(1, "|ifa always then pay 1");
        dueFault(1, "|ifz always then pay 1");
        dueFault(1, "if always then pay 1 |zzz");

        says(TERMS, "NUMBERS (digits, 999 at most in value)");
        for (char sign : new char[] {'/', ':', '-', '+', '.'}) dueFault(1, "if always then pay 1|" + sign + "1");
        dueRead("if always then pay 999", 0, 0, 0, 0, 0, 0, 0, 999);
        dueRead("if always then pay 0000000000000000000000000000000000000000000000000999", 0, 0, 0, 0, 0, 0, 0, 999);
        dueRead("if always then pay 0000000000", 0, 0, 0, 0, 0, 0, 0, 0);
        dueFault(0, "if always then pay |1000");
        dueFault(0, "if always then pay |0001000");
        dueFault(0, "if always then pay |4294967296");
        dueFault(0, "if always then pay |4294967301");
        dueFault(0, "if always then pay |18446744073709551617");
        dueFault(0, "if always then pay |99999999999999999999999999999999999999999999999999999999999999999999999999999999999999999999999999");

        says(TERMS, "blanks (32) may stand between");
        dueRead("   if   always   then   pay   5   ", 0, 0, 0, 0, 0, 0, 0, 5);
        dueFault(0, "|\tif always then pay 1");
        dueFault(0, "if|\nalways then pay 1");
        dueFault(0, "if|\u001falways then pay 1");
        dueFault(0, "if|!always then pay 1");
        dueFault(0, "if|\u00a0always then pay 1");
        dueFault(0, "|i f always then pay 1");
        dueFault(0, "if always then pay 1 |2");
    }

    private static void laws() {
        says(TERMS, "TEXT: LAW { ; LAW }");
        StatuteBook b = new StatuteBook();
        due("as many as a tape holds", read(b, "if age0 0then pay1;if age0 0then pay1;if age0 0then pay1;if age0 0then pay1;if age0 0then pay1;if age0 0then pay1"), 6);
        due("all are so", b.outcome(0, 0), 6);
        due("twelve", read(b, "if age0 0then pay1;if age0 0then pay1;if age0 0then pay1;if age0 0then pay1;if age0 0then pay1;if age0 0then pay1 "), 6);
        due("all are so", b.outcome(0, 0), 12);
        StatuteBook full = new StatuteBook();
        String law = "if always then pay 7";
        feed(full, " ".repeat(120 - law.length()) + law);
        due("a full tape", full.text(), 1);
        due("the last byte counts", full.outcome(0, 0), 7);

        says(TERMS, "perhaps from NUMBER to NUMBER (0 to 999, the second no less)");
        dueRead("if always then nothing from 0 to 0", 0, 0, 0, 0, 0, 3, 0, 0, 0, 0, 0, -1);
        dueRead("if always then nothing from 999 to 999", 0, 0, 0, 0, 0, 3, 0, 0, 0, 999, 999, -1);
        dueRead("if always then nothing from 0 to 999", 0, 0, 0, 0, 0, 3, 0, 0, 0, 0, 999, -1);
        dueRead("if always then nothing from 9 to 9", 0, 0, 0, 0, 0, 3, 0, 0, 0, 9, 9, -1);
        dueFault(1, "if always then nothing from 9 to |8");
        dueFault(1, "if always then nothing from |1000 to 1000");
        dueFault(1, "if always then nothing from 0 to |1000");

        says(TERMS, "perhaps except NUMBER (a CLAUSE there is by then): a CLAUSE more");
        dueFault(0, "if always then nothing except |0");
        dueRead("if always then nothing except 0", 1, 0, 0, 0, 0, 3, 0, 0, 0, 0, 999, 0);
        dueFault(1, "if always then nothing except |1");
        dueRead("if always then nothing except 10", 11, 0, 0, 0, 0, 3, 0, 0, 0, 0, 999, 10);
        dueFault(11, "if always then nothing except |11");
        dueRead("if always then nothing from 3 to 4 except 0", 1, 0, 0, 0, 0, 3, 0, 0, 0, 3, 4, 0);
        dueFault(1, "if always then nothing except 0 |from 3 to 4");
        StatuteBook own = new StatuteBook();
        due("one of the same text", read(own, "if always then pay 1;if always then pay 2 except 0"), 2);
        due("one of the same text", own.of(1, 10), 0);
        dueFault(0, "if always then pay 1;if always then pay 2 except |1");

        testsOfLaws();
        grantsOfLaws();
    }

    private static void testsOfLaws() {
        says(TERMS, "age, income, children or place, perhaps not, NUMBER NUMBER (low, high; 0 to 99 each)");
        for (int t = 0; t < 4; t++) {
            dueRead("if " + TRAITS[t] + " 0 99 then nothing", 0, 1, t, 0, 99, 3, 0, 0, 0, 0, 999, -1);
            dueRead("if " + TRAITS[t] + " 99 0 then nothing", 0, 1, t, 99, 0, 3, 0, 0, 0, 0, 999, -1);
            dueRead("if " + TRAITS[t] + " not 0 99 then nothing", 0, 2, t, 0, 99, 3, 0, 0, 0, 0, 999, -1);
            dueFault(1, "if " + TRAITS[t] + " |100 0 then nothing");
            dueFault(1, "if " + TRAITS[t] + " 0 |100 then nothing");
            dueFault(1, "if " + TRAITS[t] + " not |100 0 then nothing");
            dueFault(1, "if " + TRAITS[t] + " not 0 |100 then nothing");
            dueFault(1, "if " + TRAITS[t] + " not |not 0 0 then nothing");
        }

        says(TERMS, "marks NUMBER NUMBER (0 to 31 each)");
        dueRead("if marks 0 31 then nothing", 0, 3, 0, 0, 31, 3, 0, 0, 0, 0, 999, -1);
        dueRead("if marks 31 0 then nothing", 0, 3, 0, 31, 0, 3, 0, 0, 0, 0, 999, -1);
        dueFault(1, "if marks |32 0 then nothing");
        dueFault(1, "if marks 0 |32 then nothing");
        dueFault(1, "if marks |not 0 0 then nothing");

        says(TERMS, "TEST: always");
        dueRead("if always then nothing", 0, 0, 0, 0, 0, 3, 0, 0, 0, 0, 999, -1);
        dueFault(1, "if always |not then nothing");
        dueFault(1, "if always |0 0 then nothing");
    }

    private static void grantsOfLaws() {
        says(TERMS, "(a 0 to 999, b as told at GRANTS.)");
        dueRead("if always then pay 0", 0, 0, 0, 0, 0, 0, 0, 0, 0);
        dueRead("if always then pay 999", 0, 0, 0, 0, 0, 0, 0, 999, 0);
        dueFault(1, "if always then pay |1000");
        for (int t = 0; t < 4; t++) {
            dueRead("if always then per " + TRAITS[t] + " 0 1", 0, 0, 0, 0, 0, 1, t, 0, 1);
            dueRead("if always then per " + TRAITS[t] + " 999 99", 0, 0, 0, 0, 0, 1, t, 999, 99);
            dueFault(1, "if always then per " + TRAITS[t] + " 999 |0");
            dueFault(1, "if always then per " + TRAITS[t] + " 999 |100");
            dueFault(1, "if always then per " + TRAITS[t] + " |1000 1");
            dueRead("if always then less " + TRAITS[t] + " 0 0", 0, 0, 0, 0, 0, 2, t, 0, 0);
            dueRead("if always then less " + TRAITS[t] + " 999 99", 0, 0, 0, 0, 0, 2, t, 999, 99);
            dueFault(1, "if always then less " + TRAITS[t] + " 999 |100");
            dueFault(1, "if always then less " + TRAITS[t] + " |1000 0");
            dueRead("if always then cap " + TRAITS[t] + " 0", 0, 0, 0, 0, 0, 4, t, 0, 0);
            dueRead("if always then cap " + TRAITS[t] + " 999", 0, 0, 0, 0, 0, 4, t, 999, 0);
            dueFault(1, "if always then cap " + TRAITS[t] + " |1000");
            dueFault(1, "if always then cap " + TRAITS[t] + " 999 |0");
        }

        says(TERMS, "WORD: age, income, children, place");
        for (String grant : new String[] {"per", "less", "cap"}) {
            dueFault(1, "if always then " + grant + " |marks 1 1");
            dueFault(1, "if always then " + grant + " |always 1 1");
            dueFault(1, "if always then " + grant + " |5 1 1");
        }
    }

    private static void faults() {
        says(TERMS, "or how many bytes there are, if it ends too early");
        String whole = "if age not 1 22 then per income 333 44 from 5 to 66 except 0";
        String[] starts = {"", "if", "if age", "if age not", "if age not 1", "if age not 1 22", "if age not 1 22 then", "if age not 1 22 then per",
            "if age not 1 22 then per income", "if age not 1 22 then per income 333", "if age not 1 22 then per income 333 44 from",
            "if age not 1 22 then per income 333 44 from 5", "if age not 1 22 then per income 333 44 from 5 to",
            "if age not 1 22 then per income 333 44 from 5 to 66 except", whole + ";"};
        for (String start : starts) {
            dueFault(1, start + "|");
            dueFault(1, start + "   |");
        }

        says(TERMS, "the place (from 0) of the first byte of the first TOKEN that can't stand there");
        String[] tokens = whole.split(" ");
        int place = 0;
        for (int k = 0; k < tokens.length; k++) {
            boolean mayEnd = tokens[k].equals("from") || tokens[k].equals("except");
            dueFault(1, whole.substring(0, place) + (mayEnd ? "; |" : "|; ") + whole.substring(place));
            dueFault(1, whole.substring(0, place) + "|x " + whole.substring(place));
            dueFault(1, whole.substring(0, place) + "|? " + whole.substring(place));
            place += tokens[k].length() + 1;
        }
        dueFault(1, "|then ? 1000 if");
        dueFault(1, "if |? then");
        dueFault(1, whole + "|?");
        dueFault(1, whole + " |if");

        says(TERMS, "the first TOKEN that can't stand there");
        dueFault(1, "if |then pay 1");
        dueFault(1, "if age 1 2 |pay 1");
        dueFault(1, "if always then |from 1 to 2");
        otherWords("", "if", " always then pay 1");
        otherWords("if always ", "then", " pay 1");
        for (String test : new String[] {"age", "income", "children", "place", "marks"}) otherWords("if ", test, " 1 2 then pay 1");
        otherWords("if ", "always", " then pay 1");
        otherWords("if age ", "not", " 1 2 then pay 1");
        for (String trait : TRAITS) otherWords("if always then cap ", trait, " 1");
        for (String grant : new String[] {"pay", "per", "less", "nothing", "cap"}) otherWords("if always then ", grant, " age 1 1");
        otherWords("if always then pay 1 ", "from", " 1 to 2");
        otherWords("if always then pay 1 from 1 ", "to", " 2");
        otherWords("if always then pay 1 ", "except", " 0");

        says(TERMS, "the WORD if, when there is no room for a CLAUSE, too");
        dueFault(12, "|if always then pay 1");
        dueFault(12, "  |if");
        dueFault(12, "|then");
        dueFault(12, "|");
        dueFault(11, "if always then pay 1; |if always then pay 1");
        dueFault(11, "if always then pay 1;|");
        dueFault(11, "if always then pay 1|?;if");
        dueRead("if always then pay 1", 11, 0, 0, 0, 0, 0, 0, 1);

        says(TERMS, "With a FAULT nothing comes of it.");
        dueFault(2, "if always then pay 1;if always then pay 2;if always then pay 3 except |4");
        StatuteBook b = bookOf("if always then pay 5");
        due("a fault at the end", read(b, "if always then nothing except 0;"), -132);
        due("as it was", b.outcome(0, 0), 5);
        due("the next clause is a new one", b.clause(), 1);
        due("made anew", b.of(1, 10), -1);
        due("made anew", b.of(1, 4), 0);

        says(32, "THE TAPE, which is empty then, is a TEXT; all that it tells is so: how many LAWS");
        StatuteBook twice = new StatuteBook();
        due("one", read(twice, "if always then pay 5"), 1);
        due("it is empty then", twice.count(2), 0);
        due("read again", twice.text(), -100);
        due("one clause alone", twice.count(0), 1);

        says(32, "with a FAULT -100 less that");
        due("at 0", read(twice, "x"), -100);
        due("at 1", read(twice, " x"), -101);
        due("at 119", read(twice, " ".repeat(119) + "x"), -219);
        due("at 120", read(twice, " ".repeat(120)), -220);
        due("it is empty then, too", twice.count(2), 0);
    }

    /** Words that are almost this one can't stand where it can. */
    private static void otherWords(String ahead, String word, String behind) {
        for (int i = 0; i < word.length(); i++) {
            dueFault(1, ahead + "|" + word.substring(0, i) + "q" + word.substring(i + 1) + behind);
            if (word.length() > 1) dueFault(1, ahead + "|" + word.substring(0, i) + word.substring(i + 1) + behind);
        }
        dueFault(1, ahead + "|" + word + "s" + behind);
        dueFault(1, ahead + "|q" + word + behind);
    }

    // ---- promises 34 to 38: sheets

    private static void sheets() {
        says(34, "A SHEET becomes a row of n numbers of a sort, all 0, no, or missing (sort -1; n doesn't matter): 1.");
        for (int s = 0; s < 4; s++) {
            StatuteBook b = new StatuteBook();
            for (int sort = 0; sort <= 2; sort++) {
                due("as many as can be", b.sheet(s, sort, 40), 1);
                for (int i = 0; i < 40; i++) due("all 0", b.item(s, i), 0);
                due("behind them", b.item(s, 40), NO - 12);
                b.write(s, 0, 9);
                b.write(s, 39, 9);
                due("none", b.sheet(s, sort, 0), 1);
                due("none", b.item(s, 0), NO - 12);
                b.sheet(s, sort, 40);
                due("0 again", b.item(s, 0) + b.item(s, 39), 0);
            }
            for (int n : new int[] {0, -1, 40, 41, LOWEST, HIGHEST}) {
                b.sheet(s, 2, 1);
                due("missing, n " + n, b.sheet(s, -1, n), 1);
                due("missing, n " + n, b.item(s, 0), NO - 11);
            }
        }

        says(34, "BAD: s, sort, n above 40; -14.");
        StatuteBook b = new StatuteBook();
        b.sheet(0, 2, 3);
        b.write(0, 2, 77);
        due("n 41", b.sheet(0, 0, 41), -2);
        due("n -1", b.sheet(0, 0, -1), -14);
        due("n lowest", b.sheet(0, 2, LOWEST), -14);
        due("sort 3", b.sheet(0, 3, 1), -2);
        due("sort -2", b.sheet(0, -2, 1), -2);
        due("sort 3 and n -1", b.sheet(0, 3, -1), -2);
        due("sheet 4", b.sheet(4, 0, 1), -2);
        due("sheet -1", b.sheet(-1, 0, 1), -2);
        due("sheet 4, to be missing", b.sheet(4, -1, 0), -2);
        due("as it was", b.item(0, 2), 77);

        says(TERMS, "or missing (at first)");
        for (int s = 0; s < 4; s++) due("at first", new StatuteBook().item(s, 0), NO - 11);
        writesAndItems();
        copies();
        copiesOutside();
        lays();
    }

    private static void writesAndItems() {
        says(35, "Number i of a SHEET becomes v (of doubles v / 2.0; yes, if v isn't 0): 1.");
        int[] values = {0, 1, -1, 2, -2, 3, -3, 256, LOWEST, LOWEST + 1, HIGHEST, HIGHEST - 1};
        StatuteBook b = new StatuteBook();
        for (int s = 0; s < 3; s++) b.sheet(s, s, 40);
        for (int v : values) {
            for (int i : new int[] {0, 39}) {
                for (int s = 0; s < 3; s++) due("write " + v, b.write(s, i, v), 1);
                due("half of " + v, b.item(0, i), halves(v));
                due("yes or no, " + v, b.item(1, i), v == 0 ? 0 : 1);
                due("an int, " + v, b.item(2, i), v);
            }
        }
        due("its neighbour", b.item(2, 1) + b.item(2, 38), 0);

        says(36, "Double.doubleToLongBits of a double, 1 or 0, an int");
        b.write(0, 7, 0);
        due("0.0", b.item(0, 7), 0);
        b.write(0, 7, -1);
        due("-0.5", b.item(0, 7), 0xBFE0000000000000L);
        b.write(0, 7, HIGHEST);
        due("1073741823.5", b.item(0, 7), 0x41CFFFFFFFC00000L);
        b.write(0, 7, LOWEST);
        due("-1073741824.0", b.item(0, 7), 0xC1D0000000000000L);
        b.write(2, 7, LOWEST);
        due("an int below 0", b.item(2, 7), -2147483648L);

        says(35, "BAD: s; -11; -12.");
        due("sheet 4", b.write(4, -1, 0), -2);
        due("sheet -1", b.write(-1, 0, 0), -2);
        due("missing", b.write(3, 0, 0), -11);
        due("missing, and no such place", b.write(3, -1, 0), -11);
        due("place 40", b.write(2, 40, 0), -12);
        due("place -1", b.write(2, -1, 0), -12);
        b.sheet(2, 2, 5);
        due("place 5 of 5", b.write(2, 5, 0), -12);
        due("place 4 of 5", b.write(2, 4, 8), 1);

        says(36, "BAD: s; -11; -12.");
        due("sheet 4", b.item(4, -1), NO - 2);
        due("sheet -1", b.item(-1, 0), NO - 2);
        due("missing", b.item(3, -1), NO - 11);
        due("place -1", b.item(2, -1), NO - 12);
        due("place 5 of 5", b.item(2, 5), NO - 12);
        due("place 4 of 5", b.item(2, 4), 8);
    }

    private static StatuteBook counted(int sort, int n) {
        StatuteBook b = new StatuteBook();
        for (int s = 0; s < 2; s++) {
            b.sheet(s, sort, n);
            for (int i = 0; i < n; i++) b.write(s, i, 100 * s + i);
        }
        return b;
    }

    private static void dueRow(StatuteBook b, int s, int... want) {
        for (int i = 0; i < want.length; i++) due("sheet " + s + ", number " + i, b.item(s, i), want[i]);
    }

    private static void copies() {
        says(37, "n numbers of a SHEET from i on come to another one (or the same) from j on, as they were: n.");
        StatuteBook b = counted(2, 40);
        due("all", b.copy(0, 0, 1, 0, 40), 40);
        for (int i = 0; i < 40; i++) due("number " + i, b.item(1, i), i);
        due("the last to the first", b.copy(0, 39, 1, 0, 1), 1);
        due("the first to the last", b.copy(0, 0, 1, 39, 1), 1);
        dueRow(b, 1, 39, 1, 2);
        due("the last", b.item(1, 39), 0);
        StatuteBook same = counted(2, 5);
        due("up", same.copy(0, 0, 0, 1, 4), 4);
        dueRow(same, 0, 0, 0, 1, 2, 3);
        due("down", same.copy(0, 1, 0, 0, 4), 4);
        dueRow(same, 0, 0, 1, 2, 3, 3);
        due("onto itself", same.copy(0, 0, 0, 0, 5), 5);
        dueRow(same, 0, 0, 1, 2, 3, 3);
        due("none", same.copy(0, 0, 1, 0, 0), 0);
        due("none, just behind both", same.copy(0, 5, 1, 5, 0), 0);
        dueRow(same, 1, 100, 101, 102, 103, 104);
        StatuteBook halves = counted(0, 3);
        due("doubles", halves.copy(1, 1, 0, 0, 2), 2);
        due("a double", halves.item(0, 0), halves(101));
        due("a double", halves.item(0, 1), halves(102));
        due("a double that stays", halves.item(0, 2), halves(2));
        StatuteBook yes = counted(1, 3);
        due("yes and no", yes.copy(1, 0, 0, 0, 1), 1);
        dueRow(yes, 0, 1, 1, 1);
        due("no comes, too", new int[] {yes.write(1, 1, 0), yes.copy(1, 1, 0, 2, 1)}[1], 1);
        dueRow(yes, 0, 1, 1, 0);
        StatuteBook empty = new StatuteBook();
        empty.sheet(0, 2, 0);
        due("none of none", empty.copy(0, 0, 0, 0, 0), 0);
        due("one of none", empty.copy(0, 0, 0, 0, 1), -12);
    }

    private static void copiesOutside() {
        says(37, "BAD: SHEETS; -11: either; -13: of unlike sorts; -12 (n below 0, too).");
        StatuteBook b = counted(2, 5);
        b.sheet(2, 0, 5);
        due("sheet 4", b.copy(4, 0, 0, 0, 1), -2);
        due("to sheet 4", b.copy(0, 0, 4, 0, 1), -2);
        due("sheet -1", b.copy(-1, 0, 3, 0, 1), -2);
        due("to sheet -1, from a missing one", b.copy(3, -1, -1, 0, 1), -2);
        due("from a missing one", b.copy(3, 0, 0, 0, 1), -11);
        due("to a missing one", b.copy(0, 0, 3, 0, 1), -11);
        due("to a missing one, none, outside", b.copy(0, -1, 3, 0, 0), -11);
        due("unlike sorts", b.copy(0, 0, 2, 0, 1), -13);
        due("unlike sorts, none", b.copy(2, 0, 0, 0, 0), -13);
        due("unlike sorts, outside", b.copy(2, 9, 0, -9, -1), -13);
        int[][] outside = {{0, 0, -1}, {0, 0, 6}, {1, 0, 5}, {0, 1, 5}, {5, 0, 1}, {0, 5, 1}, {6, 0, 0}, {0, 6, 0}, {-1, 0, 0}, {0, -1, 0}, {-1, 0, 1},
            {0, -1, 1}, {HIGHEST, 0, 1}, {0, HIGHEST, 1}, {1, 1, HIGHEST}, {5, 5, LOWEST}, {LOWEST, 0, LOWEST}, {HIGHEST, HIGHEST, 2}};
        for (int[] o : outside) due("from " + o[0] + " to " + o[1] + ", " + o[2] + " numbers", b.copy(0, o[0], 1, o[1], o[2]), -12);
        dueRow(b, 1, 100, 101, 102, 103, 104);
    }

    private static void lays() {
        says(38, "It ends where either ends.");
        for (int t = 0; t < 4; t++) {
            int many = LAST[t] + 1;
            for (int n : new int[] {0, 1, 7, 8, 9, 10, 11, 40}) {
                StatuteBook b = bookOf("if always then per " + TRAITS[t] + " 3 1");
                b.sheet(1, 2, n);
                for (int i = 0; i < n; i++) b.write(1, i, -5);
                due("trait " + t + ", a sheet of " + n, b.lay(LAST_PROFILE, 999, t, 1), Math.min(n, many));
                for (int i = 0; i < n; i++) due("number " + i, b.item(1, i), i < many ? 3 * i : -5);
            }
        }

        says(38, "OUTCOME (doubles: half of it), whether it is above 0 (yes or no)");
        StatuteBook b = bookOf("if age 1 1 then pay 1;if age 2 2 then pay 999");
        int[] outcomes = {0, 1, 999};
        for (int sort = 0; sort <= 2; sort++) {
            b.sheet(sort, sort, 3);
            for (int i = 0; i < 3; i++) b.write(sort, i, 8);
            due("sort " + sort, b.lay(50, 0, 0, sort), 3);
            for (int i = 0; i < 3; i++) {
                long want = sort == 0 ? halves(outcomes[i]) : sort == 1 ? Math.min(1, outcomes[i]) : outcomes[i];
                due("sort " + sort + ", number " + i, b.item(sort, i), want);
            }
        }

        says(38, "BAD: PROFILE, DAY, t, s; -11.");
        due("a profile behind the last", b.lay(25600000, 0, 0, 3), -2);
        due("day 1000", b.lay(0, 1000, 0, 3), -2);
        due("t 4", b.lay(0, 0, 4, 3), -2);
        due("t -1", b.lay(0, 0, -1, 3), -2);
        due("sheet 4", b.lay(0, 0, 0, 4), -2);
        due("sheet -1", b.lay(0, 0, 0, -1), -2);
        due("missing", b.lay(0, 0, 0, 3), -11);
    }

    // ---- promises 39 to 41: the image

    private static void image() {
        says(40, "STATE: there is none.");
        StatuteBook b = new StatuteBook();
        b.clause();
        b.mark();
        due("none", b.back(), -3);
        due("as it was", b.count(0), 1);
        b.drop();

        says(39, "THE IMAGE is kept: how many CLAUSES.");
        due("of none", b.image(), 0);
        due("back to none", b.back(), 0);
        for (int c = 0; c < 12; c++) {
            b.clause();
            b.grant(c, 0, 0, 10 + c, 0);
        }
        b.except(11, 10);
        for (int c = 0; c < 12; c++) b.file(c);
        b.file(11);
        b.seed(LOWEST);
        due("of twelve", b.image(), 12);

        says(40, "All that THE IMAGE keeps is as it was then (it stays; what was marked stays, too): how many CLAUSES.");
        b.mark();
        for (int round = 0; round < 3; round++) {
            for (int c = 0; c < 12; c++) b.drop();
            b.forget();
            b.seed(4);
            b.clause();
            b.grant(0, 0, 0, 500 + round, 0);
            b.file(0);
            b.file(0);
            b.mark();
            due("back", b.back(), 12);
            due("clauses", b.count(0), 12);
            due("the register", b.count(1), 12);
            due("z", b.count(3), LOWEST);
            due("the first", b.of(0, 6) * 100 + b.filed(0, 0) * 10 + b.filed(0, 1), 1001);
            due("the last", b.of(11, 6) * 1000 + b.filed(11, 0) * 10 + b.filed(11, 1), 21112);
            due("its exception", b.of(11, 10), 10);
            due("what was marked stays", b.touched(0, 0), b.outcome(0, 0) - 500 - round);
        }

        says(TERMS, "THE IMAGE keeps CLAUSES, THE REGISTER, z.");
        b.sheet(0, 2, 2);
        b.write(0, 1, 8);
        feed(b, "if");
        b.back();
        due("sheets stay", b.item(0, 1), 8);
        due("the tape stays", b.count(2), 2);

        says(39, "THE IMAGE is kept");
        b.drop();
        due("kept anew", b.image(), 11);
        b.drop();
        due("the new one", b.back(), 11);

        counts(b);
    }

    private static void counts(StatuteBook b) {
        says(41, "0 CLAUSES, 1 kept by THE REGISTER, 2 bytes of THE TAPE, 3 z.");
        int[] want = {11, 12, 2, LOWEST}, none = {0, 0, 0, 1}, most = {12, 16, 120, HIGHEST};
        StatuteBook full = bookWith(12);
        fileNumbers(full, 0, 15);
        full.seed(HIGHEST);
        for (int i = 0; i < 30; i++) full.feed(0, 4);
        for (int what = 0; what < 4; what++) {
            due("what " + what, b.count(what), want[what]);
            due("at first, what " + what, new StatuteBook().count(what), none[what]);
            due("as much as can be, what " + what, full.count(what), most[what]);
        }

        says(41, "BAD.");
        for (int what : new int[] {-1, 4, LOWEST, HIGHEST}) due("what " + what, full.count(what), -2);
    }
}
