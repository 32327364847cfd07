import java.lang.reflect.Method;
import java.nio.charset.StandardCharsets;
import java.util.ArrayList;
import java.util.Arrays;
import java.util.HashMap;
import java.util.List;
import java.util.Map;

/**
 * For every number of every call the last that is allowed and the first that isn't, on either side; of several
 * refusals the one that is named first; that refused calls, and questions, change nothing. Each is tried on a book
 * that is empty, one that holds some of everything, and one that is full. What a call changed is seen by
 * putting the same questions to the book and to a twin without that call.
 */
public final class RefusalsTest {
    private static final int LOWEST = Integer.MIN_VALUE, HIGHEST = Integer.MAX_VALUE;
    private static final long NO = -4611686018427387904L, BAD = -2;
    private static final int EMPTY = 0, SOME = 1, FULL = 2, STAGES = 3, PROBES = 6;
    private static final int[] CLAUSES = {0, 4, 12};
    private static final int[] PROFILE = {0, 25599999}, DAY = {0, 999}, ALONG = {0, 3}, SHEET = {0, 3}, ZERO = {0, 0};

    private static final Map<String, Method> METHODS = new HashMap<>();
    private static final List<List<List<Long>>> UNTOUCHED = new ArrayList<>();
    private static int wrong = 0, refusedCalls = 0;

    /** A book that counts its calls: nothing is promised behind the 512th. */
    private static final class Book {
        private final StatuteBook book = new StatuteBook();
        private int calls = 0;

        long call(String name, int... arguments) {
            calls++;
            if (calls > 512) throw new IllegalStateException("more than 512 calls");
            Object[] all = new Object[arguments.length];
            for (int i = 0; i < all.length; i++) all[i] = arguments[i];
            try {
                return ((Number) METHODS.get(name).invoke(book, all)).longValue();
            } catch (ReflectiveOperationException e) {
                throw new IllegalStateException(told(name, arguments), e);
            }
        }

        void feedAll(String text) {
            byte[] bytes = text.getBytes(StandardCharsets.ISO_8859_1);
            for (int i = 0; i < bytes.length; i += 2) {
                if (i + 1 < bytes.length) call("feed", bytes[i] << 8 | bytes[i + 1], 2);
                else call("feed", bytes[i], 1);
            }
        }
    }

    public static void main(String[] args) {
        for (Method one : StatuteBook.class.getDeclaredMethods()) METHODS.put(one.getName(), one);
        for (int stage = 0; stage < STAGES; stage++) UNTOUCHED.add(probed(stage, "", new int[0]));
        theStagesDiffer();
        for (int stage = 0; stage < STAGES; stage++) {
            clauseBounds(stage);
            outcomeBounds(stage);
            alongBounds(stage);
            otherBounds(stage);
            questions(stage);
        }
        sheetRefusals();
        callsWithoutNumbers();
        theFirstNamed();
        faultsOnlyWipe();
        System.out.println(wrong == 0 ? refusedCalls + " refused calls changed nothing" : wrong + " answers are not as due");
        if (wrong != 0) System.exit(1);
    }

    private static String told(String name, int... arguments) {
        return name + Arrays.toString(arguments);
    }

    private static void due(int promise, String what, long got, long want) {
        if (got != want) {
            wrong++;
            System.out.println("promise " + promise + ": " + what + " answered " + got + ", due is " + want);
        }
    }

    // ---- the books

    private static Book built(int stage) {
        Book b = new Book();
        if (stage == SOME) buildSome(b);
        if (stage == FULL) buildFull(b);
        return b;
    }

    /** What is marked, what the image keeps and what is there now are three different things. */
    private static void buildSome(Book b) {
        b.feedAll("if age 18 65 then pay 100 from 5 to 900;if income not 0 40 then per children 7 2 except 0");
        b.call("text");
        b.call("file", 0);
        b.call("mark");
        b.call("clause");
        b.call("test", 2, 3, 0, 5, 2);
        b.call("grant", 2, 4, 3, 6, 0);
        b.call("except", 2, 1);
        b.call("file", 0);
        b.call("file", 1);
        b.call("seed", 76);
        b.call("image");
        b.call("grant", 0, 2, 1, 500, 9);
        b.call("clause");
        b.call("span", 3, 998, 999);
        b.call("grant", 3, 0, 0, 3, 0);
        b.call("file", 3);
        b.call("seed", 77);
        for (int s = 0; s < 3; s++) {
            b.call("sheet", s, s, 5 + s);
            for (int i = 0; i < 5; i++) b.call("write", s, i, 2 * i - 3);
        }
        b.feedAll("if always then pay ");
    }

    private static void buildFull(Book b) {
        for (int c = 0; c < 12; c++) b.call("clause");
        for (int k = 0; k < 16; k++) {
            b.call("grant", 11, 0, 0, k, 0);
            b.call("file", 11);
        }
        for (int c = 1; c < 12; c++) b.call("except", c, (c - 1) / 2);
        for (int c = 0; c < 12; c++) b.call("grant", c, 1, c % 4, 900 + c, 1 + c);
        b.call("image");
        b.call("mark");
        b.call("test", 5, 4, 1, 2, 99);
        b.call("span", 6, 10, 500);
        b.call("file", 0);
        b.call("seed", -5);
        for (int s = 0; s < 4; s++) {
            b.call("sheet", s, s % 3, 40);
            b.call("lay", 4242, 20, s % 2, s);
        }
        b.feedAll("if always then pay 123;if age not 4 50 then cap income 678;if marks 7 8 then less place 99 9;if always then pay       45");
        if (b.call("count", 2) != 120) throw new IllegalStateException("the tape isn't full");
    }

    // ---- what can be seen of a book

    /** The answers to all questions behind a call (none, if its name is empty), each group on a book of its own. */
    private static List<List<Long>> probed(int stage, String name, int[] arguments) {
        List<List<Long>> all = new ArrayList<>();
        for (int probe = 0; probe < PROBES; probe++) {
            Book b = built(stage);
            if (!name.isEmpty()) b.call(name, arguments);
            List<Long> seen = new ArrayList<>();
            switch (probe) {
                case 0 -> seeClauses(b, seen);
                case 1 -> seeSheets(b, seen);
                case 2 -> seeOutcomes(b, seen);
                case 3 -> seeTape(b, seen);
                case 4 -> seeRegister(b, seen);
                default -> seeImage(b, seen);
            }
            all.add(seen);
        }
        return all;
    }

    private static void seeClauses(Book b, List<Long> seen) {
        for (int what = 0; what < 4; what++) seen.add(b.call("count", what));
        for (int c = 0; c < 12; c++) {
            for (int what = 0; what <= 10; what++) seen.add(b.call("of", c, what));
        }
        for (int c = 0; c < 12; c++) {
            for (int what = 0; what <= 1; what++) seen.add(b.call("filed", c, what));
        }
    }

    private static void seeSheets(Book b, List<Long> seen) {
        for (int s = 0; s < 4; s++) {
            for (int i = 0; i < 40; i++) seen.add(b.call("item", s, i));
        }
    }

    /** What is marked is seen by whom it touches. */
    private static void seeOutcomes(Book b, List<Long> seen) {
        int[] profiles = {0, 25599999, 1234567, 7654321, 145030, 4999 + 800000 * 5};
        int[] days = {0, 5, 20, 700, 999};
        for (int profile : profiles) {
            for (int day : days) {
                seen.add(b.call("outcome", profile, day));
                seen.add(b.call("touched", profile, day));
            }
        }
    }

    /** Two laws' room is made first, and the text is given an end. */
    private static void seeTape(Book b, List<Long> seen) {
        for (int i = 0; i < 4; i++) b.call("drop");
        b.call("feed", '7', 1);
        seen.add(b.call("count", 2));
        seen.add(b.call("text"));
        seeClauses(b, seen);
    }

    private static void seeRegister(Book b, List<Long> seen) {
        b.call("clause");
        b.call("test", 0, 0, 0, 0, 0);
        for (int k = 0; k < 17; k++) {
            b.call("grant", 0, 0, 0, k, 0);
            seen.add(b.call("filed", 0, 0));
            seen.add(b.call("filed", 0, 1));
        }
    }

    private static void seeImage(Book b, List<Long> seen) {
        seen.add(b.call("back"));
        seeClauses(b, seen);
        seen.add(b.call("touched", 4242, 20));
        seen.add(b.call("touched", 25599999, 999));
    }

    /** A probe that sees nothing would find every book unchanged. */
    private static void theStagesDiffer() {
        for (int probe = 0; probe < PROBES; probe++) {
            for (int stage = 1; stage < STAGES; stage++) {
                if (UNTOUCHED.get(stage).get(probe).equals(UNTOUCHED.get(stage - 1).get(probe))) {
                    due(0, "probe " + probe + " of stage " + stage + " sees nothing", 0, 1);
                }
            }
        }
        String[] changing = {"feed", "write", "mark", "file", "seed", "image", "grant"};
        int[][] arguments = {{'8', 1}, {2, 0, 99}, {}, {2}, {5}, {}, {0, 0, 0, 1, 0}};
        for (int i = 0; i < changing.length; i++) {
            boolean same = probed(SOME, changing[i], arguments[i]).equals(UNTOUCHED.get(SOME));
            due(0, "a change by " + changing[i] + " is seen", same ? 0 : 1, 1);
        }
    }

    // ---- refusals

    private static void refused(int promise, int stage, long refusal, String name, int... arguments) {
        refusedCalls++;
        String what = told(name, arguments) + " on book " + stage;
        due(promise, what, built(stage).call(name, arguments), refusal);
        boolean same = probed(stage, name, arguments).equals(UNTOUCHED.get(stage));
        due(promise, what + ": nothing changed (1)", same ? 1 : 0, 1);
    }

    private static void taken(int promise, int stage, long refusal, String name, int... arguments) {
        long got = built(stage).call(name, arguments);
        if (got == refusal) due(promise, told(name, arguments) + " on book " + stage + " (any other answer)", got, 0);
    }

    /**
     * Each number that has a first and a last one allowed, while all others are the first or the last of theirs.
     * A number told alone stays as it is.
     */
    private static void bounds(int promise, int stage, long refusal, String name, int[]... ranges) {
        for (int k = 0; k < ranges.length; k++) {
            if (ranges[k].length == 1) continue;
            for (int side = 0; side < 2; side++) {
                int[] arguments = new int[ranges.length];
                for (int i = 0; i < ranges.length; i++) arguments[i] = ranges[i][ranges[i].length == 1 ? 0 : side];
                tryRange(promise, stage, refusal, name, arguments, k, ranges[k][0], ranges[k][1]);
            }
        }
    }

    private static void tryRange(int promise, int stage, long refusal, String name, int[] arguments, int k, int first, int last) {
        int[] inside = {first, last};
        long[] outside = {first - 1L, last + 1L, LOWEST, HIGHEST};
        for (int v : inside) {
            if (first > last || CLAUSES[stage] == 0 && takesClause(name)) continue;
            arguments[k] = v;
            taken(promise, stage, refusal, name, arguments);
        }
        for (long v : outside) {
            if (v < LOWEST || v > HIGHEST || v >= first && v <= last) continue;
            arguments[k] = (int) v;
            refused(promise, stage, refusal, name, arguments);
        }
    }

    private static boolean takesClause(String name) {
        return List.of("test", "grant", "span", "except", "of", "why", "file", "filed").contains(name);
    }

    private static void clauseBounds(int stage) {
        int[] clause = {0, CLAUSES[stage] - 1};
        bounds(3, stage, BAD, "test", clause, new int[] {0, 5}, new int[] {0}, new int[] {0}, new int[] {0});
        for (int how = 0; how <= 5; how++) {
            int[] t = how == 1 || how == 2 || how == 4 ? ALONG : ZERO;
            int[] number = {0, how == 3 ? 31 : 99};
            bounds(3, stage, BAD, "test", clause, new int[] {how}, t, number, number);
        }
        bounds(4, stage, BAD, "grant", clause, new int[] {0, 4}, new int[] {0}, new int[] {0}, new int[] {0});
        for (int sort = 0; sort <= 4; sort++) {
            int[] t = sort == 1 || sort == 2 || sort == 4 ? ALONG : ZERO;
            int[] b = sort == 1 ? new int[] {1, 99} : sort == 2 ? new int[] {0, 99} : ZERO;
            bounds(4, stage, BAD, "grant", clause, new int[] {sort}, t, new int[] {0, 999}, b);
        }
        bounds(5, stage, BAD, "span", clause, new int[] {0}, DAY);
        bounds(5, stage, BAD, "span", clause, DAY, new int[] {999});
        bounds(5, stage, BAD, "span", clause, new int[] {500}, new int[] {500, 999});
        bounds(5, stage, BAD, "span", clause, new int[] {0, 500}, new int[] {500});
        bounds(6, stage, BAD, "except", clause, new int[] {-1});
        for (int c = 0; c < CLAUSES[stage]; c++) bounds(6, stage, BAD, "except", new int[] {c}, new int[] {-1, c - 1});
        bounds(7, stage, BAD, "of", clause, new int[] {0, 10});
        bounds(26, stage, BAD, "file", clause);
        bounds(27, stage, BAD, "filed", clause, new int[] {0, 1});
    }

    private static void outcomeBounds(int stage) {
        int[] clause = {0, CLAUSES[stage] - 1};
        int[] to99 = {0, 99};
        bounds(9, stage, BAD, "profile", to99, to99, new int[] {0, 9}, new int[] {0, 7}, new int[] {0, 31});
        bounds(10, stage, BAD, "trait", PROFILE, new int[] {0, 4});
        bounds(11, stage, BAD, "outcome", PROFILE, DAY);
        bounds(12, stage, BAD, "reason", PROFILE, DAY);
        bounds(13, stage, BAD, "why", PROFILE, DAY, clause, new int[] {0, 2});
        bounds(14, stage, BAD, "hold", PROFILE, DAY, new int[] {0, 1});
        bounds(21, stage, BAD, "until", PROFILE, DAY);
        bounds(23, stage, BAD, "touched", PROFILE, DAY);
    }

    private static void alongBounds(int stage) {
        bounds(15, stage, BAD, "best", PROFILE, DAY, ALONG, new int[] {0, 1});
        bounds(16, stage, BAD, "jumps", PROFILE, DAY, ALONG, new int[] {0, 4});
        bounds(17, stage, BAD, "bends", PROFILE, DAY, ALONG, new int[] {0, 2});
        bounds(18, stage, BAD, "enough", PROFILE, DAY, ALONG, new int[] {0, HIGHEST});
        bounds(24, stage, BAD, "touches", PROFILE, DAY, ALONG, new int[] {0, 3});
        bounds(38, stage, BAD, "lay", PROFILE, DAY, ALONG, SHEET);
    }

    private static void otherBounds(int stage) {
        bounds(19, stage, NO + BAD, "share", PROFILE, DAY, new int[] {1, 9});
        bounds(20, stage, BAD, "mean", DAY, new int[] {1, 20});
        bounds(25, stage, BAD, "drawn", DAY, new int[] {1, 50});
        bounds(30, stage, BAD, "feed", new int[] {0}, new int[] {1, 4});
        bounds(30, stage, BAD, "feed", new int[] {-1}, new int[] {1, 4});
        bounds(34, stage, BAD, "sheet", SHEET, new int[] {-1, 2}, new int[] {0});
        bounds(34, stage, BAD, "sheet", SHEET, new int[] {-1, 2}, new int[] {40});
        for (int sort = 0; sort <= 2; sort++) {
            for (int n : new int[] {41, 42, HIGHEST}) refused(34, stage, BAD, "sheet", 0, sort, n);
            for (int n : new int[] {-1, -2, LOWEST}) refused(34, stage, -14, "sheet", 3, sort, n);
        }
        bounds(35, stage, BAD, "write", SHEET, new int[] {0}, new int[] {1});
        bounds(36, stage, NO + BAD, "item", SHEET, new int[] {0});
        bounds(37, stage, BAD, "copy", SHEET, new int[] {0}, SHEET, new int[] {0}, new int[] {0});
        bounds(41, stage, BAD, "count", new int[] {0, 3});
    }

    // ---- questions

    /** What is asked changes nothing. */
    private static void questions(int stage) {
        asked(stage, 7, "of", 0, 10);
        asked(stage, 9, "profile", 99, 99, 9, 7, 31);
        asked(stage, 10, "trait", 25599999, 4);
        asked(stage, 11, "outcome", 145030, 20);
        asked(stage, 12, "reason", 145030, 20);
        asked(stage, 13, "why", 145030, 20, 0, 2);
        asked(stage, 14, "hold", 145030, 20, 1);
        asked(stage, 15, "best", 145030, 20, 0, 1);
        asked(stage, 16, "jumps", 145030, 20, 1, 4);
        asked(stage, 17, "bends", 145030, 20, 2, 2);
        asked(stage, 18, "enough", 145030, 20, 3, 9999999);
        asked(stage, 19, "share", 145030, 20, 9);
        asked(stage, 20, "mean", 20, 20);
        asked(stage, 21, "until", 145030, 0);
        asked(stage, 23, "touched", 145030, 20);
        asked(stage, 24, "touches", 145030, 20, 0, 3);
        asked(stage, 27, "filed", 0, 1);
        asked(stage, 28, "alike");
        for (int s = 0; s < 4; s++) asked(stage, 36, "item", s, 4);
        for (int what = 0; what < 4; what++) asked(stage, 41, "count", what);
    }

    private static void asked(int stage, int promise, String name, int... arguments) {
        boolean same = probed(stage, name, arguments).equals(UNTOUCHED.get(stage));
        due(promise, told(name, arguments) + " on book " + stage + " changed nothing (1)", same ? 1 : 0, 1);
        Book b = built(stage);
        due(promise, told(name, arguments) + " asked again", b.call(name, arguments), b.call(name, arguments));
    }

    // ---- refusals by the state

    private static void sheetRefusals() {
        int[] sizes = {5, 6, 7};
        for (int s = 0; s < 3; s++) {
            for (int i : new int[] {-1, sizes[s], sizes[s] + 1, 39, 40, LOWEST, HIGHEST}) {
                refused(35, SOME, -12, "write", s, i, 1);
                refused(36, SOME, NO - 12, "item", s, i);
            }
        }
        for (int i : new int[] {0, -1, 40, LOWEST, HIGHEST}) {
            refused(35, SOME, -11, "write", 3, i, 1);
            refused(36, SOME, NO - 11, "item", 3, i);
            refused(35, EMPTY, -11, "write", 0, i, 1);
            refused(36, EMPTY, NO - 11, "item", 0, i);
        }
        refused(37, SOME, -11, "copy", 3, 0, 0, 0, 1);
        refused(37, SOME, -11, "copy", 0, 0, 3, 0, 1);
        refused(37, SOME, -11, "copy", 3, 0, 3, 0, 0);
        refused(37, SOME, -13, "copy", 0, 0, 1, 0, 1);
        refused(37, SOME, -13, "copy", 1, 0, 2, 0, 0);
        refused(37, SOME, -13, "copy", 2, 0, 0, 0, 1);
        int[][] outside = {{-1, 0, 1}, {0, -1, 1}, {0, 0, -1}, {0, 0, 8}, {1, 0, 7}, {0, 1, 7}, {8, 0, 0}, {0, 8, 0}, {7, 0, 1}, {0, 7, 1},
            {HIGHEST, 0, 1}, {0, HIGHEST, 1}, {1, 0, HIGHEST}, {HIGHEST, HIGHEST, HIGHEST}, {LOWEST, 0, 1}, {0, LOWEST, 1}, {0, 0, LOWEST}};
        for (int[] o : outside) refused(37, SOME, -12, "copy", 2, o[0], 2, o[1], o[2]);
        refused(38, SOME, -11, "lay", 0, 0, 0, 3);
        for (int s = 0; s < 4; s++) refused(38, EMPTY, -11, "lay", 0, 0, 0, s);
    }

    private static void callsWithoutNumbers() {
        refused(2, FULL, -4, "clause");
        refused(8, EMPTY, -3, "drop");
        refused(40, EMPTY, -3, "back");
        for (int n = 1; n <= 4; n++) refused(30, FULL, -4, "feed", -1, n);
    }

    /** Of several refusals the one that is named first at the call. */
    private static void theFirstNamed() {
        refused(18, EMPTY, BAD, "enough", -1, 0, 0, 1);
        refused(18, EMPTY, BAD, "enough", 0, 0, 4, HIGHEST);
        refused(21, EMPTY, BAD, "until", 0, 1000);
        refused(16, EMPTY, BAD, "jumps", 0, 1000, 0, 1);
        refused(13, FULL, BAD, "why", 0, 0, 12, 2);
        Book b = built(FULL);
        b.call("grant", 0, 0, 0, 999, 0);
        due(26, "a 17th", b.call("file", 0), -4);
        due(26, "no clause, of a full register", b.call("file", 12), BAD);
        due(26, "no clause, of a full register", b.call("file", -1), BAD);
        for (int n : new int[] {0, 5, LOWEST, HIGHEST}) refused(30, FULL, BAD, "feed", 0, n);
        for (int n : new int[] {-1, LOWEST}) {
            refused(34, SOME, BAD, "sheet", -1, 0, n);
            refused(34, SOME, BAD, "sheet", 4, 2, n);
            refused(34, SOME, BAD, "sheet", 0, -2, n);
            refused(34, SOME, BAD, "sheet", 0, 3, n);
        }
        refused(35, EMPTY, BAD, "write", 4, -1, 0);
        refused(36, EMPTY, NO + BAD, "item", -1, -1);
        refused(37, SOME, BAD, "copy", 3, -1, 4, -1, -1);
        refused(37, SOME, BAD, "copy", -1, -1, 3, -1, -1);
        refused(37, SOME, -11, "copy", 3, -1, 0, -1, -1);
        refused(37, SOME, -11, "copy", 1, -1, 3, 99, -1);
        refused(37, SOME, -13, "copy", 0, -1, 1, -1, -1);
        refused(37, SOME, -13, "copy", 1, 99, 2, 0, LOWEST);
        refused(38, SOME, BAD, "lay", 25600000, 0, 0, 3);
        refused(38, SOME, BAD, "lay", 0, 1000, 0, 3);
        refused(38, SOME, BAD, "lay", 0, 0, 4, 3);
    }

    /** With a fault the tape is empty then, and that is all. */
    private static void faultsOnlyWipe() {
        long[] answers = {-100, -119, -100};
        for (int stage = 0; stage < STAGES; stage++) {
            due(32, "a fault on book " + stage, built(stage).call("text"), answers[stage]);
            boolean same = probed(stage, "text", new int[0]).equals(probed(stage, "wipe", new int[0]));
            due(32, "a fault on book " + stage + " does no more than wipe (1)", same ? 1 : 0, 1);
        }
    }
}
