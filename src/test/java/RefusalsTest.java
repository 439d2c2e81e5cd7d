import java.lang.reflect.InvocationTargetException;
import java.lang.reflect.Method;
import java.lang.reflect.Modifier;
import java.util.ArrayList;
import java.util.Arrays;
import java.util.LinkedHashMap;
import java.util.List;
import java.util.Map;

/** What is refused, and in which order: each number of each call at both ends of its range, and beyond them. */
public final class RefusalsTest {
    private static final int NONE = GleanDusk.NONE, BAD = GleanDusk.BAD, NO = GleanDusk.NO, FULL = GleanDusk.FULL;
    private static final int LOWEST = Integer.MIN_VALUE, HIGHEST = Integer.MAX_VALUE;
    private static final Words WORDS = new Words("RefusalsTest");
    private static final Map<String, Method> CALLS = new LinkedHashMap<>();

    public static void main(String[] args) throws ReflectiveOperationException {
        for (Method m : GleanDusk.class.getDeclaredMethods()) CALLS.put(m.getName(), m);
        constants();
        for (String state : new String[] {"ordinary", "full"}) {
            int[][] ranges = rangesOf(state);
            for (int i = 0; i < NAMES.length; i++) corners(state, NAMES[i], rangesFor(NAMES[i], ranges));
        }
        everyCallHasItsRange();
        emptyParish();
        fieldsAlone();
        noStepsLeft();
        noneToUndo();
        noImage();
        fulls();
        orders();
        answersThatAreNoRefusals();
        questionsChangeNothing();
        manyCalls();
        WORDS.end();
    }

    private static void due(String what, long got, long want) {
        WORDS.due(what, got, want);
    }

    private static void constants() {
        WORDS.by("public static final int NONE = -1, BAD = -2, NO = -3, FULL = -4;");
        due("NONE", NONE, -1);
        due("BAD", BAD, -2);
        due("NO", NO, -3);
        due("FULL", FULL, -4);
    }

    // ---- parishes that are made alike each time

    private static GleanDusk make(String state) {
        switch (state) {
            case "empty": return new GleanDusk();
            case "ordinary": return ordinary();
            default: return full();
        }
    }

    private static GleanDusk ordinary() {
        GleanDusk x = Make.gleaners(Make.with(2, 0, 50, 1, 40, 4, 7), 0, 2);
        x.missed(0, 1, 20, 16);
        x.note(1, 6, 30, 2, 22);
        x.rains(0, 3);
        Make.typeAll(x, "parish 3;field 1 9;gleaner 0;");
        x.image(1);
        x.glean(3);
        x.goes(1, 1);
        return x;
    }

    /** Nothing more can come, no step is left, eight may be undone, both images are kept. */
    private static GleanDusk full() {
        GleanDusk x = Make.gleaners(Make.with(2, 0, 50, 1, 40, 4, 7, 5, 60, 3, 33, 2, 21), 0, 2, 5, 5, 1);
        for (int i = 0; i < 4; i++) x.missed(i, i, 20, 16);
        for (int i = 0; i < 6; i++) x.note(i, 6, 30, 2, 20);
        x.image(0);
        for (int i = 0; i < 6; i++) x.cloud(i);
        x.glean(2);
        x.night();
        x.image(1);
        x.goes(4, 0);
        x.glean(12);
        Make.typeAll(x, "parish 3;field 1 9;gleaner 0;" + " ".repeat(121));
        return x;
    }

    private static int[][] rangesOf(String state) {
        GleanDusk x = make(state);
        return new int[][] {{0, x.count(0) - 1}, {0, x.count(1) - 1}};
    }

    // ---- the range of each number of each call

    private static final String[] NAMES = {
        "parish", "field", "gleaner", "type", "glean", "goes", "cloud", "of", "about", "seen", "then", "round",
        "places", "which", "lasts", "enough", "missed", "note", "forget", "is", "look", "two", "rains", "summers",
        "part", "image", "from", "status", "count"};

    private static int[][] rangesFor(String name, int[][] there) {
        int[] f = there[0];
        int[] g = there[1];
        int[] step = {0, 11}, light = {0, 60}, cloud = {0, 9}, one = {0, 1}, two = {0, 2}, orNone = {NONE, HIGHEST};
        switch (name) {
            case "parish": case "cloud": return new int[][] {cloud};
            case "field": return new int[][] {{0, 5}, light};
            case "gleaner": case "is": case "look": return new int[][] {f};
            case "type": return new int[][] {{0, 127}};
            case "glean": return new int[][] {{1, 12}};
            case "goes": return new int[][] {g, f};
            case "of": return new int[][] {f, two};
            case "about": return new int[][] {g, two};
            case "seen": return new int[][] {f, step};
            case "then": return new int[][] {g, {0, 12}};
            case "round": return new int[][] {g, {1, 6}, orNone};
            case "places": return new int[][] {one, {NONE, g[1]}};
            case "which": return new int[][] {step};
            case "lasts": return new int[][] {g, {1, 999}};
            case "enough": return new int[][] {{0, 999}};
            case "missed": return new int[][] {f, step, light, {0, 60}};
            case "note": return new int[][] {f, step, light, cloud, {0, 99}};
            case "two": return new int[][] {g, g, orNone};
            case "rains": return new int[][] {f, {0, 10}};
            case "summers": return new int[][] {{0, 999999}, {0, 60}};
            case "status": return new int[][] {two};
            case "count": return new int[][] {{0, 8}};
            default: return new int[][] {one};
        }
    }

    private static int badOf(String name) {
        switch (name) {
            case "round": case "places": case "two": return -10;
            case "status": return -1;
            default: return BAD;
        }
    }

    private static void everyCallHasItsRange() {
        WORDS.by("## The public face");
        int without = 0;
        for (Method m : CALLS.values()) {
            if (m.getParameterCount() == 0 && Modifier.isPublic(m.getModifiers())) without++;
        }
        due("calls with numbers, and without", NAMES.length + without, 35);
        for (String name : NAMES) {
            due(name, rangesFor(name, new int[][] {{0, 0}, {0, 0}}).length, CALLS.get(name).getParameterCount());
        }
    }

    // ---- at the ends of ranges, and beyond

    private static void corners(String state, String name, int[][] ranges) throws ReflectiveOperationException {
        WORDS.byPromise(name);
        int many = ranges.length;
        for (int corner = 0; corner < 1 << many; corner++) {
            int[] numbers = new int[many];
            for (int i = 0; i < many; i++) numbers[i] = ranges[i][corner >> i & 1];
            boolean alike = name.equals("two") && numbers[0] == numbers[1];
            if (alike) refused(state, name, numbers, badOf(name), 0);
            else stands(state, name, numbers);
            for (int i = 0; i < many; i++) beyond(state, name, numbers, i, ranges[i]);
        }
    }

    private static void beyond(String state, String name, int[] numbers, int i, int[] range)
            throws ReflectiveOperationException {
        int kept = numbers[i];
        for (int off : new int[] {range[0] - 1, range[1] + 1, LOWEST, HIGHEST}) {
            if (off >= range[0] && off <= range[1]) continue;
            numbers[i] = off;
            refused(state, name, numbers, badOf(name), 0);
        }
        numbers[i] = kept;
    }

    /** Numbers that are as told are never refused as BAD. */
    private static void stands(String state, String name, int[] numbers) throws ReflectiveOperationException {
        GleanDusk x = make(state);
        int before = x.status(0);
        long answer = call(x, name, numbers);
        due(told(state, name, numbers) + " is not BAD", answer == BAD || answer == -10 ? 1 : 0, 0);
        due(told(state, name, numbers) + " leaves STATUS", x.status(0), before);
    }

    /** The answer; one more in STATUS, and all else as in a twin that was not asked. */
    private static void refused(String state, String name, int[] numbers, long answer, int what)
            throws ReflectiveOperationException {
        GleanDusk x = make(state);
        GleanDusk twin = make(state);
        String told = told(state, name, numbers);
        due(told, call(x, name, numbers), answer);
        for (int i = 0; i < 3; i++) due(told + ", status " + i, x.status(i), twin.status(i) + (i == what ? 1 : 0));
        due(told + " changes nothing else", all(x).equals(all(twin)) ? 1 : 0, 1);
    }

    private static String told(String state, String name, int[] numbers) {
        return state + ": " + name + Arrays.toString(numbers);
    }

    private static long call(GleanDusk x, String name, int... numbers) throws ReflectiveOperationException {
        Object[] boxed = new Object[numbers.length];
        for (int i = 0; i < boxed.length; i++) boxed[i] = numbers[i];
        try {
            return ((Number) CALLS.get(name).invoke(x, boxed)).longValue();
        } catch (InvocationTargetException e) {
            e.getCause().printStackTrace(System.out);
            return Long.MIN_VALUE;
        }
    }

    /** All that an object holds but STATUS, as its answers tell; the object is used up by it. */
    private static List<Long> all(GleanDusk x) {
        List<Long> told = new ArrayList<>();
        tellParish(x, told);
        for (int i = 0; i < 2; i++) {
            told.add((long) x.from(i));
            tellParish(x, told);
        }
        told.add((long) x.read());
        tellParish(x, told);
        told.add((long) x.clear());
        return told;
    }

    private static void tellParish(GleanDusk x, List<Long> told) {
        told.add(x.digest());
        told.add((long) x.clouds());
        for (int f = 0; f < x.count(0); f++) told.add((long) x.is(f));
        while (x.count(7) > 0) {
            told.add((long) x.undo());
            told.add(x.digest());
        }
    }

    // ---- what an empty parish answers

    private static void emptyParish() throws ReflectiveOperationException {
        WORDS.by("As told; no FIELDS, GLEANERS.");
        String[] needField = {"gleaner 0", "of 0 0", "seen 0 0", "missed 0 0 0 0", "note 0 0 0 0 0", "is 0", "look 0",
            "rains 0 0"};
        String[] needGleaner = {"goes 0 0", "about 0 0", "then 0 0", "lasts 0 1"};
        String[] needTen = {"round 0 1 -1", "round 0 1 0", "places 0 0", "places 1 0", "two 0 1 -1", "two 0 1 0"};
        for (String told : needField) asked("empty", told, BAD, 0);
        for (String told : needGleaner) asked("empty", told, BAD, 0);
        for (String told : needTen) asked("empty", told, -10, 0);
        asked("empty", "undo", NO, 1);
        asked("empty", "from 0", NO, 1);
        asked("empty", "from 1", NO, 1);
        String[] others = {"parish 0", "clear", "read", "glean 1", "glean 12", "night", "cloud 0", "places 0 -1",
            "places 1 -1", "which 0", "which 11", "enough 0", "enough 1", "clouds", "forget 0", "forget 1",
            "summers 0 60", "part 0", "part 1", "image 0", "status 0", "count 0"};
        long[] answers = {0, 0, -10, 0, 0, 1, 0, 0, 0, NONE, NONE, 0, NONE, 1023, 0, 0, 0, 0, 1, 1, 0, 0};
        for (int i = 0; i < others.length; i++) answered("empty", others[i], answers[i]);
    }

    private static int[] numbersOf(String told) {
        String[] parts = told.split(" ");
        int[] numbers = new int[parts.length - 1];
        for (int i = 0; i < numbers.length; i++) numbers[i] = Integer.parseInt(parts[i + 1]);
        return numbers;
    }

    private static void asked(String state, String told, int answer, int what) throws ReflectiveOperationException {
        refused(state, told.split(" ")[0], numbersOf(told), answer, what);
    }

    /** An answer that is no refusal: STATUS stays. */
    private static void answered(String state, String told, long answer) throws ReflectiveOperationException {
        GleanDusk x = make(state);
        int[] before = {x.status(0), x.status(1), x.status(2)};
        due(state + ": " + told, call(x, told.split(" ")[0], numbersOf(told)), answer);
        for (int i = 0; i < 3; i++) due(state + ": " + told + ", status " + i, x.status(i), before[i]);
    }

    /** Fields, but no gleaners. */
    private static void fieldsAlone() {
        WORDS.by("a FIELD without GLEANERS stays as it is.");
        GleanDusk x = Make.with(0, 0, 60, 1, 60);
        due("glean", x.glean(12), 0);
        due("night", x.night(), 1);
        due("light", x.of(0, 1), 60);
        due("who is there", x.of(1, 2), 0);
        due("goes", x.goes(0, 0), BAD);
        due("round", x.round(0, 1, NONE), -10);
        due("two", x.two(0, 1, NONE), -10);
        due("places", x.places(0, NONE), 0);
        due("enough", x.enough(0), 0);
        due("summers", x.summers(5, 60), 0);
    }

    // ---- NO, FULL, and in which order

    private static void noStepsLeft() throws ReflectiveOperationException {
        WORDS.byPromise("glean");
        for (int step = 0; step <= 12; step++) {
            for (int n = 1; n <= 12; n++) {
                GleanDusk x = Make.gleaners(Make.with(0, 0, 60), 0);
                if (step > 0) x.glean(step);
                long before = x.digest();
                boolean fits = step + n <= 12;
                due("at " + step + ", " + n, x.glean(n) == NO ? 1 : 0, fits ? 0 : 1);
                due("the step", x.count(2), fits ? step + n : step);
                due("status", x.status(1), fits ? 0 : 1);
                if (!fits) due("all stays", x.digest(), before);
            }
        }
        for (int n = 1; n <= 12; n++) asked("full", "glean " + n, NO, 1);
        asked("ordinary", "glean 10", NO, 1);
    }

    private static void noneToUndo() {
        WORDS.byPromise("undo");
        GleanDusk x = ordinary();
        while (x.count(7) > 0) x.undo();
        long before = x.digest();
        due("none", x.undo(), NO);
        due("none again", x.undo(), NO);
        due("status", x.status(1), 2);
        due("all stays", x.digest(), before);
    }

    private static void noImage() throws ReflectiveOperationException {
        WORDS.byPromise("from");
        asked("ordinary", "from 0", NO, 1);
        answered("ordinary", "from 1", 1);
        answered("full", "from 0", 1);
        answered("full", "from 1", 1);
    }

    private static void fulls() throws ReflectiveOperationException {
        String[] more = {"field 0 0", "field 5 60", "gleaner 0", "gleaner 5", "type 0", "type 127", "missed 0 0 0 0",
            "missed 5 11 60 60", "note 0 0 0 0 0", "note 5 11 60 9 99"};
        for (String told : more) {
            WORDS.byPromise(told.split(" ")[0]);
            asked("full", told, FULL, 2);
        }
    }

    private static void orders() throws ReflectiveOperationException {
        WORDS.by("Refused, changing nothing but STATUS, the first of: BAD -2 a number is not as told;"
            + " NO -3 as told; FULL -4 (where others are told they count as these).");
        String[] bad = {"glean 0", "glean 13", "field 6 0", "field 0 61", "gleaner 6", "gleaner -1", "type 128",
            "missed 6 0 0 0", "missed 0 12 0 0", "missed 0 0 61 0", "missed 0 0 0 61", "note 6 0 0 0 0",
            "note 0 12 0 0 0", "note 0 0 61 0 0", "note 0 0 0 10 0", "note 0 0 0 0 100"};
        for (String told : bad) asked("full", told, BAD, 0);
        asked("empty", "from 2", BAD, 0);
        asked("empty", "from -1", BAD, 0);
        asked("empty", "which 12", BAD, 0);
        asked("empty", "enough 1000", BAD, 0);
        asked("ordinary", "round 0 7 7", -10, 0);
        asked("ordinary", "round 2 6 6", -10, 0);
        asked("ordinary", "two 0 2 99", -10, 0);
        asked("ordinary", "two 1 1 99", -10, 0);
        WORDS.by("-1: another what (counts as BAD).");
        asked("full", "status 3", -1, 0);
        asked("full", "status -1", -1, 0);
    }

    private static void answersThatAreNoRefusals() throws ReflectiveOperationException {
        WORDS.by("STATUS: how many calls were refused as BAD, NO, FULL (each answer told so below is such a one).");
        answered("ordinary", "round 0 3 3", -5);
        answered("ordinary", "round 0 6 2147483647", -5);
        answered("ordinary", "two 0 1 36", -5);
        answered("ordinary", "two 0 1 2147483647", -5);
        answered("ordinary", "enough 999", NONE);
        answered("empty", "which 3", NONE);
        answered("empty", "read", -10);
        GleanDusk x = Make.with(0, 0, 60);
        x.note(0, 0, 60, 0, 1);
        due("look", x.look(0), NONE);
        due("none is no refusal", x.status(0) + x.status(1) + x.status(2), 0);
    }

    // ---- what is only asked changes nothing

    private static void questionsChangeNothing() throws ReflectiveOperationException {
        WORDS.by("(Nothing is changed by these.)");
        String[] questions = {"of 0 2", "about 0 2", "seen 0 11", "then 0 12", "round 0 6 -1", "round 1 6 5",
            "places 0 -1", "places 1 1", "which 11", "lasts 0 1", "enough 5", "clouds", "is 0", "look 0", "look 1",
            "two 0 1 -1", "two 1 0 0", "summers 999999 60", "part 0", "status 1", "count 8", "digest"};
        for (String state : new String[] {"ordinary", "full"}) {
            for (String told : questions) {
                GleanDusk x = make(state);
                GleanDusk twin = make(state);
                call(x, told.split(" ")[0], numbersOf(told));
                for (int i = 0; i < 3; i++) due(state + ": " + told + ", status", x.status(i), twin.status(i));
                due(state + ": " + told, all(x).equals(all(twin)) ? 1 : 0, 1);
            }
        }
    }

    private static void manyCalls() {
        WORDS.by("An object is used for at most 512 calls after it has been made;");
        GleanDusk x = new GleanDusk();
        for (int i = 0; i < 511; i++) x.which(12);
        due("all were counted", x.status(0), 511);
        GleanDusk y = Make.with(0, 0, 60);
        for (int i = 0; i < 400; i++) y.cloud(i % 10);
        due("eight may be undone", y.count(7), 8);
        for (int i = 0; i < 8; i++) y.undo();
        due("the cloud of the 392nd", y.count(3), 1);
    }
}
