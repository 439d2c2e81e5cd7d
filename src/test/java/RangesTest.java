import java.lang.reflect.Field;

/** The boundaries that the document's terms tell of fields, gleaners, steps, kinds, gleaning and nights. */
public final class RangesTest {
    private static final int BAD = GleanDusk.BAD, NO = GleanDusk.NO, FULL = GleanDusk.FULL;
    private static final int PLAIN = 0, WEST = 1, WOOD = 2, PUDDLE = 3, HILL = 4, LANE = 5;
    private static final Words WORDS = new Words("RangesTest");

    public static void main(String[] args) throws ReflectiveOperationException {
        fields();
        lights();
        gleaners();
        stores();
        steps();
        clouds();
        dusks();
        plain();
        west();
        wood();
        puddle();
        hill();
        lane();
        sharing();
        lightNotBelowNone();
        fieldsWithoutGleaners();
        stepTwelve();
        nightAtAnyStep();
        quarterCutUp();
        twentyMore();
        nextDusk();
        WORDS.end();
    }

    private static void due(String what, long got, long want) {
        WORDS.due(what, got, want);
    }

    /** What the object holds under these names, one inside the other: some limits lie beyond 512 calls. */
    private static Object inside(Object whole, String... names) throws ReflectiveOperationException {
        Object part = whole;
        for (String name : names) {
            Field field = part.getClass().getDeclaredField(name);
            field.setAccessible(true);
            part = field.get(part);
        }
        return part;
    }

    private static void store(GleanDusk x, int g, int much) throws ReflectiveOperationException {
        ((int[]) inside(x, "now", "dusk", "store"))[g] = much;
    }

    private static void dusk(GleanDusk x, int number) throws ReflectiveOperationException {
        Object dusk = inside(x, "now", "dusk");
        Field field = dusk.getClass().getDeclaredField("number");
        field.setAccessible(true);
        field.setInt(dusk, number);
    }

    private static void fields() {
        WORDS.by("FIELDS 0 ..");
        GleanDusk x = new GleanDusk();
        due("none at first", x.count(0), 0);
        due("no field 0 at first", x.of(0, 0), BAD);
        WORDS.by("5, as they come, in a row: a KIND,");
        for (int f = 0; f < 6; f++) due("field " + f, x.field(5 - f, 10 + f), f);
        for (int f = 0; f < 6; f++) {
            due("its kind", x.of(f, 0), 5 - f);
            due("its light", x.of(f, 1), 10 + f);
        }
        due("a 7th", x.field(0, 0), FULL);
        due("there are six yet", x.count(0), 6);
        due("the 6th is as it was", x.of(5, 1), 15);
        due("no field 6", x.of(6, 0), BAD);
        due("kind 6", new GleanDusk().field(6, 0), BAD);
        due("kind -1", new GleanDusk().field(-1, 0), BAD);
    }

    private static void lights() {
        WORDS.by("LIGHT (0 .. 60).");
        GleanDusk x = new GleanDusk();
        due("light -1", x.field(0, -1), BAD);
        due("light 61", x.field(0, 61), BAD);
        due("none has come", x.count(0), 0);
        due("light 0", x.field(0, 0), 0);
        due("light 60", x.field(0, 60), 1);
        due("it is 0", x.of(0, 1), 0);
        due("it is 60", x.of(1, 1), 60);
    }

    private static void gleaners() {
        WORDS.by("GLEANERS 0 .. 4, as they come, each in a FIELD,");
        GleanDusk x = Make.with(0, 0, 60, 0, 60, 0, 60, 0, 60, 0, 60, 0, 60);
        due("none at first", x.count(1), 0);
        for (int g = 0; g < 5; g++) due("gleaner " + g, x.gleaner(5 - g), g);
        for (int g = 0; g < 5; g++) due("its field", x.about(g, 0), 5 - g);
        due("a 6th", x.gleaner(0), FULL);
        due("there are five yet", x.count(1), 5);
        due("nobody else came", x.of(0, 2), 0);
        due("no gleaner 5", x.about(5, 0), BAD);
        due("no field 6", new GleanDusk().gleaner(6), BAD);
    }

    private static void stores() throws ReflectiveOperationException {
        WORDS.by("with a STORE (0 at first; 999 at most).");
        GleanDusk x = Make.gleaners(Make.with(0, 0, 60, 0, 30), 0);
        due("0 at first", x.about(0, 1), 0);
        x.glean(1);
        x.gleaner(1);
        due("0 of one who comes later", x.about(1, 1), 0);
        due("the other's stays", x.about(0, 1), 60);
        store(x, 1, 971);
        due("then, 28 more", x.then(1, 1), 999);
        x.glean(1);
        due("28 more", x.about(1, 1), 999);
        x.night();
        store(x, 1, 998);
        due("then, 22 more", x.then(1, 1), 999);
        x.glean(1);
        due("22 more", x.about(1, 1), 999);
        due("999 lasts one night at 999", x.lasts(1, 999), 1);
        due("999 is enough", x.enough(999), 2);
        due("a night's quarter of 999", x.night(), 2);
        due("749", x.about(1, 1), 749);
    }

    private static void steps() {
        WORDS.by("STEPS of a dusk have numbers, 0 at first, to 11;");
        GleanDusk x = Make.gleaners(Make.with(0, PLAIN, 60), 0);
        due("0 at first", x.count(2), 0);
        due("seen at 0", x.seen(0, 0), 60);
        due("seen at 11", x.seen(0, 11), 38);
        due("no step -1", x.seen(0, -1), BAD);
        due("no step 12", x.seen(0, 12), BAD);
        x.glean(11);
        due("11", x.count(2), 11);
        due("one at 11 yet", x.glean(1), 0);
        due("12", x.count(2), 12);
    }

    private static void clouds() {
        WORDS.by("CLOUD (0 .. 9; 0 at first).");
        GleanDusk x = new GleanDusk();
        due("0 at first", x.count(3), 0);
        due("cloud 9", x.cloud(9), 0);
        due("cloud 10", x.cloud(10), BAD);
        due("cloud -1", x.cloud(-1), BAD);
        due("it is 9", x.count(3), 9);
        due("cloud 0", x.cloud(0), 9);
        due("it is 0", x.count(3), 0);
        due("parish 9", x.parish(9), 0);
        due("parish 10", x.parish(10), BAD);
        due("parish -1", x.parish(-1), BAD);
        due("it is 9", x.count(3), 9);
        due("parish 0", x.parish(0), 0);
        due("it is 0", x.count(3), 0);
    }

    private static void dusks() throws ReflectiveOperationException {
        WORDS.by("DUSKS have numbers, 0 at first (999 at most).");
        GleanDusk x = Make.gleaners(Make.with(0, PLAIN, 30), 0);
        due("0 at first", x.count(4), 0);
        due("1 behind a night", x.night(), 1);
        dusk(x, 998);
        due("999", x.night(), 999);
        WORDS.by("A NIGHT goes by (at DUSK 999: it stays 999, all the same): the DUSK.");
        x.glean(4);
        due("gleaned", x.about(0, 1), 60);
        due("999 again", x.night(), 999);
        due("it is 999", x.count(4), 999);
        due("the straw fades", x.about(0, 1), 45);
        due("light grows", x.of(0, 1), 20);
        due("step 0", x.count(2), 0);
        due("it may be undone", x.undo(), 4);
        due("the store ahead", x.about(0, 1), 60);
    }

    /** What can be seen on a field of a kind, with this light and cloud, at step t. */
    private static void sees(int kind, int light, int cloud, int t, int want) {
        due("kind " + kind + ", light " + light + ", cloud " + cloud + ", step " + t,
            Make.with(cloud, kind, light).seen(0, t), want);
    }

    private static void plain() {
        WORDS.by("0 PLAIN: l less 2 t, less c, 0 at least.");
        sees(PLAIN, 60, 0, 0, 60);
        sees(PLAIN, 60, 9, 11, 29);
        sees(PLAIN, 32, 9, 11, 1);
        sees(PLAIN, 31, 9, 11, 0);
        sees(PLAIN, 30, 9, 11, 0);
        sees(PLAIN, 10, 9, 0, 1);
        sees(PLAIN, 9, 9, 0, 0);
        sees(PLAIN, 8, 9, 0, 0);
        sees(PLAIN, 3, 0, 1, 1);
        sees(PLAIN, 2, 0, 1, 0);
        sees(PLAIN, 1, 0, 1, 0);
        sees(PLAIN, 0, 0, 0, 0);
        sees(PLAIN, 0, 9, 11, 0);
    }

    private static void west() {
        WORDS.by("1 WEST (under PLAIN): as PLAIN, and t more from STEP 6 on, if l is 1 or more.");
        sees(WEST, 60, 0, 0, 60);
        sees(WEST, 60, 9, 5, 41);
        sees(WEST, 60, 9, 6, 45);
        sees(WEST, 60, 9, 11, 40);
        sees(WEST, 1, 0, 5, 0);
        sees(WEST, 1, 0, 6, 6);
        sees(WEST, 1, 9, 11, 11);
        sees(WEST, 0, 0, 5, 0);
        sees(WEST, 0, 0, 6, 0);
        sees(WEST, 0, 0, 11, 0);
        sees(WEST, 8, 9, 0, 0);
    }

    private static void wood() {
        WORDS.by("2 WOOD (under PLAIN): half (cut) of PLAIN.");
        sees(WOOD, 60, 0, 0, 30);
        sees(WOOD, 59, 0, 0, 29);
        sees(WOOD, 3, 0, 0, 1);
        sees(WOOD, 2, 0, 0, 1);
        sees(WOOD, 1, 0, 0, 0);
        sees(WOOD, 0, 0, 0, 0);
        sees(WOOD, 33, 9, 11, 1);
        sees(WOOD, 32, 9, 11, 0);
        sees(WOOD, 6, 9, 11, 0);
        sees(WOOD, 60, 0, 8, 22);
    }

    private static void puddle() {
        WORDS.by("3 PUDDLE (under PLAIN): PLAIN and c, l at most.");
        sees(PUDDLE, 60, 9, 0, 60);
        sees(PUDDLE, 60, 9, 11, 38);
        sees(PUDDLE, 60, 0, 11, 38);
        sees(PUDDLE, 10, 9, 0, 10);
        sees(PUDDLE, 9, 9, 0, 9);
        sees(PUDDLE, 8, 9, 0, 8);
        sees(PUDDLE, 1, 9, 11, 1);
        sees(PUDDLE, 0, 9, 11, 0);
        sees(PUDDLE, 10, 9, 11, 9);
        sees(PUDDLE, 9, 9, 11, 9);
        sees(PUDDLE, 8, 9, 11, 8);
        sees(PUDDLE, 10, 0, 11, 0);
    }

    private static void hill() {
        WORDS.by("4 HILL (under WEST): WEST, as it would be with CLOUD less by 3 (0 at least).");
        int[] at5 = {50, 50, 50, 50, 49, 48, 47, 46, 45, 44};
        for (int c = 0; c < 10; c++) {
            sees(HILL, 60, c, 5, at5[c]);
            sees(HILL, 60, c, 6, at5[c] + 4);
        }
        sees(HILL, 0, 9, 6, 0);
        sees(HILL, 0, 0, 11, 0);
        sees(HILL, 1, 9, 6, 6);
        sees(HILL, 1, 9, 5, 0);
        sees(HILL, 1, 3, 0, 1);
        sees(HILL, 1, 4, 0, 0);
        sees(HILL, 60, 0, 0, 60);
    }

    private static void lane() {
        WORDS.by("5 LANE (under WOOD): WOOD, 0 from STEP 8 on.");
        sees(LANE, 60, 0, 0, 30);
        sees(LANE, 60, 0, 7, 23);
        sees(LANE, 60, 9, 7, 18);
        sees(LANE, 60, 0, 8, 0);
        sees(LANE, 60, 0, 11, 0);
        sees(LANE, 1, 0, 0, 0);
        sees(LANE, 0, 0, 0, 0);
    }

    private static void sharing() {
        WORDS.by("each gets as much, cut (what is left over is lost); to each STORE;");
        int[] lights = {0, 1, 4, 5, 6, 9, 10, 59, 60};
        int[] each = {0, 0, 0, 1, 1, 1, 2, 11, 12};
        for (int i = 0; i < lights.length; i++) {
            GleanDusk x = Make.gleaners(Make.with(0, PLAIN, lights[i]), 0, 0, 0, 0, 0);
            due("each of five gets of " + lights[i], x.about(4, 2), each[i]);
            due("all together", x.glean(1), 5 * each[i]);
            due("the first one's store", x.about(0, 1), each[i]);
            due("the last one's store", x.about(4, 1), each[i]);
            due("light that is left", x.of(0, 1), lights[i] - 5 * each[i]);
        }
    }

    private static void lightNotBelowNone() {
        WORDS.by("LIGHT of that FIELD is less by what they get together (0 at least);");
        GleanDusk x = Make.with(0, WEST, 1, WEST, 7, WEST, 18);
        x.glean(6);
        Make.gleaners(x, 0, 1, 2, 2);
        due("6, 6, 12", x.glean(1), 24);
        due("6 of 1 leaves 0", x.of(0, 1), 0);
        due("6 of 7 leaves 1", x.of(1, 1), 1);
        due("12 of 18 leaves 6", x.of(2, 1), 6);
        due("nothing more without light, 7 of 1, 6 of 6", x.glean(1), 13);
        due("none is left", x.of(1, 1), 0);
        due("none is left", x.of(2, 1), 0);
    }

    private static void fieldsWithoutGleaners() {
        WORDS.by("a FIELD without GLEANERS stays as it is.");
        GleanDusk x = Make.with(0, PLAIN, 60, WEST, 60, PUDDLE, 1);
        due("nobody gets a thing", x.glean(6), 0);
        due("the step goes on", x.count(2), 6);
        x.gleaner(1);
        due("54 at step 6, 7 at step 7", x.glean(6), 61);
        due("field 0", x.of(0, 1), 60);
        due("field 1", x.of(1, 1), 0);
        due("field 2", x.of(2, 1), 1);
        due("no fields", new GleanDusk().glean(12), 0);
    }

    private static void stepTwelve() {
        WORDS.by("The STEP is one more; behind STEP 11 it is NIGHT (STEP 12: no GLEANING).");
        GleanDusk x = Make.gleaners(Make.with(0, PLAIN, 60), 0);
        for (int t = 0; t < 12; t++) {
            due("step", x.count(2), t);
            due("one gleaning", x.glean(1), t == 0 ? 60 : 0);
        }
        due("step 12", x.count(2), 12);
        due("no gleaning", x.glean(1), NO);
        due("it stays 12", x.count(2), 12);
        due("the dusk stays", x.count(4), 0);
        due("the light stays", x.of(0, 1), 0);
        due("the straw stays", x.about(0, 1), 60);
        GleanDusk late = Make.gleaners(Make.with(0, PLAIN, 60, WEST, 60), 0, 1);
        late.goes(0, 1);
        late.goes(1, 1);
        late.glean(12);
        late.goes(0, 0);
        due("nothing to get", late.about(0, 2), 0);
        due("light there is", late.of(0, 1), 60);
    }

    private static void nightAtAnyStep() {
        WORDS.by("A NIGHT (at any STEP):");
        for (int t = 0; t <= 12; t++) {
            GleanDusk x = Make.gleaners(Make.with(7, PLAIN, 27), 0);
            if (t > 0) x.glean(t);
            due("dusk behind step " + t, x.night(), 1);
            due("step", x.count(2), 0);
            due("store", x.about(0, 1), t > 0 ? 15 : 0);
            due("light", x.of(0, 1), t > 0 ? 27 : 47);
            due("cloud stays", x.count(3), 7);
            due("the gleaner stays", x.about(0, 0), 0);
            due("the step ahead", x.undo(), t);
        }
    }

    private static void quarterCutUp() {
        WORDS.by("each STORE is a quarter (cut up) less;");
        int[] stores = {0, 1, 2, 3, 4, 5, 6, 7, 8, 9, 57, 58, 59, 60};
        int[] behind = {0, 0, 1, 2, 3, 3, 4, 5, 6, 6, 42, 43, 44, 45};
        for (int i = 0; i < stores.length; i++) {
            GleanDusk x = Make.gleaners(Make.with(0, PLAIN, stores[i], PLAIN, 8), 0, 1);
            x.glean(1);
            due("store", x.about(0, 1), stores[i]);
            x.night();
            due("of " + stores[i], x.about(0, 1), behind[i]);
            due("of the other's 8", x.about(1, 1), 6);
        }
    }

    private static void twentyMore() {
        WORDS.by("LIGHT of each FIELD is 20 more (60 at most);");
        GleanDusk x = Make.gleaners(Make.with(0, PLAIN, 0, WEST, 39, WOOD, 40, PUDDLE, 41, HILL, 60, LANE, 59), 0, 4);
        x.night();
        int[] lights = {20, 59, 60, 60, 60, 60};
        for (int f = 0; f < 6; f++) due("light of " + f, x.of(f, 1), lights[f]);
        x.night();
        due("40", x.of(0, 1), 40);
        due("60", x.of(1, 1), 60);
    }

    private static void nextDusk() {
        WORDS.by("the DUSK is one more; STEP 0.");
        GleanDusk x = new GleanDusk();
        for (int i = 1; i <= 500; i++) {
            if (x.night() != i) due("night " + i, x.count(4), i);
        }
        due("500 nights", x.count(4), 500);
        due("step", x.count(2), 0);
    }
}
