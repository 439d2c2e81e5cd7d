/** Each promise of the document by itself: ordinary inputs, the edges that it names, wrong inputs. */
public final class PromisesTest {
    private static final int NONE = GleanDusk.NONE, BAD = GleanDusk.BAD, NO = GleanDusk.NO, FULL = GleanDusk.FULL;
    private static final int LOWEST = Integer.MIN_VALUE, HIGHEST = Integer.MAX_VALUE;
    private static final Check CHECK = new Check("PromisesTest");

    private static int promise;

    private static void due(String what, long got, long want) {
        CHECK.due("promise " + promise + ": " + what, got, want);
    }

    public static void main(String[] args) {
        Runnable[] promises = {
            PromisesTest::newObject, PromisesTest::parish, PromisesTest::field, PromisesTest::gleaner,
            PromisesTest::type, PromisesTest::clear, PromisesTest::read, PromisesTest::glean, PromisesTest::night,
            PromisesTest::goes, PromisesTest::cloud, PromisesTest::undo, PromisesTest::of, PromisesTest::about,
            PromisesTest::seen, PromisesTest::then, PromisesTest::round, PromisesTest::places, PromisesTest::which,
            PromisesTest::lasts, PromisesTest::enough, PromisesTest::missed, PromisesTest::clouds, PromisesTest::note,
            PromisesTest::forget, PromisesTest::is, PromisesTest::look, PromisesTest::two, PromisesTest::rains,
            PromisesTest::summers, PromisesTest::part, PromisesTest::image, PromisesTest::from, PromisesTest::status,
            PromisesTest::count, PromisesTest::digest};
        due("how many promises", promises.length, 36);
        for (Runnable test : promises) {
            promise++;
            test.run();
        }
        CHECK.end();
    }

    private static void newObject() {
        GleanDusk x = new GleanDusk();
        for (int what = 0; what < 9; what++) due("count " + what, x.count(what), 0);
        for (int what = 0; what < 3; what++) due("status " + what, x.status(what), 0);
        due("part 0", x.part(0), 0);
        due("part 1", x.part(1), 1);
        due("from 0", x.from(0), NO);
        due("from 1", x.from(1), NO);
        due("undo", x.undo(), NO);
    }

    private static void parish() {
        GleanDusk x = Make.gleaners(Make.with(3, 0, 60, 1, 20), 0, 1);
        Make.typeAll(x, "abc");
        x.rains(0, 5);
        x.missed(0, 0, 0, 0);
        x.note(0, 0, 0, 0, 0);
        x.image(1);
        x.glean(3);
        x.night();
        long above = x.part(0), below = x.part(1);
        due("a bad cloud", x.parish(10), BAD);
        due("a bad cloud", x.parish(-1), BAD);
        due("all stays", x.count(0), 2);
        due("fields there were", x.parish(9), 2);
        int[] counts = {0, 0, 0, 9, 0, 0, 0, 0, 3};
        for (int what = 0; what < 9; what++) due("count " + what, x.count(what), counts[what]);
        due("the fraction stays above", x.part(0), above);
        due("the fraction stays below", x.part(1), below);
        due("status stays", x.status(0), 2);
        due("fields there were", x.parish(0), 0);
        due("images stay", x.from(1), 1);
        due("fields of the image", x.count(0), 2);
    }

    private static void field() {
        GleanDusk x = new GleanDusk();
        for (int bad : new int[] {-1, 6, LOWEST, HIGHEST}) due("kind " + bad, x.field(bad, 0), BAD);
        for (int bad : new int[] {-1, 61, LOWEST, HIGHEST}) due("light " + bad, x.field(0, bad), BAD);
        for (int f = 0; f < 6; f++) due("field", x.field(f, f * 12), f);
        for (int f = 0; f < 6; f++) {
            due("its kind", x.of(f, 0), f);
            due("its light", x.of(f, 1), f * 12);
        }
        due("a 7th", x.field(0, 0), FULL);
        due("bad ahead of full", x.field(6, 0), BAD);
        due("how many", x.count(0), 6);
    }

    private static void gleaner() {
        GleanDusk x = new GleanDusk();
        due("no field", x.gleaner(0), BAD);
        x.field(0, 60);
        due("none there", x.gleaner(1), BAD);
        for (int bad : new int[] {-1, LOWEST, HIGHEST}) due("field " + bad, x.gleaner(bad), BAD);
        for (int g = 0; g < 5; g++) due("gleaner", x.gleaner(0), g);
        due("a 6th", x.gleaner(0), FULL);
        due("bad ahead of full", x.gleaner(1), BAD);
        due("its store", x.about(4, 1), 0);
        x.parish(0);
        x.field(0, 60);
        x.gleaner(0);
        x.glean(1);
        x.parish(0);
        x.field(0, 60);
        x.gleaner(0);
        due("a new one's store", x.about(0, 1), 0);
    }

    private static void type() {
        GleanDusk x = new GleanDusk();
        for (int bad : new int[] {-1, 128, LOWEST, HIGHEST}) due("byte " + bad, x.type(bad), BAD);
        for (int i = 1; i <= 150; i++) due("byte", x.type(i == 1 ? 0 : 127), i);
        due("a 151st", x.type(0), FULL);
        due("bad ahead of full", x.type(128), BAD);
        due("how many", x.count(8), 150);
    }

    private static void clear() {
        GleanDusk x = new GleanDusk();
        due("an empty one", x.clear(), 0);
        Make.typeAll(x, "parish 4;");
        due("nine", x.clear(), 9);
        due("empty", x.count(8), 0);
        due("nothing to read", x.read(), -10);
    }

    private static void read() {
        due("one item", Make.reading("parish 4;"), 1);
        due("no blanks", Make.reading("parish4;field0 40;gleaner0;glean12;"), 4);
        due("many blanks", Make.reading("   parish   04  ;  field 00 60 ; "), 2);
        faults();
        GleanDusk x = Make.gleaners(Make.with(1, 0, 9), 0);
        x.rains(0, 0);
        x.missed(0, 0, 0, 0);
        x.note(0, 0, 0, 0, 0);
        x.image(0);
        x.night();
        Make.typeAll(x, "parish 2;field 1 50;gleaner 0;glean 2;field 4 7;gleaner 1;gleaner 1;glean 1;x");
        long before = x.digest();
        due("a fault", x.read(), -10 - 76);
        due("all stays", x.digest(), before);
        due("a fault is no refusal", x.status(0) + x.status(1) + x.status(2), 0);
        Make.typeAll(x, "parish 2;field 1 50;gleaner 0;glean 2;field 4 7;gleaner 1;gleaner 1;glean 1;");
        due("items", x.read(), 8);
        int[] counts = {2, 3, 3, 2, 0, 0, 0, 0, 76};
        for (int what = 0; what < 9; what++) due("count " + what, x.count(what), counts[what]);
        due("gleaned ahead", x.about(0, 1), 48);
        due("light ahead", x.of(0, 1), 2);
        due("gleaned since", x.about(1, 1), 1);
        due("light since", x.of(1, 1), 5);
        due("the fraction stays", x.part(0), 8);
        due("images stay", x.from(0), 1);
        due("the image's light", x.of(0, 1), 9);
    }

    private static void faults() {
        String fields6 = "field0 1;field0 1;field0 1;field0 1;field0 1;field0 1;";
        String gleaners5 = "gleaner0;gleaner0;gleaner0;gleaner0;gleaner0;";
        String[] texts = {
            "", "   ", "parish", "parish ", "parish 4", "parish 4 ", "parish 4;field", "parish 4;field 1",
            "parish 4;field 1 1", "parish 4;glean", "field 0 0;", "4", ";", "parishs 4;", "paris", "Parish 4;",
            "parish 10;", "parish 004;", "parish ;", "parish 4 4;", "parish 4;parish 4;", "parish 4;;",
            "parish 4;fields 1 1;", "parish 4; field 6 1;", "parish 4;field 1 61;", "parish 4;field 1;",
            "parish 4;field 1 123;", "parish 4;gleaner 0;", "parish 4;field 0 0;gleaner 1;", "parish 4;glean 0;",
            "parish 4;glean 13;", "parish 4;glean 7;glean 6;", "parish 4;glean 12;glean 1;", "parish 4;\t",
            "parish\n4;", "parish -1;", "parish 4;glean 1 1;", "parish 4;fie", "parish 4;12", "parish 4,",
            "parish 4;" + fields6 + "field0 1;", "parish 4;" + fields6 + "field",
            "parish 4;field0 1;" + gleaners5 + "gleaner0;",
            "parish 4;field0 1;" + gleaners5 + " gleaner9"};
        int[] places = {
            0, 3, 6, 7, 8, 9, 14, 16,
            18, 14, 0, 0, 0, 0, 0, 0,
            7, 7, 7, 9, 9, 9,
            9, 16, 17, 16,
            17, 17, 27, 15,
            15, 23, 24, 9,
            6, 7, 17, 9, 9, 8,
            63, 63,
            63,
            64};
        due("faults told", texts.length, places.length);
        for (int i = 0; i < texts.length; i++) {
            due("fault of '" + texts[i] + "'", Make.reading(texts[i]), -10 - places[i]);
        }
    }

    private static void glean() {
        GleanDusk x = Make.gleaners(Make.with(1, 0, 60, 2, 41), 0, 0, 1);
        for (int bad : new int[] {0, 13, -1, LOWEST, HIGHEST}) due("glean " + bad, x.glean(bad), BAD);
        due("59 by two, 20", x.glean(1), 58 + 20);
        due("light of 0", x.of(0, 1), 2);
        due("light of 1", x.of(1, 1), 21);
        due("store 0", x.about(0, 1), 29);
        due("store 1", x.about(1, 1), 29);
        due("store 2", x.about(2, 1), 20);
        due("step", x.count(2), 1);
        due("no more than eleven left", x.glean(12), NO);
        due("the rest", x.glean(11), 9 + 3 + 1);
        due("step", x.count(2), 12);
        due("none left", x.glean(1), NO);
        due("together one", x.count(7), 2);
        GleanDusk west = Make.gleaners(Make.with(9, 1, 1, 1, 60), 0);
        west.glean(11);
        due("more than there is", west.about(0, 1), 6);
        due("light not below 0", west.of(0, 1), 0);
        due("without gleaners as it is", west.of(1, 1), 60);
    }

    private static void night() {
        GleanDusk x = Make.gleaners(Make.with(0, 0, 60, 0, 41, 0, 0), 0, 1);
        x.glean(1);
        due("dusk", x.night(), 1);
        due("store of 60", x.about(0, 1), 45);
        due("store of 41", x.about(1, 1), 30);
        due("light", x.of(0, 1), 20);
        due("light", x.of(2, 1), 20);
        due("step", x.count(2), 0);
        for (int i = 0; i < 3; i++) x.night();
        due("light at most", x.of(2, 1), 60);
        due("dusk", x.count(4), 4);
        due("45 34 26 19: a quarter cut up", x.about(0, 1), 18);
        due("each may be undone", x.count(7), 5);
    }

    private static void goes() {
        GleanDusk x = Make.gleaners(Make.with(0, 0, 60, 0, 41), 0);
        due("no gleaner", x.goes(1, 0), BAD);
        due("no gleaner", x.goes(-1, 0), BAD);
        due("no field", x.goes(0, 2), BAD);
        due("no field", x.goes(0, -1), BAD);
        due("where it was", x.goes(0, 1), 0);
        due("where it is", x.about(0, 0), 1);
        due("may be undone", x.count(7), 1);
        due("not elsewhere", x.goes(0, 1), 1);
        due("nothing more to undo", x.count(7), 1);
        due("back", x.undo(), 0);
        due("where it was", x.about(0, 0), 0);
    }

    private static void cloud() {
        GleanDusk x = Make.with(4, 0, 60);
        for (int bad : new int[] {-1, 10, LOWEST, HIGHEST}) due("cloud " + bad, x.cloud(bad), BAD);
        due("what it was", x.cloud(9), 4);
        due("what it is", x.count(3), 9);
        due("told again", x.cloud(9), 9);
        due("may be undone", x.count(7), 2);
        due("seen", x.seen(0, 0), 51);
    }

    private static void undo() {
        GleanDusk x = Make.gleaners(Make.with(2, 3, 50, 4, 30), 0, 1);
        x.rains(0, 5);
        long first = x.digest();
        x.glean(3);
        long second = x.digest();
        x.goes(0, 1);
        x.cloud(7);
        x.glean(9);
        x.night();
        due("behind a night", x.undo(), 12);
        due("behind nine", x.undo(), 3);
        due("behind a cloud", x.undo(), 3);
        due("cloud", x.count(3), 2);
        due("behind one who went", x.undo(), 3);
        due("as ahead", x.digest(), second);
        due("behind three", x.undo(), 0);
        due("as ahead", x.digest(), first);
        due("none", x.undo(), NO);
        for (int i = 1; i < 10; i++) x.cloud(i);
        due("eight at most", x.count(7), 8);
        for (int i = 0; i < 8; i++) due("undo", x.undo(), 0);
        due("the first of nine stays", x.count(3), 1);
        due("none", x.undo(), NO);
        x.night();
        x.field(0, 0);
        due("behind a field", x.undo(), NO);
        x.night();
        x.gleaner(0);
        due("behind a gleaner", x.undo(), NO);
        x.night();
        x.note(0, 0, 0, 0, 0);
        due("behind a note", x.undo(), 0);
        due("the note stays", x.count(6), 1);
    }

    private static void of() {
        GleanDusk x = Make.gleaners(Make.with(0, 4, 33, 5, 7), 1, 0, 1, 1, 1);
        due("kind", x.of(0, 0), 4);
        due("light", x.of(1, 1), 7);
        due("who", x.of(0, 2), 2);
        due("who", x.of(1, 2), 29);
        for (int bad : new int[] {-1, 2, LOWEST, HIGHEST}) due("field " + bad, x.of(bad, 0), BAD);
        for (int bad : new int[] {-1, 3, LOWEST, HIGHEST}) due("what " + bad, x.of(0, bad), BAD);
    }

    private static void about() {
        GleanDusk x = Make.gleaners(Make.with(0, 0, 50, 5, 60), 0, 0, 0, 1);
        due("field", x.about(3, 0), 1);
        due("gets", x.about(0, 2), 16);
        due("gets alone", x.about(3, 2), 30);
        x.glean(1);
        due("store", x.about(2, 1), 16);
        x.glean(11);
        due("gets at 12", x.about(3, 2), 0);
        for (int bad : new int[] {-1, 4, LOWEST, HIGHEST}) due("gleaner " + bad, x.about(bad, 0), BAD);
        for (int bad : new int[] {-1, 3, LOWEST, HIGHEST}) due("what " + bad, x.about(0, bad), BAD);
    }

    private static void seen() {
        GleanDusk x = Make.with(4, 0, 41, 1, 41, 2, 41, 3, 41, 4, 41, 5, 41);
        int[] at0 = {37, 37, 18, 41, 40, 18};
        int[] at5 = {27, 27, 13, 31, 30, 13};
        int[] at6 = {25, 31, 12, 29, 34, 12};
        int[] at7 = {23, 30, 11, 27, 33, 11};
        int[] at8 = {21, 29, 10, 25, 32, 0};
        int[] at11 = {15, 26, 7, 19, 29, 0};
        for (int k = 0; k < 6; k++) {
            due("kind " + k + " at 0", x.seen(k, 0), at0[k]);
            due("kind " + k + " at 5", x.seen(k, 5), at5[k]);
            due("kind " + k + " at 6", x.seen(k, 6), at6[k]);
            due("kind " + k + " at 7", x.seen(k, 7), at7[k]);
            due("kind " + k + " at 8", x.seen(k, 8), at8[k]);
            due("kind " + k + " at 11", x.seen(k, 11), at11[k]);
        }
        GleanDusk dark = Make.with(9, 0, 0, 1, 0, 2, 0, 3, 0, 4, 0, 5, 0);
        for (int k = 0; k < 6; k++) due("dark " + k, dark.seen(k, 11), 0);
        GleanDusk dim = Make.with(9, 3, 5, 1, 1, 4, 1);
        due("a puddle's light at most", dim.seen(0, 0), 5);
        due("a puddle late", dim.seen(0, 11), 5);
        due("west with 1", dim.seen(1, 11), 11);
        due("hill with 1", dim.seen(2, 6), 6);
        dim.cloud(2);
        due("hill, cloud not below 0", dim.seen(2, 0), 1);
        for (int bad : new int[] {-1, 3, LOWEST, HIGHEST}) due("field " + bad, dim.seen(bad, 0), BAD);
        for (int bad : new int[] {-1, 12, LOWEST, HIGHEST}) due("step " + bad, dim.seen(0, bad), BAD);
    }

    private static void then() {
        GleanDusk x = Make.gleaners(Make.with(1, 2, 60, 1, 60), 0, 1, 1);
        long before = x.digest();
        int now = x.about(0, 1);
        due("none", x.then(0, 0), now);
        int[] stores = new int[13];
        for (int n = 0; n <= 12; n++) stores[n] = x.then(0, n);
        due("nothing is changed", x.digest(), before);
        for (int n = 1; n <= 12; n++) {
            x.glean(1);
            due("behind " + n, x.about(0, 1), stores[n]);
        }
        due("none left", x.then(0, 12), stores[12]);
        x.undo();
        due("one left", x.then(0, 12), stores[12]);
        for (int bad : new int[] {-1, 13, LOWEST, HIGHEST}) due("n " + bad, x.then(0, bad), BAD);
        for (int bad : new int[] {-1, 3, LOWEST, HIGHEST}) due("gleaner " + bad, x.then(bad, 0), BAD);
    }

    private static void round() {
        GleanDusk x = Make.gleaners(Make.with(0, 0, 10, 2, 60, 0, 40), 1, 1);
        long before = x.digest();
        due("one step: stay", x.round(0, 1, NONE), 30);
        due("alone there", x.round(0, 1, 0), 1);
        due("two steps: stay or go", x.round(0, 2, NONE), 44);
        due("first", x.round(0, 2, 0), 1);
        due("second", x.round(0, 2, 1), 1);
        due("three: stay, go, glean", x.round(0, 3, NONE), 66);
        int[] row = {1, 2, 2};
        for (int i = 0; i < 3; i++) due("row " + i, x.round(0, 3, i), row[i]);
        due("not so many", x.round(0, 3, 3), -5);
        due("not so many", x.round(0, 6, HIGHEST), -5);
        due("no refusal", x.status(0), 0);
        due("nothing is changed", x.digest(), before);
        int[] bad = {-2, LOWEST};
        for (int i : bad) due("i " + i, x.round(0, 3, i), -10);
        for (int n : new int[] {0, 7, LOWEST, HIGHEST}) due("n " + n, x.round(0, n, 0), -10);
        for (int g : new int[] {-1, 2, LOWEST, HIGHEST}) due("gleaner " + g, x.round(g, 1, 0), -10);
        due("bad ahead of not so many", x.round(2, 1, 9), -10);
        due("counted as bad", x.status(0), 11);
        x.glean(12);
        due("beyond 11: nothing", x.round(0, 6, NONE), 0);
        due("the first row", x.round(0, 6, 0), 0);
        due("the first row", x.round(0, 6, 5), 0);
        GleanDusk late = Make.gleaners(Make.with(0, 0, 0, 1, 60), 0);
        late.glean(10);
        due("at 11 still", late.round(0, 3, NONE), 49);
        int[] lateRow = {1, 1, 0};
        for (int i = 0; i < 3; i++) due("late row " + i, late.round(0, 3, i), lateRow[i]);
    }

    private static void places() {
        GleanDusk x = Make.with(0, 0, 10, 0, 60, 0, 31);
        due("no gleaners", x.places(0, NONE), 0);
        due("no gleaners", x.places(1, NONE), 0);
        due("none", x.places(0, 0), -10);
        Make.gleaners(x, 0, 0);
        long before = x.digest();
        due("most", x.places(0, NONE), 91);
        due("the first's", x.places(0, 0), 1);
        due("the second's", x.places(0, 1), 2);
        due("the poorest", x.places(1, NONE), 31);
        due("the first's", x.places(1, 0), 1);
        due("the second's", x.places(1, 1), 2);
        due("nothing is changed", x.digest(), before);
        x.gleaner(0);
        due("most of three", x.places(0, NONE), 101);
        due("the poorest of three", x.places(1, NONE), 30);
        int[] row = {1, 1, 2};
        for (int g = 0; g < 3; g++) due("where", x.places(1, g), row[g]);
        for (int what : new int[] {-1, 2, LOWEST, HIGHEST}) due("what " + what, x.places(what, NONE), -10);
        for (int g : new int[] {-2, 3, LOWEST, HIGHEST}) due("gleaner " + g, x.places(0, g), -10);
        due("counted as bad", x.status(0), 9);
        x.glean(12);
        due("at 12", x.places(0, NONE), 0);
        due("at 12", x.places(1, NONE), 0);
        due("the first way", x.places(0, 2), 0);
    }

    private static void which() {
        GleanDusk x = new GleanDusk();
        due("no fields", x.which(0), NONE);
        due("bad", x.which(12), BAD);
        due("bad", x.which(-1), BAD);
        x.field(2, 50);
        x.field(0, 30);
        x.field(0, 30);
        x.field(1, 29);
        due("of like ones the least", x.which(0), 1);
        due("west later", x.which(6), 3);
        x.parish(9);
        x.field(0, 0);
        x.field(0, 0);
        due("nothing to see", x.which(11), 0);
    }

    private static void lasts() {
        GleanDusk x = Make.gleaners(Make.with(0, 0, 40, 0, 0), 0, 1);
        x.glean(1);
        due("at 41", x.lasts(0, 41), 0);
        due("at 40", x.lasts(0, 40), 1);
        due("30 is not below 30", x.lasts(0, 30), 2);
        due("at 1: 30 22 16 12 9 6 4 3 2 1 0", x.lasts(0, 1), 11);
        due("an empty store", x.lasts(1, 1), 0);
        for (int bad : new int[] {0, 1000, LOWEST, HIGHEST}) due("x " + bad, x.lasts(0, bad), BAD);
        for (int bad : new int[] {-1, 2, LOWEST, HIGHEST}) due("gleaner " + bad, x.lasts(bad, 1), BAD);
        due("nothing is changed", x.about(0, 1), 40);
    }

    private static void enough() {
        GleanDusk x = new GleanDusk();
        due("nobody is enough", x.enough(0), 0);
        due("none", x.enough(1), NONE);
        x = Make.gleaners(Make.with(0, 0, 10, 0, 20, 0, 25, 0, 20), 0, 1, 2, 3);
        x.glean(1);
        due("one", x.enough(10), 1);
        due("one", x.enough(20), 2);
        due("one", x.enough(21), 4);
        due("two", x.enough(30), 3);
        due("two of like ones", x.enough(40), 6);
        due("two, later", x.enough(45), 6);
        due("three", x.enough(46), 7);
        due("three", x.enough(65), 14);
        due("all", x.enough(75), 15);
        due("none", x.enough(76), NONE);
        for (int bad : new int[] {-1, 1000, LOWEST, HIGHEST}) due("x " + bad, x.enough(bad), BAD);
    }

    private static void missed() {
        GleanDusk x = Make.with(0, 0, 10);
        int[] bad = {-1, LOWEST, HIGHEST};
        for (int b : bad) {
            due("field " + b, x.missed(b, 0, 0, 0), BAD);
            due("step " + b, x.missed(0, b, 0, 0), BAD);
            due("light " + b, x.missed(0, 0, b, 0), BAD);
            due("seen " + b, x.missed(0, 0, 0, b), BAD);
        }
        due("no field", x.missed(1, 0, 0, 0), BAD);
        due("step 12", x.missed(0, 12, 0, 0), BAD);
        due("light 61", x.missed(0, 0, 61, 0), BAD);
        due("seen 61", x.missed(0, 0, 0, 61), BAD);
        for (int i = 1; i <= 4; i++) due("missed", x.missed(0, 11, 60, 60), i);
        due("a 5th", x.missed(0, 0, 0, 0), FULL);
        due("bad ahead of full", x.missed(1, 0, 0, 0), BAD);
        due("how many", x.count(5), 4);
        due("nothing to undo", x.count(7), 0);
    }

    private static void clouds() {
        GleanDusk x = Make.with(0, 0, 10, 4, 10, 2, 10);
        due("all", x.clouds(), 1023);
        x.missed(1, 0, 20, 20);
        due("a hill: 0 to 3", x.clouds(), 15);
        x.missed(2, 1, 20, 8);
        due("a wood: 1, 2", x.clouds(), 6);
        x.missed(0, 2, 20, 14);
        due("plain: 2", x.clouds(), 4);
        x.missed(0, 0, 20, 21);
        due("none", x.clouds(), 0);
        x.forget(0);
        x.missed(0, 11, 0, 0);
        due("all", x.clouds(), 1023);
    }

    private static void note() {
        GleanDusk x = Make.with(0, 0, 10);
        int[] bad = {-1, LOWEST, HIGHEST};
        for (int b : bad) {
            due("field " + b, x.note(b, 0, 0, 0, 0), BAD);
            due("step " + b, x.note(0, b, 0, 0, 0), BAD);
            due("light " + b, x.note(0, 0, b, 0, 0), BAD);
            due("cloud " + b, x.note(0, 0, 0, b, 0), BAD);
            due("seen " + b, x.note(0, 0, 0, 0, b), BAD);
        }
        due("no field", x.note(1, 0, 0, 0, 0), BAD);
        due("step 12", x.note(0, 12, 0, 0, 0), BAD);
        due("light 61", x.note(0, 0, 61, 0, 0), BAD);
        due("cloud 10", x.note(0, 0, 0, 10, 0), BAD);
        due("seen 100", x.note(0, 0, 0, 0, 100), BAD);
        for (int i = 1; i <= 6; i++) due("note", x.note(0, 11, 60, 9, 99), i);
        due("a 7th", x.note(0, 0, 0, 0, 0), FULL);
        due("bad ahead of full", x.note(1, 0, 0, 0, 0), BAD);
        due("how many", x.count(6), 6);
    }

    private static void forget() {
        GleanDusk x = Make.with(0, 0, 10);
        for (int bad : new int[] {-1, 2, LOWEST, HIGHEST}) due("what " + bad, x.forget(bad), BAD);
        x.missed(0, 0, 0, 0);
        x.missed(0, 0, 0, 60);
        x.note(0, 0, 0, 0, 9);
        due("missed ones", x.forget(0), 2);
        due("notes stay", x.count(6), 1);
        due("missed ones", x.forget(0), 0);
        due("notes", x.forget(1), 1);
        due("notes", x.count(6), 0);
    }

    private static void is() {
        GleanDusk x = Make.with(0, 0, 10, 1, 10);
        due("no notes", x.is(0), 63);
        x.note(0, 0, 40, 2, 40);
        due("puddle or hill", x.is(0), 24);
        due("another field's notes", x.is(1), 63);
        x.note(0, 6, 40, 2, 34);
        due("hill", x.is(0), 16);
        x.note(0, 6, 40, 2, 33);
        due("none", x.is(0), 0);
        for (int bad : new int[] {-1, 2, LOWEST, HIGHEST}) due("field " + bad, x.is(bad), BAD);
    }

    private static void look() {
        GleanDusk x = Make.with(0, 0, 60, 1, 0);
        due("all", x.look(0), 801);
        due("in the dark all are alike", x.look(1), 0);
        x.note(0, 0, 40, 2, 40);
        due("puddle or hill", x.look(0), 4);
        x.note(0, 6, 40, 2, 34);
        due("one left", x.look(0), 0);
        x.note(0, 6, 40, 2, 33);
        due("none left", x.look(0), NONE);
        for (int bad : new int[] {-1, 2, LOWEST, HIGHEST}) due("field " + bad, x.look(bad), BAD);
    }

    private static void two() {
        GleanDusk x = Make.gleaners(Make.with(0, 0, 20, 0, 20, 0, 9), 0, 0, 2);
        long before = x.digest();
        due("how many", x.two(0, 1, NONE), 2);
        due("0 and 1", x.two(0, 1, 0), 1);
        due("1 and 0", x.two(0, 1, 1), 6);
        due("not so many", x.two(0, 1, 2), -5);
        due("not so many", x.two(0, 1, HIGHEST), -5);
        due("no refusal", x.status(0), 0);
        due("alike", x.two(1, 1, 0), -10);
        for (int bad : new int[] {-1, 3, LOWEST, HIGHEST}) {
            due("a " + bad, x.two(bad, 0, 0), -10);
            due("b " + bad, x.two(0, bad, 0), -10);
        }
        due("k -2", x.two(0, 1, -2), -10);
        due("k lowest", x.two(0, 1, LOWEST), -10);
        due("counted as bad", x.status(0), 11);
        due("nothing is changed", x.digest(), before);
        x.glean(12);
        due("at 12 both stay", x.two(0, 2, NONE), 1);
        due("at 12 both stay", x.two(0, 2, 0), 2);
        due("the other way", x.two(2, 0, 0), 12);
    }

    private static void rains() {
        GleanDusk x = Make.with(3, 0, 41);
        due("odds 3", x.rains(0, 3), 1);
        due("above", x.part(0), 73);
        due("below", x.part(1), 2);
        due("odds 0", x.rains(0, 0), 1);
        due("above", x.part(0), 38);
        due("below", x.part(1), 1);
        due("odds 10", x.rains(0, 10), 1);
        due("above", x.part(0), 33);
        x.cloud(6);
        x.rains(0, 5);
        due("9 at most, above", x.part(0), 67);
        due("9 at most, below", x.part(1), 2);
        due("the cloud stays", x.count(3), 6);
        for (int bad : new int[] {-1, 1, LOWEST, HIGHEST}) due("field " + bad, x.rains(bad, 0), BAD);
        for (int bad : new int[] {-1, 11, LOWEST, HIGHEST}) due("odds " + bad, x.rains(0, bad), BAD);
        due("the fraction stays", x.part(0), 67);
        x.glean(12);
        due("at 12", x.rains(0, 5), 1);
        due("above", x.part(0), 0);
        due("below", x.part(1), 1);
    }

    private static void summers() {
        GleanDusk x = Make.gleaners(Make.with(3, 0, 41, 1, 60), 0, 1, 1);
        long before = x.digest();
        due("none", x.summers(7, 0), 0);
        int[] sums = new int[61];
        for (int n = 0; n <= 60; n++) sums[n] = x.summers(999999, n);
        due("nothing is changed", x.digest(), before);
        long seed = 999999;
        int sum = 0;
        for (int n = 1; n <= 60; n++) {
            seed = (seed * 1103515245L + 12345L) % 2147483648L;
            if (x.count(2) == 12) x.night();
            x.cloud((int) (seed / 65536 % 10));
            sum += x.glean(1);
            due("behind " + n, sums[n], sum);
        }
        for (int bad : new int[] {-1, 1000000, LOWEST, HIGHEST}) due("seed " + bad, x.summers(bad, 0), BAD);
        for (int bad : new int[] {-1, 61, LOWEST, HIGHEST}) due("n " + bad, x.summers(0, bad), BAD);
        GleanDusk one = Make.gleaners(Make.with(0, 0, 60), 0);
        due("seed 1: cloud 8", one.summers(1, 1), 52);
    }

    private static void part() {
        GleanDusk x = Make.with(0, 0, 41);
        for (int bad : new int[] {-1, 2, LOWEST, HIGHEST}) due("what " + bad, x.part(bad), BAD);
        due("counted", x.status(0), 4);
        due("above", x.part(0), 0);
        due("below", x.part(1), 1);
        x.rains(0, 1);
        due("above", x.part(0), 81);
        due("below", x.part(1), 2);
    }

    private static void image() {
        GleanDusk x = Make.gleaners(Make.with(5, 0, 41), 0);
        for (int bad : new int[] {-1, 2, LOWEST, HIGHEST}) due("image " + bad, x.image(bad), BAD);
        x.missed(0, 1, 2, 3);
        x.note(0, 1, 2, 3, 4);
        x.glean(2);
        long first = x.digest();
        due("kept", x.image(0), 1);
        due("nothing is changed", x.digest(), first);
        x.forget(0);
        x.missed(0, 5, 6, 7);
        x.forget(1);
        x.note(0, 5, 6, 7, 8);
        x.undo();
        x.cloud(1);
        long second = x.digest();
        due("kept", x.image(1), 1);
        x.parish(0);
        x.from(0);
        due("the first", x.digest(), first);
        due("what may be undone", x.undo(), 0);
        due("light ahead", x.of(0, 1), 41);
        x.from(1);
        due("the second", x.digest(), second);
        due("cloud told", x.undo(), 0);
        due("cloud ahead", x.count(3), 5);
        x.from(0);
        due("an image isn't used up", x.digest(), first);
        x.parish(7);
        x.image(0);
        x.parish(0);
        x.from(0);
        due("kept anew", x.count(3), 7);
    }

    private static void from() {
        GleanDusk x = Make.with(5, 0, 41);
        for (int bad : new int[] {-1, 2, LOWEST, HIGHEST}) due("image " + bad, x.from(bad), BAD);
        due("none was kept", x.from(0), NO);
        x.image(0);
        due("another was kept", x.from(1), NO);
        x.rains(0, 3);
        Make.typeAll(x, "abc");
        long above = x.part(0);
        due("from", x.from(0), 1);
        due("the fraction stays", x.part(0), above);
        due("the text stays", x.count(8), 3);
        due("status stays", x.status(0), 4);
        due("status stays", x.status(1), 2);
        x.field(1, 1);
        x.from(0);
        due("fields", x.count(0), 1);
    }

    private static void status() {
        GleanDusk x = new GleanDusk();
        due("another what", x.status(3), -1);
        due("another what", x.status(-1), -1);
        due("another what", x.status(LOWEST), -1);
        due("counts as bad", x.status(0), 3);
        x.undo();
        due("no", x.status(1), 1);
        for (int i = 0; i < 8; i++) x.field(0, 0);
        due("full", x.status(2), 2);
        x.which(0);
        x.enough(5);
        x.round(0, 1, 0);
        x.places(5, 5);
        x.two(0, 1, 0);
        due("-10 counts as bad", x.status(0), 6);
        x.gleaner(0);
        x.gleaner(0);
        x.round(0, 1, 1);
        x.two(0, 1, 36);
        x.enough(5);
        due("-5 and none are no refusals", x.status(0), 6);
        due("-5 and none are no refusals", x.status(1), 1);
        x.parish(0);
        x.which(0);
        due("none is no refusal", x.status(0), 6);
        x.read();
        due("a fault is no refusal", x.status(0), 6);
    }

    private static void count() {
        GleanDusk x = Make.gleaners(Make.with(5, 0, 41, 1, 1, 1, 1), 0, 0);
        x.glean(4);
        x.night();
        x.glean(3);
        x.missed(0, 0, 0, 0);
        for (int i = 0; i < 2; i++) x.note(0, 0, 0, 0, 0);
        Make.typeAll(x, "abcd");
        int[] counts = {3, 2, 3, 5, 1, 1, 2, 3, 4};
        for (int what = 0; what < 9; what++) due("count " + what, x.count(what), counts[what]);
        for (int bad : new int[] {-1, 9, LOWEST, HIGHEST}) due("what " + bad, x.count(bad), BAD);
        due("counted", x.status(0), 4);
    }

    private static void digest() {
        GleanDusk x = new GleanDusk();
        due("at first", x.digest(), fold(0, 0, 0, 0, 0, 0, 0, 0, 0, 0, 1));
        x = Make.gleaners(Make.with(5, 0, 41, 1, 30), 1);
        x.glean(1);
        x.missed(0, 1, 2, 3);
        x.note(1, 4, 5, 6, 7);
        x.note(0, 8, 9, 1, 2);
        x.rains(0, 3);
        Make.typeAll(x, "ab");
        due("all of it", x.digest(), fold(2, 1, 1, 5, 0, 1, 2, 1, 2, 0, 41, 1, 5, 1, 25,
            0, 1, 2, 3, 1, 4, 5, 6, 7, 0, 8, 9, 1, 2, x.part(0), x.part(1)));
        due("above", x.part(0), 164);
        due("below", x.part(1), 5);
    }

    private static long fold(long... values) {
        long h = 1451;
        for (long v : values) h = 31 * h + v;
        return h;
    }
}
