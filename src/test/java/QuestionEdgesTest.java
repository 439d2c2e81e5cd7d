/** The boundaries of what is asked (section 2 of the document), of what is undone, and of images. */
public final class QuestionEdgesTest {
    private static final int NONE = GleanDusk.NONE, BAD = GleanDusk.BAD, NO = GleanDusk.NO, FULL = GleanDusk.FULL;
    private static final int PLAIN = 0, WEST = 1, WOOD = 2, HILL = 4;
    private static final Words WORDS = new Words("QuestionEdgesTest");

    public static void main(String[] args) {
        whoIsThere();
        seen();
        gets();
        then();
        roundSteps();
        roundFields();
        roundBeyond();
        roundRows();
        placesOfMost();
        placesOfPoorest();
        placesAtTwelve();
        which();
        lasts();
        enough();
        missed();
        clouds();
        notes();
        is();
        look();
        twoUnlike();
        twoRest();
        rains();
        fraction();
        summers();
        undoes();
        undoEight();
        undoNone();
        images();
        imagesAreApart();
        digests();
        WORDS.end();
    }

    private static void due(String what, long got, long want) {
        WORDS.due(what, got, want);
    }

    private static void row(String what, int[] got, int... want) {
        for (int i = 0; i < want.length; i++) due(what + ", " + i, got[i], want[i]);
    }

    private static int[] roundOf(GleanDusk x, int g, int n) {
        int[] row = new int[n];
        for (int i = 0; i < n; i++) row[i] = x.round(g, n, i);
        return row;
    }

    private static int[] placesBy(GleanDusk x, int what) {
        int[] row = new int[x.count(1)];
        for (int g = 0; g < row.length; g++) row[g] = x.places(what, g);
        return row;
    }

    private static void whoIsThere() {
        WORDS.by("Of a FIELD: KIND (0), LIGHT (1), who is there (2; bits).");
        GleanDusk x = Make.with(0, PLAIN, 60, PLAIN, 60);
        due("nobody", x.of(0, 2), 0);
        for (int g = 0; g < 5; g++) {
            x.gleaner(0);
            due("up to " + g, x.of(0, 2), (2 << g) - 1);
        }
        x.goes(4, 1);
        x.goes(0, 1);
        due("the last and the first went", x.of(0, 2), 14);
        due("they are there", x.of(1, 2), 17);
        due("what 3", x.of(0, 3), BAD);
    }

    private static void seen() {
        WORDS.by("SEEN on a FIELD at a STEP t, with its LIGHT, CLOUD as they are.");
        GleanDusk x = Make.gleaners(Make.with(0, PLAIN, 60), 0);
        due("at 0", x.seen(0, 0), 60);
        x.cloud(9);
        due("another cloud", x.seen(0, 0), 51);
        x.glean(1);
        due("another light", x.seen(0, 0), 0);
        x.glean(11);
        x.night();
        x.glean(12);
        x.cloud(2);
        due("an earlier step at 12", x.seen(0, 0), 7);
    }

    private static void gets() {
        WORDS.by("GETS: what a GLEANER gets at this STEP (12: 0).");
        GleanDusk x = Make.gleaners(Make.with(0, PLAIN, 60, WEST, 60), 0, 0);
        due("at 0", x.about(0, 2), 30);
        x.goes(0, 1);
        x.goes(1, 1);
        x.glean(11);
        due("what lies there at 11", x.of(0, 1), 60);
        x.goes(0, 0);
        due("at 11", x.about(0, 2), 38);
        x.goes(0, 1);
        x.glean(1);
        x.goes(0, 0);
        due("light there is at 12", x.of(0, 1), 60);
        due("at 12", x.about(0, 2), 0);
    }

    private static void then() {
        WORDS.by("THEN: STORE of a GLEANER behind n (0 .. 12) STEPS (no more than there are),"
            + " all staying where they are.");
        GleanDusk x = Make.gleaners(Make.with(0, WOOD, 60, WOOD, 60), 0);
        due("behind none", x.then(0, 0), 0);
        due("behind one", x.then(0, 1), 30);
        due("behind two", x.then(0, 2), 30 + 14);
        due("n 13", x.then(0, 13), BAD);
        due("n -1", x.then(0, -1), BAD);
        x.goes(0, 1);
        x.glean(10);
        x.goes(0, 0);
        int store = x.about(0, 1);
        due("behind none of two", x.then(0, 0), store);
        due("behind one of two", x.then(0, 1), store + 20);
        due("behind two of two", x.then(0, 2), store + 20 + 9);
        due("behind three of two", x.then(0, 3), store + 20 + 9);
        due("behind twelve of two", x.then(0, 12), store + 20 + 9);
        GleanDusk y = Make.gleaners(Make.with(0, WEST, 60), 0);
        y.glean(11);
        y.night();
        y.glean(11);
        due("at 11, none", y.then(0, 0), y.about(0, 1));
        int one = y.about(0, 1) + y.about(0, 2);
        for (int n = 1; n <= 12; n++) due("at 11, " + n, y.then(0, n), one);
        y.glean(1);
        for (int n = 0; n <= 12; n++) due("at 12, " + n, y.then(0, n), one);
    }

    private static void roundSteps() {
        WORDS.by("ROUND of a GLEANER from its FIELD, all others gone: n (1 .. 6) STEPS");
        GleanDusk x = Make.gleaners(Make.with(0, PLAIN, 10, PLAIN, 60), 0, 0, 0, 1, 1);
        due("n 0", x.round(0, 0, NONE), -10);
        due("n 1: 10, alone", x.round(0, 1, NONE), 10);
        due("n 2: goes, 58, alone", x.round(0, 2, NONE), 58);
        due("n 3: 10, goes, 56", x.round(0, 3, NONE), 66);
        due("n 6", x.round(0, 6, NONE), 66);
        due("n 7", x.round(0, 7, NONE), -10);
        row("n 2", roundOf(x, 0, 2), 1, 1);
        row("n 3", roundOf(x, 0, 3), 0, 1, 1);
        WORDS.by("ROUND: how much (i = NONE), the FIELD behind the i-th STEP (0 on). -5: not so many. BAD: -10.");
        due("i -2", x.round(0, 3, -2), -10);
        due("i 2 of 3", x.round(0, 3, 2), 1);
        due("i 3 of 3", x.round(0, 3, 3), -5);
        due("i 6 of 6", x.round(0, 6, 6), -5);
        due("i 1 of 1", x.round(0, 1, 1), -5);
        due("a bad n, and an i too many", x.round(0, 7, 7), -10);
        due("a bad gleaner, and an i too many", x.round(5, 6, 7), -10);
    }

    private static void roundFields() {
        WORDS.by("or goes to a FIELD beside (one number more or less) without gleaning: the most it gets;");
        GleanDusk one = Make.gleaners(Make.with(0, PLAIN, 10), 0);
        due("one field", one.round(0, 6, NONE), 10);
        row("one field", roundOf(one, 0, 6), 0, 0, 0, 0, 0, 0);
        GleanDusk six = Make.gleaners(Make.with(0, PLAIN, 0, PLAIN, 0, PLAIN, 0, PLAIN, 0, PLAIN, 0, PLAIN, 60), 0, 5);
        due("four steps are too few", six.round(0, 5, NONE), 0);
        due("five off, then one", six.round(0, 6, NONE), 50);
        row("five off, then one", roundOf(six, 0, 6), 1, 2, 3, 4, 5, 5);
        due("at the last field", six.round(1, 1, NONE), 60);
        row("at the last field", roundOf(six, 1, 1), 5);
        GleanDusk beside = Make.gleaners(Make.with(0, PLAIN, 0, PLAIN, 0, PLAIN, 60), 0);
        due("no further than beside", beside.round(0, 2, NONE), 0);
        due("nothing on the way", beside.round(0, 3, NONE), 56);
    }

    private static void roundBeyond() {
        WORDS.by("(also beyond 11: these bring nothing)");
        GleanDusk x = Make.gleaners(Make.with(0, WEST, 60, WEST, 60, WEST, 60), 2);
        x.glean(10);
        x.goes(0, 1);
        due("at 10 and 11", x.round(0, 6, NONE), 50 + 11);
        row("at 10 and 11, then left", roundOf(x, 0, 6), 1, 1, 0, 0, 0, 0);
        x.goes(0, 2);
        x.glean(1);
        x.goes(0, 1);
        due("at 11", x.round(0, 1, NONE), 49);
        due("at 11, six", x.round(0, 6, NONE), 49);
        row("at 11, six", roundOf(x, 0, 6), 1, 0, 0, 0, 0, 0);
        x.goes(0, 2);
        x.glean(1);
        due("at 12", x.round(0, 6, NONE), 0);
        row("at 12", roundOf(x, 0, 6), 1, 0, 0, 0, 0, 0);
        due("at 12, one", x.round(0, 1, NONE), 0);
        row("at 12, one", roundOf(x, 0, 1), 1);
        WORDS.by("at each one stays and gleans alone,");
        GleanDusk dim = Make.gleaners(Make.with(1, WEST, 1), 0);
        dim.glean(6);
        due("6 of 1, and no light is left for 7", dim.round(0, 6, NONE), 6);
        due("as it is gleaned", dim.glean(6), 6);
    }

    private static void roundRows() {
        WORDS.by("the FIELD where it is behind the i-th STEP in the first such row (rising).");
        GleanDusk x = Make.gleaners(Make.with(0, PLAIN, 10, PLAIN, 0, PLAIN, 10), 1);
        due("left or right", x.round(0, 2, NONE), 8);
        row("left, the first", roundOf(x, 0, 2), 0, 0);
        GleanDusk y = Make.gleaners(Make.with(0, PLAIN, 0, PLAIN, 20), 1);
        due("20, then what may be", y.round(0, 3, NONE), 20);
        row("20, then left", roundOf(y, 0, 3), 1, 0, 0);
        GleanDusk dark = Make.gleaners(Make.with(9, PLAIN, 0, PLAIN, 0, PLAIN, 0), 2);
        row("nothing anywhere", roundOf(dark, 0, 4), 1, 0, 0, 0);
    }

    private static void placesOfMost() {
        WORDS.by("so that all together get most (what 0),");
        GleanDusk x = Make.gleaners(Make.with(0, PLAIN, 10, PLAIN, 0), 1, 1);
        due("10 by two", x.places(0, NONE), 10);
        row("both on 0, the first way", placesBy(x, 0), 0, 0);
        x = Make.gleaners(Make.with(0, PLAIN, 11, PLAIN, 0), 1, 1);
        due("11 by one", x.places(0, NONE), 11);
        row("one on 1", placesBy(x, 0), 0, 1);
        x = Make.gleaners(Make.with(0, PLAIN, 0, PLAIN, 11), 1, 1);
        row("one on 0", placesBy(x, 0), 0, 1);
        x = Make.gleaners(Make.with(0, PLAIN, 9, PLAIN, 9, PLAIN, 9, PLAIN, 9, PLAIN, 9, PLAIN, 10), 0, 0, 0, 0, 0);
        due("four 9, one 10", x.places(0, NONE), 46);
        row("on the last, too", placesBy(x, 0), 0, 1, 2, 3, 5);
        x = Make.gleaners(Make.with(0, PLAIN, 59), 0, 0, 0, 0, 0);
        due("59 by five", x.places(0, NONE), 55);
        due("the poorest of five", x.places(1, NONE), 11);
        row("one field", placesBy(x, 0), 0, 0, 0, 0, 0);
    }

    private static void placesOfPoorest() {
        WORDS.by("or the one that gets least gets most (what 1): how much;"
            + " the FIELD of one in the first such way (rising).");
        GleanDusk x = Make.gleaners(Make.with(0, PLAIN, 11, PLAIN, 0), 1, 1);
        due("11 by two", x.places(1, NONE), 5);
        row("both on 0", placesBy(x, 1), 0, 0);
        x = Make.gleaners(Make.with(0, PLAIN, 11, PLAIN, 6, PLAIN, 5), 2, 2);
        due("6", x.places(1, NONE), 6);
        row("0 and 1", placesBy(x, 1), 0, 1);
        x = Make.gleaners(Make.with(0, PLAIN, 5, PLAIN, 60, PLAIN, 5), 2, 2, 2, 2, 2);
        due("60 by five", x.places(1, NONE), 12);
        row("all on 1", placesBy(x, 1), 1, 1, 1, 1, 1);
        x = Make.gleaners(Make.with(0, PLAIN, 4, PLAIN, 3), 0, 0, 0, 0, 0);
        due("one each", x.places(1, NONE), 1);
        row("two on 0, three on 1", placesBy(x, 1), 0, 0, 0, 0, 1);
        WORDS.by("PLACES by what: how much (g = NONE; 0: no GLEANERS), the FIELD of one. BAD: -10.");
        GleanDusk nobody = Make.with(0, PLAIN, 60);
        due("nobody, most", nobody.places(0, NONE), 0);
        due("nobody, poorest", nobody.places(1, NONE), 0);
        due("no fields, most", new GleanDusk().places(0, NONE), 0);
        due("no fields, poorest", new GleanDusk().places(1, NONE), 0);
        due("no gleaner 0", nobody.places(0, 0), -10);
        due("what 2", nobody.places(2, NONE), -10);
        due("what -1", nobody.places(-1, NONE), -10);
        due("g -2", nobody.places(0, -2), -10);
        due("no gleaner 5", x.places(0, 5), -10);
        due("gleaner 4", x.places(1, 4), 1);
    }

    private static void placesAtTwelve() {
        WORDS.by("PLACES for all GLEANERS at this STEP, on any FIELDS:");
        GleanDusk x = Make.with(0, PLAIN, 60, WEST, 10);
        x.glean(11);
        Make.gleaners(x, 0, 0);
        due("at 11", x.places(0, NONE), 38 + 11);
        due("at 11, the poorest", x.places(1, NONE), 19);
        row("at 11, the poorest", placesBy(x, 1), 0, 0);
        x.glean(1);
        due("at 12", x.places(0, NONE), 0);
        due("at 12, the poorest", x.places(1, NONE), 0);
        row("at 12", placesBy(x, 0), 0, 0);
        row("at 12, the poorest", placesBy(x, 1), 0, 0);
    }

    private static void which() {
        WORDS.by("WHICH: the FIELD where most can be SEEN at STEP t; of like ones the least; none: no FIELDS.");
        GleanDusk x = new GleanDusk();
        due("no fields", x.which(0), NONE);
        due("no fields at 11", x.which(11), NONE);
        due("a bad step, no fields", x.which(12), BAD);
        x.field(PLAIN, 0);
        due("nothing to see", x.which(11), 0);
        x.field(PLAIN, 0);
        due("of two dark ones", x.which(0), 0);
        x.field(PLAIN, 30);
        x.field(WEST, 30);
        x.field(HILL, 30);
        x.field(WOOD, 60);
        due("at 0, four alike", x.which(0), 2);
        due("at 5", x.which(5), 5);
        due("at 6, west", x.which(6), 3);
        due("at 11, west", x.which(11), 3);
        due("step 12", x.which(12), BAD);
        due("step -1", x.which(-1), BAD);
    }

    private static void lasts() {
        WORDS.by("LASTS: in how many NIGHTS a GLEANER's STORE is below x (1 .. 999) first, nothing gleaned.");
        GleanDusk x = Make.gleaners(Make.with(0, PLAIN, 4, PLAIN, 0), 0, 1);
        x.glean(1);
        due("x 0", x.lasts(0, 0), BAD);
        due("4 3 2 1 0", x.lasts(0, 1), 4);
        due("4 3 2 1", x.lasts(0, 2), 3);
        due("4 3 2", x.lasts(0, 3), 2);
        due("4 3", x.lasts(0, 4), 1);
        due("below already", x.lasts(0, 5), 0);
        due("x 999", x.lasts(0, 999), 0);
        due("x 1000", x.lasts(0, 1000), BAD);
        due("an empty store", x.lasts(1, 1), 0);
    }

    private static void enough() {
        WORDS.by("ENOUGH: the fewest GLEANERS (bits) whose STORES together are x (0 .. 999) or more;"
            + " of like ones the least; none.");
        GleanDusk x = Make.gleaners(Make.with(0, PLAIN, 5, PLAIN, 5, PLAIN, 1, PLAIN, 6, PLAIN, 5), 0, 1, 2, 3, 4);
        due("nobody, at 0", x.enough(0), 0);
        due("empty stores", x.enough(1), NONE);
        x.glean(1);
        due("nobody, at 0", x.enough(0), 0);
        due("1: one, the least", x.enough(1), 1);
        due("5 or more", x.enough(5), 1);
        due("6", x.enough(6), 8);
        due("7: two", x.enough(7), 3);
        due("10", x.enough(10), 3);
        due("11", x.enough(11), 9);
        due("12: three", x.enough(12), 11);
        due("21: four", x.enough(21), 27);
        due("22: all", x.enough(22), 31);
        due("23", x.enough(23), NONE);
        due("999", x.enough(999), NONE);
        due("1000", x.enough(1000), BAD);
        due("-1", x.enough(-1), BAD);
    }

    private static void missed() {
        WORDS.by("MISSED 0 .. 3, as they come: at STEP t, LIGHT being l, x (0 .. 60) could be SEEN on a FIELD");
        GleanDusk x = Make.with(0, PLAIN, 10);
        due("the first", x.missed(0, 0, 0, 0), 1);
        due("the highest", x.missed(0, 11, 60, 60), 2);
        due("step 12", x.missed(0, 12, 60, 60), BAD);
        due("light 61", x.missed(0, 11, 61, 60), BAD);
        due("seen 61", x.missed(0, 11, 60, 61), BAD);
        due("field 1", x.missed(1, 11, 60, 60), BAD);
        due("third", x.missed(0, 0, 0, 0), 3);
        due("fourth", x.missed(0, 0, 0, 0), 4);
        due("fifth", x.missed(0, 0, 0, 0), FULL);
        due("four yet", x.count(5), 4);
        due("none more", x.forget(0), 4);
        due("the first again", x.missed(0, 0, 0, 0), 1);
    }

    private static void clouds() {
        WORDS.by("CLOUDS: which CLOUD (bits 0 .. 9) there may have been at all of these.");
        due("no fields", new GleanDusk().clouds(), 1023);
        GleanDusk x = Make.with(9, PLAIN, 10, HILL, 10);
        due("none missed", x.clouds(), 1023);
        x.missed(0, 0, 20, 20);
        due("cloud 0", x.clouds(), 1);
        x.forget(0);
        x.missed(0, 0, 20, 11);
        due("cloud 9", x.clouds(), 512);
        x.missed(0, 0, 20, 12);
        due("9 and 8: none", x.clouds(), 0);
        x.forget(0);
        x.missed(0, 0, 5, 0);
        due("5 on", x.clouds(), 1023 - 31);
        x.missed(1, 0, 60, 57);
        due("6 on a hill", x.clouds(), 64);
        x.forget(0);
        x.missed(0, 11, 60, 29);
        due("9 at step 11", x.clouds(), 512);
        x.missed(0, 3, 16, 1);
        x.missed(0, 4, 18, 1);
        due("9 at steps 3, 4, 11", x.clouds(), 512);
        x.missed(0, 5, 20, 2);
        due("the fourth counts, too", x.clouds(), 0);
        WORDS.by("(its KIND as it is).");
        GleanDusk y = Make.with(0, PLAIN, 10, WOOD, 10);
        y.missed(1, 0, 20, 10);
        due("a wood, 0", y.clouds(), 1);
    }

    private static void notes() {
        WORDS.by("NOTES 0 .. 5, as they come: on a FIELD x (0 .. 99) could be SEEN at STEP t with LIGHT l (0 .. 60),"
            + " CLOUD c (0 .. 9).");
        GleanDusk x = Make.with(0, PLAIN, 10);
        due("the first", x.note(0, 0, 0, 0, 0), 1);
        due("the highest", x.note(0, 11, 60, 9, 99), 2);
        due("field 1", x.note(1, 11, 60, 9, 99), BAD);
        due("step 12", x.note(0, 12, 60, 9, 99), BAD);
        due("light 61", x.note(0, 11, 61, 9, 99), BAD);
        due("cloud 10", x.note(0, 11, 60, 10, 99), BAD);
        due("seen 100", x.note(0, 11, 60, 9, 100), BAD);
        for (int i = 3; i <= 6; i++) due("note " + i, x.note(0, 0, 0, 0, 0), i);
        due("a 7th", x.note(0, 0, 0, 0, 0), FULL);
        due("six yet", x.count(6), 6);
        due("none more", x.forget(1), 6);
        due("the first again", x.note(0, 0, 0, 0, 0), 1);
    }

    private static void is() {
        WORDS.by("IS: KINDS (bits) by which all NOTES of it are so.");
        GleanDusk x = Make.with(0, PLAIN, 10, PLAIN, 10);
        due("no notes: all", x.is(0), 63);
        x.note(0, 11, 60, 0, 49);
        due("west or hill", x.is(0), 2 + 16);
        due("no notes of the other", x.is(1), 63);
        x.note(0, 0, 60, 3, 57);
        due("west", x.is(0), 2);
        x.note(0, 0, 60, 3, 60);
        due("none", x.is(0), 0);
        x.note(1, 8, 60, 0, 0);
        due("a lane", x.is(1), 32);
    }

    private static void look() {
        WORDS.by("alike can be SEEN are fewest; of like ones the least; none: no KIND.");
        GleanDusk x = Make.with(0, PLAIN, 60, PLAIN, 0, PLAIN, 1);
        due("no light: all alike always", x.look(1), 0);
        due("all kinds: 43 51 21 44 52 0", x.look(0), 801);
        x.note(0, 0, 60, 0, 60);
        due("all but wood and lane: 47 53 48 54", x.look(0), 601);
        x.note(0, 5, 60, 0, 50);
        x.note(0, 5, 60, 3, 47);
        due("plain or west: from step 6 on", x.look(0), 600);
        x.forget(1);
        x.note(2, 0, 1, 0, 0);
        due("wood or lane with light 1: alike always", x.look(2), 0);
        x.forget(1);
        x.note(0, 8, 60, 0, 0);
        due("a lane alone", x.look(0), 0);
        x.note(0, 8, 60, 0, 1);
        due("no kind", x.look(0), NONE);
        x.forget(1);
        x.note(0, 11, 60, 0, 49);
        due("west or hill: by cloud 1", x.look(0), 1);
        x.forget(1);
        x.note(0, 0, 60, 0, 30);
        due("wood or lane: from step 8 on", x.look(0), 800);
        x.forget(1);
        x.note(2, 11, 1, 9, 11);
        due("west or hill with light 1: by cloud 1", x.look(2), 1);
    }

    private static void twoUnlike() {
        WORDS.by("TWO: how many (k = NONE), the k-th. -5: not so many. BAD: -10: alike, too.");
        GleanDusk x = Make.gleaners(Make.with(0, PLAIN, 20), 0, 0);
        due("one field", x.two(0, 1, NONE), 1);
        due("0 and 0", x.two(0, 1, 0), 0);
        due("k 1", x.two(0, 1, 1), -5);
        due("k -2", x.two(0, 1, -2), -10);
        due("alike", x.two(0, 0, NONE), -10);
        due("alike", x.two(1, 1, NONE), -10);
        due("no gleaner 2", x.two(0, 2, NONE), -10);
        due("no gleaner -1", x.two(-1, 0, NONE), -10);
        due("alike and not there", x.two(5, 5, NONE), -10);
        due("a bad one, and a k too many", x.two(0, 2, 99), -10);
        GleanDusk six = Make.gleaners(Make.with(0, PLAIN, 0, PLAIN, 0, PLAIN, 0, PLAIN, 0, PLAIN, 0, PLAIN, 60), 0, 5);
        due("all choose the last", six.two(0, 1, NONE), 1);
        due("5 and 5", six.two(0, 1, 0), 35);
    }

    private static void twoRest() {
        WORDS.by("pairs 6 i and j that rest (neither would get more by another FIELD): how many; the k-th (rising).");
        GleanDusk x = Make.gleaners(Make.with(0, PLAIN, 10, PLAIN, 11), 0, 0, 1);
        due("as much elsewhere rests", x.two(0, 1, NONE), 2);
        due("0 and 1", x.two(0, 1, 0), 1);
        due("1 and 0", x.two(0, 1, 1), 6);
        due("k 2", x.two(0, 1, 2), -5);
        WORDS.by("all others gone: to each what it gets there, less 1 for each FIELD it is off:");
        GleanDusk off = Make.gleaners(Make.with(0, PLAIN, 3, PLAIN, 0, PLAIN, 5), 0, 2, 2);
        due("5 two off is 3", off.two(0, 1, NONE), 1);
        due("0 and 2", off.two(0, 1, 0), 2);
        due("the other one is gone", off.two(1, 2, NONE), 1);
        due("2 and 2", off.two(1, 2, 0), 14);
        off.glean(12);
        due("at 12 nobody goes", off.two(0, 1, NONE), 1);
        due("0 and 2", off.two(0, 1, 0), 2);
        due("2 and 2", off.two(1, 2, 0), 14);
    }

    private static void rains() {
        WORDS.by("RAINS: CLOUD is 5 more (9 at most) by c of 10 (0 .. 10): what can be SEEN on a FIELD at this STEP"
            + " (0 at 12), in the mean: THE FRACTION.");
        int[] clouds = {0, 3, 4, 5, 8, 9};
        int[] wet = {55, 52, 51, 51, 51, 51};
        for (int i = 0; i < clouds.length; i++) {
            GleanDusk x = Make.with(clouds[i], PLAIN, 60);
            due("c 10", x.rains(0, 10), 1);
            due("rain at cloud " + clouds[i], x.part(0), wet[i]);
            due("by 1", x.part(1), 1);
            due("c 0", x.rains(0, 0), 1);
            due("no rain", x.part(0), 60 - clouds[i]);
            due("c 11", x.rains(0, 11), BAD);
            due("c -1", x.rains(0, -1), BAD);
            due("the fraction stays", x.part(0), 60 - clouds[i]);
        }
        GleanDusk x = Make.with(0, PLAIN, 60);
        x.glean(11);
        x.rains(0, 10);
        due("at 11", x.part(0), 33);
        x.glean(1);
        due("at 12", x.rains(0, 10), 1);
        due("above", x.part(0), 0);
        due("below", x.part(1), 1);
    }

    private static void fraction() {
        WORDS.by("THE FRACTION is 0 by 1 at first; lowest terms, below above 0.");
        GleanDusk x = Make.with(0, PLAIN, 60, PLAIN, 0, PLAIN, 1);
        due("above at first", x.part(0), 0);
        due("below at first", x.part(1), 1);
        int[] aboves = {60, 119, 59, 117, 58, 115, 57, 113, 56, 111, 55};
        for (int c = 0; c <= 10; c++) {
            x.rains(0, c);
            due("above, " + c + " of 10", x.part(0), aboves[c]);
            due("below", x.part(1), c % 2 == 0 ? 1 : 2);
        }
        x.rains(2, 1);
        due("9 tenths, above", x.part(0), 9);
        due("9 tenths, below", x.part(1), 10);
        x.rains(2, 2);
        due("4 fifths, above", x.part(0), 4);
        due("4 fifths, below", x.part(1), 5);
        x.rains(1, 5);
        due("none, above", x.part(0), 0);
        due("none, below", x.part(1), 1);
    }

    private static void summers() {
        WORDS.by("SUMMERS by a SEED (0 .. 999999), n (0 .. 60):");
        GleanDusk x = Make.gleaners(Make.with(3, PLAIN, 60, WEST, 31), 0, 1, 1);
        due("seed -1", x.summers(-1, 1), BAD);
        due("seed 1000000", x.summers(1000000, 1), BAD);
        due("n -1", x.summers(0, -1), BAD);
        due("n 61", x.summers(0, 61), BAD);
        due("n 0", x.summers(0, 0), 0);
        due("seed 0: cloud 0", x.summers(0, 1), 60 + 30);
        due("n 0, the last seed", x.summers(999999, 0), 0);
        WORDS.by("(behind STEP 11 a NIGHT goes by first)");
        for (int steps : new int[] {0, 1, 11, 12}) {
            for (int seed : new int[] {0, 1, 999999}) playsSummer(steps, seed, 60);
            playsSummer(steps, 7, 1);
            playsSummer(steps, 7, 0);
        }
    }

    /** A summer behind these steps is as one that is played by the other calls. */
    private static void playsSummer(int steps, int seed, int n) {
        GleanDusk x = Make.gleaners(Make.with(3, PLAIN, 60, WEST, 31), 0, 1, 1);
        if (steps > 0) x.glean(steps);
        int told = x.summers(seed, n);
        long rest = seed;
        int got = 0;
        for (int i = 0; i < n; i++) {
            rest = (rest * 1103515245L + 12345L) & 0x7fffffffL;
            if (x.count(2) == 12) x.night();
            x.cloud((int) ((rest >> 16) % 10));
            got += x.glean(1);
        }
        due("behind " + steps + ", seed " + seed + ", n " + n, told, got);
    }

    private static void undoes() {
        WORDS.by("UNDO: LIGHT, FIELDS of GLEANERS, STORES, STEP, CLOUD, DUSK as ahead of the last GLEANING, NIGHT,"
            + " CLOUD told, one who went elsewhere");
        GleanDusk x = Make.gleaners(Make.with(2, PLAIN, 50, WEST, 30), 0, 1);
        x.glean(7);
        long[] digests = new long[4];
        for (int i = 0; i < 4; i++) {
            digests[i] = x.digest();
            if (i == 0) x.glean(5);
            else if (i == 1) x.night();
            else if (i == 2) x.cloud(9);
            else x.goes(1, 0);
        }
        int[] steps = {7, 12, 0, 0};
        for (int i = 3; i >= 0; i--) {
            due("the step then", x.undo(), steps[i]);
            due("all as ahead", x.digest(), digests[i]);
        }
        due("a cloud told again", x.cloud(2), 2);
        due("may be undone", x.count(7), 2);
        due("one who went nowhere", x.goes(0, 0), 0);
        due("may not", x.count(7), 2);
        WORDS.by("n GLEANINGS (1 .. 12; together one that may be undone): what all get.");
        x.undo();
        x.undo();
        due("none more", x.count(7), 0);
        x.glean(12);
        due("twelve are one", x.count(7), 1);
        due("all are undone", x.undo(), 0);
        due("light as ahead", x.of(0, 1), 50);
        due("store as ahead", x.about(0, 1), 0);
    }

    private static void undoEight() {
        WORDS.by("(8 at most; behind a FIELD, a GLEANER that comes none may be).");
        GleanDusk x = Make.with(0, PLAIN, 60);
        for (int i = 1; i <= 8; i++) {
            x.cloud(i);
            due("may be undone", x.count(7), i);
        }
        x.cloud(9);
        due("eight of nine", x.count(7), 8);
        for (int c = 8; c >= 1; c--) {
            due("undo", x.undo(), 0);
            due("cloud", x.count(3), c);
        }
        due("a ninth", x.undo(), NO);
        due("the cloud stays", x.count(3), 1);
        for (int i = 0; i < 30; i++) x.cloud(i % 10);
        for (int i = 28; i >= 22; i--) {
            x.undo();
            due("cloud of thirty", x.count(3), i % 10);
        }
        x.night();
        x.night();
        due("two more", x.count(7), 3);
        x.field(PLAIN, 1);
        due("behind a field", x.undo(), NO);
        x.night();
        x.gleaner(1);
        due("behind a gleaner", x.undo(), NO);
        due("the dusk stays", x.count(4), 3);
    }

    private static void undoNone() {
        WORDS.by("UNDO: the STEP then. NO: none may be.");
        GleanDusk x = new GleanDusk();
        due("at first", x.undo(), NO);
        x.night();
        due("a night", x.undo(), 0);
        due("no more", x.undo(), NO);
        due("dusk 0", x.count(4), 0);
        x.night();
        x.parish(0);
        due("behind a parish", x.undo(), NO);
        GleanDusk full = Make.gleaners(Make.with(0, 0, 1, 0, 1, 0, 1, 0, 1, 0, 1, 0, 1), 0, 0, 0, 0, 0);
        full.glean(3);
        due("a field that is refused", full.field(0, 1), FULL);
        due("a gleaner that is refused", full.gleaner(0), FULL);
        due("another", full.gleaner(6), BAD);
        due("the gleaning may be undone yet", full.undo(), 0);
    }

    private static void images() {
        WORDS.by("IMAGES 0, 1 keep all but them, THE TEXT, THE FRACTION and STATUS; what may be undone they keep;"
            + " it goes on from one.");
        GleanDusk x = Make.gleaners(Make.with(5, PLAIN, 41), 0);
        due("image -1", x.image(-1), BAD);
        due("image 2", x.image(2), BAD);
        due("none was kept", x.from(0), NO);
        for (int i = 0; i < 9; i++) x.cloud(i);
        Make.typeAll(x, "ab");
        x.rains(0, 1);
        due("image 1", x.image(1), 1);
        due("0 was not kept", x.from(0), NO);
        long kept = x.digest();
        x.parish(0);
        due("image 0, of an empty parish", x.image(0), 1);
        due("from 1", x.from(1), 1);
        due("all of it", x.digest(), kept);
        due("from -1", x.from(-1), BAD);
        due("from 2", x.from(2), BAD);
        for (int c = 7; c >= 0; c--) {
            due("undo", x.undo(), 0);
            due("cloud", x.count(3), c);
        }
        due("eight were kept", x.undo(), NO);
        x.type('c');
        x.rains(0, 0);
        due("from 0", x.from(0), 1);
        due("an empty parish", x.count(0), 0);
        due("the text isn't kept", x.count(8), 3);
        due("the fraction isn't kept", x.part(1), 1);
        due("nor status", x.status(0), 4);
        due("from 1 again", x.from(1), 1);
        due("with all that may be undone", x.count(7), 8);
    }

    /** What comes behind an image doesn't change it, nor the other one. */
    private static void imagesAreApart() {
        WORDS.by("An IMAGE is kept: 1. BAD.");
        GleanDusk x = Make.gleaners(Make.with(5, HILL, 41, WOOD, 9), 1, 0);
        x.missed(0, 1, 2, 3);
        x.note(1, 2, 3, 4, 5);
        x.glean(1);
        x.night();
        x.image(0);
        long first = x.digest();
        x.parish(1);
        Make.gleaners(otherFields(x), 0, 0);
        x.cloud(8);
        x.image(1);
        long second = x.digest();
        x.parish(9);
        due("from 0", x.from(0), 1);
        due("as it was", x.digest(), first);
        due("its kind", x.of(0, 0), HILL);
        due("a night is undone", x.undo(), 1);
        due("a gleaning is undone", x.undo(), 0);
        due("its light", x.of(0, 1), 41);
        x.forget(0);
        x.forget(1);
        due("from 1", x.from(1), 1);
        due("as it was", x.digest(), second);
        due("a cloud is undone", x.undo(), 0);
        due("its cloud", x.count(3), 1);
        due("from 0 again", x.from(0), 1);
        due("as it was", x.digest(), first);
    }

    private static GleanDusk otherFields(GleanDusk x) {
        x.field(PLAIN, 1);
        x.field(WEST, 2);
        x.field(WEST, 3);
        for (int i = 0; i < 4; i++) x.missed(2, 11, 10 + i, 20 + i);
        for (int i = 0; i < 6; i++) x.note(2, 11, 10 + i, 9, 90 + i);
        return x;
    }

    private static void digests() {
        WORDS.by("h = 1451; then h = 31 h + v for each v: count(0) to count(8); of FIELDS KIND, LIGHT;"
            + " of GLEANERS FIELD, STORE; of MISSED ones f, t, l, x; of NOTES f, t, l, c, x; THE FRACTION.");
        due("an empty parish", new GleanDusk().digest(), fold(0, 0, 0, 0, 0, 0, 0, 0, 0, 0, 1));
        GleanDusk x = Make.gleaners(otherFields(Make.with(5)), 2, 0, 2, 2, 2);
        x.field(PLAIN, 60);
        x.field(PLAIN, 60);
        x.field(HILL, 60);
        for (int i = 0; i < 9; i++) x.night();
        x.glean(12);
        x.rains(0, 0);
        Make.typeAll(x, " ".repeat(150));
        due("a full one", x.digest(), fold(6, 5, 12, 5, 9, 4, 6, 8, 150,
            0, 5, 1, 60, 1, 0, 0, 60, 0, 60, 4, 60, 2, 15, 0, 55, 2, 15, 2, 15, 2, 15,
            2, 11, 10, 20, 2, 11, 11, 21, 2, 11, 12, 22, 2, 11, 13, 23,
            2, 11, 10, 9, 90, 2, 11, 11, 9, 91, 2, 11, 12, 9, 92,
            2, 11, 13, 9, 93, 2, 11, 14, 9, 94, 2, 11, 15, 9, 95, 0, 1));
    }

    private static long fold(long... values) {
        long h = 1451;
        for (long v : values) h = 31 * h + v;
        return h;
    }
}
