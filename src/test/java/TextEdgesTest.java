/** The boundaries of a parish told by a text: what its tokens are, and where its fault is. */
public final class TextEdgesTest {
    private static final int BAD = GleanDusk.BAD, NO = GleanDusk.NO, FULL = GleanDusk.FULL;
    private static final String SIX_FIELDS = "field0 1;field0 1;field0 1;field0 1;field0 1;field0 1;";
    private static final String FIVE_GLEANERS = "gleaner0;gleaner0;gleaner0;gleaner0;gleaner0;";
    private static final Words WORDS = new Words("TextEdgesTest");

    public static void main(String[] args) {
        length();
        items();
        parishFirst();
        fields();
        gleaners();
        gleans();
        words();
        figures();
        blanks();
        stops();
        noWords();
        noNumbers();
        otherBytes();
        firstFault();
        tooEarly();
        prefixes();
        readAgain();
        faultsChangeNothing();
        takesThePlaceOfAll();
        WORDS.end();
    }

    private static void due(String what, long got, long want) {
        WORDS.due(what, got, want);
    }

    private static void reads(String text, int items) {
        due("items of '" + text + "'", Make.reading(text), items);
    }

    private static void fault(String text, int place) {
        due("-10 less the fault of '" + text + "'", Make.reading(text), -10 - place);
    }

    private static void length() {
        WORDS.by("THE PARISH is told by a TEXT (150 bytes at most)");
        GleanDusk x = new GleanDusk();
        for (int i = 1; i <= 150; i++) due("byte " + i, x.type(i > 141 ? "parish 4;".charAt(i - 142) : ' '), i);
        due("a 151st", x.type(' '), FULL);
        due("150 yet", x.count(8), 150);
        due("all of it is read", x.read(), 1);
        due("by its last item", x.count(3), 4);
        fault(" ".repeat(149) + "!", 149);
        fault(" ".repeat(141) + "parish 45", 148);
        fault(" ".repeat(142) + "parish 4", 150);
        due("emptied", x.clear(), 150);
        due("the first one again", x.type(0), 1);
    }

    private static void items() {
        WORDS.by("of ITEMS, each ended by ;");
        reads("parish 4;", 1);
        fault("parish 4", 8);
        reads("parish 4;field 0 0;field 0 0;", 3);
        fault("parish 4;field 0 0 field 0 0;", 19);
        fault("parish 4;field 0 0;field 0 0", 28);
        reads("parish0;" + SIX_FIELDS + FIVE_GLEANERS + "glean1;glean1;glean1;glean1;glean1;glean1;", 18);
    }

    private static void parishFirst() {
        WORDS.by("parish CLOUD (once, first of all);");
        reads("parish 0;", 1);
        reads("parish 9;", 1);
        fault("parish 10;", 7);
        fault("parish 99;", 7);
        due("cloud 9 is", Make.read("parish 9;").x.count(3), 9);
        WORDS.by("parish again, anything ahead of it,");
        fault("parish 4;parish 4;", 9);
        fault("parish 4;field 0 0;parish 4;", 19);
        fault("parish 4;parish", 9);
        fault("field 0 0;parish 4;", 0);
        fault("gleaner 0;parish 4;", 0);
        fault("glean 1;parish 4;", 0);
        fault(" glean 1;parish 4;", 1);
        fault(";parish 4;", 0);
        fault("4;parish 4;", 0);
        fault("  field", 2);
    }

    private static void fields() {
        WORDS.by("field KIND LIGHT;");
        reads("parish 4;field 0 0;", 2);
        reads("parish 4;field 5 60;", 2);
        fault("parish 4;field 6 0;", 15);
        fault("parish 4;field 0 61;", 17);
        fault("parish 4;field 0 99;", 17);
        fault("parish 4;field 6 61;", 15);
        GleanDusk x = Make.read("parish 4;field 5 60;field 0 0;").x;
        due("kind 5", x.of(0, 0), 5);
        due("light 60", x.of(0, 1), 60);
        due("kind 0", x.of(1, 0), 0);
        due("light 0", x.of(1, 1), 0);
        WORDS.by("a 7th field,");
        reads("parish 4;" + SIX_FIELDS, 7);
        fault("parish 4;" + SIX_FIELDS + "field0 1;", 63);
        fault("parish 4;" + SIX_FIELDS + " field9 99", 64);
        fault("parish 4;" + SIX_FIELDS + "field", 63);
    }

    private static void gleaners() {
        WORDS.by("gleaner FIELD;");
        GleanDusk x = Make.read("parish 4;field 0 9;field 0 8;gleaner 1;gleaner 0;").x;
        due("field of 0", x.about(0, 0), 1);
        due("field of 1", x.about(1, 0), 0);
        WORDS.by("a 6th gleaner at its word,");
        reads("parish 4;field0 1;" + FIVE_GLEANERS, 7);
        fault("parish 4;field0 1;" + FIVE_GLEANERS + "gleaner0;", 63);
        fault("parish 4;field0 1;" + FIVE_GLEANERS + " gleaner 9;", 64);
        fault("parish 4;field0 1;" + FIVE_GLEANERS + "gleaner", 63);
        WORDS.by("also a FIELD that is not there yet,");
        fault("parish 4;gleaner 0;", 17);
        fault("parish 4;gleaner 0;field 0 0;", 17);
        fault("parish 4;field 0 0;gleaner 1;field 0 0;", 27);
        reads("parish 4;field 0 0;field 0 0;gleaner 1;", 4);
        reads("parish 4;" + SIX_FIELDS + "gleaner 5;", 8);
        fault("parish 4;" + SIX_FIELDS + "gleaner 6;", 71);
    }

    private static void gleans() {
        WORDS.by("glean n (1 .. 12; STEPS that there are yet).");
        fault("parish 4;glean 0;", 15);
        fault("parish 4;glean 00;", 15);
        reads("parish 4;glean 1;", 2);
        reads("parish 4;glean 12;", 2);
        fault("parish 4;glean 13;", 15);
        due("step 1", Make.read("parish 4;glean 1;").x.count(2), 1);
        due("step 12", Make.read("parish 4;glean 12;").x.count(2), 12);
        WORDS.by("more STEPS than are left,");
        reads("parish 4;glean 11;glean 1;", 3);
        fault("parish 4;glean 11;glean 2;", 24);
        reads("parish 4;glean 6;glean 6;", 3);
        fault("parish 4;glean 6;field 0 0;glean 7;", 33);
        fault("parish 4;glean 12;glean 1;", 24);
        fault("parish 4;glean 12;glean 0;", 24);
        reads("parish 4;glean 12;field 0 0;gleaner 0;", 4);
    }

    private static void words() {
        WORDS.by("words of letters a .. z,");
        reads("parish4;field0 0;gleaner0;glean1;", 4);
        fault("parishfield 4;", 0);
        fault("parish 4;gleangleaner 1;", 9);
        fault("Parish 4;", 0);
        fault("parisH 4;", 0);
        fault("parish 4;Field 0 0;", 9);
        fault("par ish 4;", 0);
        fault("parish 4;z", 9);
        fault("parish 4;a", 9);
        fault("parish 4;fieldz 0 0;", 9);
        fault("parish 4;fielda 0 0;", 9);
        fault("parish 4;field` 0 0;", 14);
        fault("parish 4;field{ 0 0;", 14);
        fault("parish 4;fieldZ 0 0;", 14);
        fault("parish 4;`", 9);
        fault("parish 4;{", 9);
    }

    private static void figures() {
        WORDS.by("figures (1 or 2 are one number),");
        reads("parish 04;", 1);
        reads("parish 4;field 05 09;gleaner 00;glean 01;", 4);
        due("09 is 9", Make.read("parish 4;field 05 09;").x.of(0, 1), 9);
        due("60 is 60", Make.read("parish 4;field 05 60;").x.of(0, 1), 60);
        due("12 is 12", Make.read("parish 4;glean 12;").x.count(2), 12);
        fault("parish 4;field 05;", 17);
        fault("parish 4;field 15;", 15);
        fault("parish 4;glean 1 2;", 17);
        fault("parish 0 4;", 9);
        WORDS.by("a run of three figures or more (at its first one),");
        fault("parish 004;", 7);
        fault("parish 0000000000000000000004;", 7);
        fault("parish 4;field 000 9;", 15);
        fault("parish 4;field 0 009;", 17);
        fault("parish 4;field 0 4294967297;", 17);
        fault("parish 4;field 0 0;gleaner 000;", 27);
        fault("parish 4;glean 001;", 15);
        fault("parish 4;123;", 9);
        fault("parish 4 123;", 9);
        fault("parish 123", 7);
        fault("123", 0);
    }

    private static void blanks() {
        WORDS.by("blanks (32) between.");
        reads("  parish   4  ;  ", 1);
        reads(" parish 4 ; field 0 0 ; gleaner 0 ; glean 1 ; ", 4);
        for (int other : new int[] {0, 9, 10, 11, 12, 13, 28, 31, 33, 127}) {
            fault("parish" + (char) other + "4;", 6);
            fault("parish 4;" + (char) other, 9);
            fault((char) other + "parish 4;", 0);
        }
    }

    private static void stops() {
        WORDS.by("TOKENS: words of letters a .. z, figures (1 or 2 are one number), ; ; blanks (32) between.");
        fault("parish 4;;", 9);
        fault("parish;", 6);
        fault("parish 4;field;", 14);
        fault("parish 4;field 0;", 16);
        fault("parish 4;gleaner;", 16);
        fault("parish 4;glean ;", 15);
        fault("parish 4:", 8);
        fault("parish 4<", 8);
    }

    private static void noWords() {
        WORDS.by("a word that is none,");
        String[] none = {"p", "paris", "parishs", "fiel", "fields", "gleane", "gleaners", "glea", "x", "night",
            "qarish", "gield", "fleaner", "hlean"};
        for (String word : none) {
            fault(word + " 4;", 0);
            fault("parish 4;" + word + " 1;", 9);
            fault("parish " + word + ";", 7);
            fault("parish 4 " + word + ";", 9);
        }
        fault("parish glean;", 7);
        fault("parish 4 field 0 0;", 9);
        fault("parish 4;field 0 glean 1;", 17);
    }

    private static void noNumbers() {
        WORDS.by("a number not as told,");
        fault("parish 4;4;", 9);
        fault("parish 4 4;", 9);
        fault("parish 4;field 1 1 1;", 19);
        fault("parish 4;field 0 0;gleaner 0 0;", 29);
        fault("parish 4;glean 1 1;", 17);
        fault("parish -1;", 7);
        fault("parish +1;", 7);
        fault("parish 1.5;", 8);
        fault("parish /;", 7);
        fault("parish :;", 7);
    }

    /** Every byte at four places: at first, for a number, for a stop, for a word. */
    private static void otherBytes() {
        WORDS.by("a byte that begins none, too);");
        for (int b = 0; b < 128; b++) {
            char sign = (char) b;
            boolean figure = sign >= '0' && sign <= '9';
            fault("" + sign, sign == ' ' ? 1 : 0);
            if (sign == ' ') reads("parish 4;" + sign, 1);
            else fault("parish 4;" + sign, 9);
            if (figure) reads("parish " + sign + ";", 1);
            else fault("parish " + sign + ";", sign == ' ' ? 8 : 7);
            if (sign == ' ') reads("parish 4" + sign + ";", 1);
            else if (figure) fault("parish 4" + sign + ";", 7);
            else fault("parish 4" + sign + ";", sign == ';' ? 9 : 8);
        }
    }

    private static void firstFault() {
        WORDS.by("FAULT: the place of the first byte of the first TOKEN that can not stand there");
        fault("parish 10;parish 10;", 7);
        fault("parish 4;fields 9 99;!", 9);
        fault("   paris", 3);
        fault("parish    10;", 10);
        fault("parish 4;field 6 !", 15);
        fault("parish 4;field !6", 15);
    }

    private static void tooEarly() {
        WORDS.by("the TEXT's length, if it ends too early (an empty one, too).");
        fault("", 0);
        fault(" ", 1);
        fault("     ", 5);
        fault("parish", 6);
        fault("parish  ", 8);
        fault("parish 4", 8);
        fault("parish 4   ", 11);
        fault("parish 4;field 0", 16);
        fault("parish 4;field 0 ", 17);
        fault("parish 4;field 0 0", 18);
        fault("parish 4;glean 1", 16);
        fault("parish 4;" + SIX_FIELDS + "gleaner", 70);
    }

    /** Each beginning of a text: a word that is cut is none, a number that is cut ends too early. */
    private static void prefixes() {
        String text = "parish 4;field 1 60;gleaner 0;glean 12;";
        int[] answers = {
            -10, -10, -10, -10, -10, -10, -16, -17, -18, 1,
            -19, -19, -19, -19, -24, -25, -26, -27, -28, -29, 2,
            -30, -30, -30, -30, -35, -30, -37, -38, -39, 3,
            -40, -40, -40, -40, -45, -46, -47, -48, 4};
        due("beginnings", answers.length, text.length() + 1);
        for (int i = 0; i < answers.length; i++) due("the first " + i, Make.reading(text.substring(0, i)), answers[i]);
    }

    /** What was typed ahead of a clear, or read once, leaves no trace. */
    private static void readAgain() {
        WORDS.by("THE TEXT is empty: how many it had.");
        String[] texts = {"parishs", "parish", "parish 45", "parish 4", "parish 4;field 0 0;", "parish 4;", "   ", ""};
        int[] answers = {-10, -16, -17, -18, 2, 1, -13, -10};
        int[] fields = {0, 0, 0, 0, 1, 0, 0, 0};
        GleanDusk x = new GleanDusk();
        int had = 0;
        for (int i = 0; i < texts.length; i++) {
            due("cleared", x.clear(), had);
            Make.typeAll(x, texts[i]);
            due("'" + texts[i] + "'", x.read(), answers[i]);
            due("read again", x.read(), answers[i]);
            due("its fields", x.count(0), fields[i]);
            had = texts[i].length();
        }
        WORDS.by("A PARISH that is read takes the place of all but");
        GleanDusk full = new GleanDusk();
        Make.typeAll(full, "parish 4;" + SIX_FIELDS + FIVE_GLEANERS + "glean12;");
        due("six fields, five gleaners", full.read(), 13);
        due("once more", full.read(), 13);
        due("six fields", full.count(0), 6);
        due("five gleaners", full.count(1), 5);
        due("twelve steps", full.count(2), 12);
    }

    private static GleanDusk busy() {
        GleanDusk x = Make.gleaners(Make.with(1, 0, 9, 1, 50), 0, 1);
        x.rains(0, 5);
        x.missed(0, 0, 0, 0);
        x.note(0, 0, 0, 0, 0);
        x.image(0);
        x.glean(2);
        x.night();
        x.glean(3);
        x.undo();
        x.cloud(3);
        x.field(9, 9);
        x.from(1);
        for (int i = 0; i < 5; i++) x.field(0, 0);
        x.night();
        x.glean(7);
        return x;
    }

    private static void faultsChangeNothing() {
        WORDS.by("-10 less the FAULT: all stays.");
        String told = "parish 2;field 1 50;gleaner 0;glean 2;";
        for (String rest : new String[] {"x", "glean 11;", "gleaner 1;", "parish 2;", "field", "field 0 0"}) {
            GleanDusk x = busy();
            Make.typeAll(x, told + rest);
            long before = x.digest();
            due("a fault", x.read() <= -10 - told.length() ? 1 : 0, 1);
            due("the digest stays", x.digest(), before);
            for (int what = 0; what < 3; what++) due("status stays", x.status(what), 1);
            due("it may be undone yet", x.undo(), 0);
            due("and once more", x.undo(), 0);
            due("the text stays", x.clear(), told.length() + rest.length());
        }
    }

    private static void takesThePlaceOfAll() {
        WORDS.by("A PARISH that is read takes the place of all but IMAGES, THE TEXT, THE FRACTION, STATUS"
            + " (NOTES, MISSED ones none; nothing to undo).");
        GleanDusk x = busy();
        Make.typeAll(x, "parish 0;field 2 40;gleaner 0;glean 3;");
        long above = x.part(0), below = x.part(1);
        due("items", x.read(), 4);
        int[] counts = {1, 1, 3, 0, 0, 0, 0, 0, 38};
        for (int what = 0; what < 9; what++) due("count " + what, x.count(what), counts[what]);
        due("one field", x.of(1, 0), BAD);
        due("one gleaner", x.about(1, 0), BAD);
        due("its store", x.about(0, 1), 20 + 9 + 3);
        due("nothing to undo", x.undo(), NO);
        due("all clouds", x.clouds(), 1023);
        due("all kinds", x.is(0), 63);
        due("above stays", x.part(0), above);
        due("below stays", x.part(1), below);
        due("status stays", x.status(0), 3);
        due("status stays", x.status(1), 2);
        due("status stays", x.status(2), 1);
        due("image 1 was none", x.from(1), GleanDusk.NO);
        due("the text is read again", x.read(), 4);
        due("image 0 stays", x.from(0), 1);
        due("its fields", x.count(0), 2);
        due("its notes", x.count(6), 1);
    }
}
