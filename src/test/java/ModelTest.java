import java.util.Arrays;
import java.util.Random;

/** Long runs of calls by a seed, on the program and on the model side by side. */
public final class ModelTest {
    private static final int RUNS = 400, CALLS = 512;
    private static final String[] QUESTIONS = {
        "of", "about", "seen", "then", "round", "places", "which", "lasts", "enough", "clouds", "is", "look", "two",
        "rains", "summers", "part", "status", "count"};
    private static final String[] CHANGES = {
        "field", "gleaner", "glean", "glean", "night", "goes", "goes", "cloud", "undo", "undo", "missed", "note",
        "image", "from", "forget", "parish"};
    private static final Check CHECK = new Check("ModelTest");

    private final Random random;
    private final GleanDusk program = new GleanDusk();
    private final Model model = new Model();
    private final StringBuilder told = new StringBuilder();
    private final int run;
    private int calls;

    private ModelTest(int run) {
        this.run = run;
        random = new Random(run);
    }

    public static void main(String[] args) {
        for (int run = 0; run < RUNS && !CHECK.hasWrong(); run++) new ModelTest(run).go();
        CHECK.end();
    }

    private void go() {
        for (int i = 0; i < 4 + random.nextInt(6); i++) both("field", argsFor("field"));
        for (int i = 0; i < random.nextInt(7); i++) both("gleaner", argsFor("gleaner"));
        while (calls < CALLS && !CHECK.hasWrong()) {
            int chance = random.nextInt(100);
            String[] names = chance < 45 ? CHANGES : QUESTIONS;
            String name = names[random.nextInt(names.length)];
            if (chance == 99) typeAndRead();
            else if (name.equals("parish") && random.nextInt(4) != 0) both("digest");
            else both(name, argsFor(name));
        }
    }

    private void both(String name, int... args) {
        if (calls >= CALLS) return;
        calls++;
        told.append(name).append(Arrays.toString(args)).append(' ');
        CHECK.due("run " + run + ", " + name + Arrays.toString(args), onProgram(name, args), model.call(name, args));
        CHECK.due("run " + run + ", digest behind " + name, program.digest(), model.call("digest"));
        if (CHECK.hasWrong()) System.out.println("behind " + told);
    }

    /** Mostly a number from 0 to most, seldom one beside or far off. */
    private int about(int most) {
        int chance = random.nextInt(60);
        if (chance == 0) return -1;
        if (chance == 1) return most + 1;
        if (chance == 2) return random.nextBoolean() ? Integer.MAX_VALUE : Integer.MIN_VALUE;
        if (chance == 3) return random.nextInt();
        return random.nextInt(most + 1);
    }

    private int orNone(int most) {
        return random.nextInt(3) == 0 ? -1 : about(most);
    }

    private int field() {
        int fields = program.count(0);
        return about(Math.max(0, fields - 1));
    }

    private int gleaner() {
        int gleaners = program.count(1);
        return about(Math.max(0, gleaners - 1));
    }

    private int[] argsFor(String name) {
        switch (name) {
            case "parish": case "cloud": return args(about(9));
            case "field": return args(about(5), about(60));
            case "gleaner": case "is": case "look": return args(field());
            case "glean": return args(random.nextInt(4) == 0 ? about(12) : 1 + random.nextInt(3));
            case "goes": return args(gleaner(), field());
            case "of": return args(field(), about(2));
            case "about": return args(gleaner(), about(2));
            case "seen": return args(field(), about(11));
            case "then": return args(gleaner(), about(12));
            case "round": return args(gleaner(), random.nextInt(20) == 0 ? 6 : about(4), orNone(5));
            case "places": return args(about(1), random.nextBoolean() ? -1 : gleaner());
            case "which": return args(about(11));
            case "lasts": return args(gleaner(), about(random.nextBoolean() ? 20 : 999));
            case "enough": return args(about(random.nextBoolean() ? 99 : 999));
            case "missed": return missed();
            case "note": return note();
            case "forget": case "part": case "image": case "from": return args(about(1));
            case "two": return args(gleaner(), gleaner(), orNone(4));
            case "rains": return args(field(), about(10));
            case "summers": return args(about(999999), about(60));
            case "status": return args(about(2));
            case "count": return args(about(8));
            default: return args();
        }
    }

    private static int[] args(int... numbers) {
        return numbers;
    }

    /** What could be seen with some cloud, so that clouds are left. */
    private int[] missed() {
        int f = field();
        int t = about(11);
        int l = about(60);
        int kind = program.of(f, 0);
        model.call("of", f, 0);
        boolean fair = kind >= 0 && t >= 0 && t < 12 && l >= 0 && l <= 60 && random.nextInt(8) != 0;
        return args(f, t, l, fair ? Model.sight(kind, t, l, 3) : about(60));
    }

    /** What could be seen with some kind, so that kinds are left. */
    private int[] note() {
        int f = field();
        int t = about(11);
        int l = about(60);
        int c = about(9);
        boolean fair = t >= 0 && t < 12 && l >= 0 && l <= 60 && c >= 0 && c < 10 && random.nextInt(8) != 0;
        return args(f, t, l, c, fair ? Model.sight(Math.floorMod(f, 6), t, l, c) : about(99));
    }

    private void typeAndRead() {
        both("clear");
        StringBuilder text = new StringBuilder();
        text.append("parish ").append(random.nextInt(10)).append(';');
        int items = random.nextInt(14);
        for (int i = 0; i < items; i++) text.append(item(i));
        if (random.nextInt(3) == 0) spoil(text);
        for (int i = 0; i < text.length(); i++) both("type", text.charAt(i));
        both("read");
        both("status", 0);
    }

    private String item(int i) {
        String blank = random.nextInt(3) == 0 ? " " : "";
        switch (i < 3 ? 0 : random.nextInt(3)) {
            case 0: return "field" + blank + random.nextInt(6) + " " + random.nextInt(61) + blank + ";" + blank;
            case 1: return "gleaner" + blank + random.nextInt(3) + blank + ";";
            default: return "glean" + blank + (random.nextInt(8) == 0 ? 12 : 1 + random.nextInt(2)) + ";";
        }
    }

    private void spoil(StringBuilder text) {
        String signs = "; 0123459aegz;-A\t";
        int place = random.nextInt(text.length());
        char sign = signs.charAt(random.nextInt(signs.length()));
        switch (random.nextInt(4)) {
            case 0: text.setLength(place); break;
            case 1: text.setCharAt(place, sign); break;
            case 2: text.insert(place, sign); break;
            default: text.deleteCharAt(place);
        }
    }

    private long onProgram(String name, int[] a) {
        GleanDusk x = program;
        switch (name) {
            case "parish": return x.parish(a[0]);
            case "field": return x.field(a[0], a[1]);
            case "gleaner": return x.gleaner(a[0]);
            case "type": return x.type(a[0]);
            case "clear": return x.clear();
            case "read": return x.read();
            case "glean": return x.glean(a[0]);
            case "night": return x.night();
            case "goes": return x.goes(a[0], a[1]);
            case "cloud": return x.cloud(a[0]);
            case "undo": return x.undo();
            case "of": return x.of(a[0], a[1]);
            case "about": return x.about(a[0], a[1]);
            case "seen": return x.seen(a[0], a[1]);
            case "then": return x.then(a[0], a[1]);
            case "round": return x.round(a[0], a[1], a[2]);
            case "places": return x.places(a[0], a[1]);
            case "which": return x.which(a[0]);
            case "lasts": return x.lasts(a[0], a[1]);
            case "enough": return x.enough(a[0]);
            case "missed": return x.missed(a[0], a[1], a[2], a[3]);
            case "clouds": return x.clouds();
            case "note": return x.note(a[0], a[1], a[2], a[3], a[4]);
            case "forget": return x.forget(a[0]);
            case "is": return x.is(a[0]);
            case "look": return x.look(a[0]);
            case "two": return x.two(a[0], a[1], a[2]);
            case "rains": return x.rains(a[0], a[1]);
            case "summers": return x.summers(a[0], a[1]);
            case "part": return x.part(a[0]);
            case "image": return x.image(a[0]);
            case "from": return x.from(a[0]);
            case "status": return x.status(a[0]);
            case "count": return x.count(a[0]);
            default: return x.digest();
        }
    }
}
