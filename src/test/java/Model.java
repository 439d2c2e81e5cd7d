import java.util.ArrayList;
import java.util.List;
import java.util.regex.Matcher;
import java.util.regex.Pattern;

/**
 * The document's words once more, as slowly and plainly as they can be told, to hold the program against.
 * Nothing of it is taken from the program: rows are tried one and all, texts are cut by a pattern.
 */
final class Model {
    static final int NONE = -1, BAD = -2, NO = -3, FULL = -4;

    /** All that an image keeps. */
    private static final class World {
        List<int[]> fields = new ArrayList<>(); // kind, light
        List<int[]> gleaners = new ArrayList<>(); // field, store
        List<int[]> missed = new ArrayList<>();
        List<int[]> notes = new ArrayList<>();
        List<World> earlier = new ArrayList<>();
        int step, cloud, dusk;

        World copy() {
            World w = new World();
            w.fields = rows(fields);
            w.gleaners = rows(gleaners);
            w.missed = rows(missed);
            w.notes = rows(notes);
            w.earlier = new ArrayList<>(earlier); // never changed once kept
            w.step = step;
            w.cloud = cloud;
            w.dusk = dusk;
            return w;
        }

        private static List<int[]> rows(List<int[]> rows) {
            List<int[]> copies = new ArrayList<>();
            for (int[] row : rows) copies.add(row.clone());
            return copies;
        }
    }

    private World w = new World();
    private final World[] images = new World[2];
    private String text = "";
    private long above = 0, below = 1;
    private final int[] refused = new int[3];

    /** What a call by its name answers. */
    long call(String name, int... a) {
        long answer = answerOf(name, a);
        boolean tens = name.equals("round") || name.equals("places") || name.equals("two");
        if (name.equals("status")) {
            if (answer == BAD) {
                refused[0]++;
                return -1;
            }
            return answer;
        }
        if (name.equals("read") || name.equals("digest")) return answer;
        if (answer == BAD) refused[0]++;
        if (answer == NO) refused[1]++;
        if (answer == FULL) refused[2]++;
        return tens && answer == BAD ? -10 : answer;
    }

    private long answerOf(String name, int[] a) {
        switch (name) {
            case "parish": return parish(a[0]);
            case "field": return field(a[0], a[1]);
            case "gleaner": return gleaner(a[0]);
            case "type": return type(a[0]);
            case "clear": return clear();
            case "read": return read();
            case "glean": return glean(a[0]);
            case "night": return night();
            case "goes": return goes(a[0], a[1]);
            case "cloud": return cloud(a[0]);
            case "undo": return undo();
            case "of": return of(a[0], a[1]);
            case "about": return about(a[0], a[1]);
            case "seen": return seen(a[0], a[1]);
            case "then": return then(a[0], a[1]);
            case "round": return round(a[0], a[1], a[2]);
            case "places": return places(a[0], a[1]);
            case "which": return which(a[0]);
            case "lasts": return lasts(a[0], a[1]);
            case "enough": return enough(a[0]);
            case "missed": return missed(a);
            case "clouds": return clouds();
            case "note": return note(a);
            case "forget": return forget(a[0]);
            case "is": return is(a[0]);
            case "look": return look(a[0]);
            case "two": return two(a[0], a[1], a[2]);
            case "rains": return rains(a[0], a[1]);
            case "summers": return summers(a[0], a[1]);
            case "part": return a[0] == 0 ? above : a[0] == 1 ? below : BAD;
            case "image": return image(a[0]);
            case "from": return from(a[0]);
            case "status": return in(a[0], 0, 2) ? refused[a[0]] : BAD;
            case "count": return count(a[0]);
            case "digest": return digest();
            default: throw new IllegalArgumentException(name);
        }
    }

    private static boolean in(int x, int low, int high) {
        return low <= x && x <= high;
    }

    private boolean isField(int f) {
        return in(f, 0, w.fields.size() - 1);
    }

    private boolean isGleaner(int g) {
        return in(g, 0, w.gleaners.size() - 1);
    }

    static int sight(int kind, int t, int l, int c) {
        int plain = l - 2 * t - c < 0 ? 0 : l - 2 * t - c;
        switch (kind) {
            case 0: return plain;
            case 1: return plain + (t > 5 && l > 0 ? t : 0);
            case 2: return plain >> 1;
            case 3: return plain + c > l ? l : plain + c;
            case 4: return sight(1, t, l, c < 3 ? 0 : c - 3);
            default: return t > 7 ? 0 : plain >> 1;
        }
    }

    private static int onField(World v, int f, int step, int cloud) {
        return step > 11 ? 0 : sight(v.fields.get(f)[0], step, v.fields.get(f)[1], cloud);
    }

    private static int gets(World v, int g) {
        int f = v.gleaners.get(g)[0];
        int there = 0;
        for (int[] other : v.gleaners) if (other[0] == f) there++;
        return onField(v, f, v.step, v.cloud) / there;
    }

    private static int gleaning(World v) {
        int sum = 0;
        int[] got = new int[v.gleaners.size()];
        for (int g = 0; g < got.length; g++) got[g] = gets(v, g);
        for (int g = 0; g < got.length; g++) {
            int[] one = v.gleaners.get(g);
            one[1] = Math.min(999, one[1] + got[g]);
            int[] field = v.fields.get(one[0]);
            field[1] = Math.max(0, field[1] - got[g]);
            sum += got[g];
        }
        v.step++;
        return sum;
    }

    private static int quarterLess(int store) {
        return store - (store / 4 + (store % 4 == 0 ? 0 : 1));
    }

    private static void nightIn(World v) {
        for (int[] one : v.gleaners) one[1] = quarterLess(one[1]);
        for (int[] field : v.fields) field[1] = Math.min(60, field[1] + 20);
        if (v.dusk < 999) v.dusk++;
        v.step = 0;
    }

    private void keepForUndo() {
        w.earlier.add(w.copy());
        if (w.earlier.size() > 8) w.earlier.remove(0);
    }

    private long parish(int cloud) {
        if (!in(cloud, 0, 9)) return BAD;
        int were = w.fields.size();
        w = new World();
        w.cloud = cloud;
        return were;
    }

    private long field(int kind, int light) {
        if (!in(kind, 0, 5) || !in(light, 0, 60)) return BAD;
        if (w.fields.size() == 6) return FULL;
        w.fields.add(new int[] {kind, light});
        w.earlier.clear();
        return w.fields.size() - 1;
    }

    private long gleaner(int f) {
        if (!isField(f)) return BAD;
        if (w.gleaners.size() == 5) return FULL;
        w.gleaners.add(new int[] {f, 0});
        w.earlier.clear();
        return w.gleaners.size() - 1;
    }

    private long type(int c) {
        if (!in(c, 0, 127)) return BAD;
        if (text.length() == 150) return FULL;
        text += (char) c;
        return text.length();
    }

    private long clear() {
        int had = text.length();
        text = "";
        return had;
    }

    private static final Pattern TOKEN = Pattern.compile("[a-z]+|[0-9]+|;|[^ ]");

    /** Tells a model of its own by the calls that the items stand for, and takes its world if all went well. */
    private long read() {
        List<String> tokens = new ArrayList<>();
        List<Integer> places = new ArrayList<>();
        Matcher matcher = TOKEN.matcher(text);
        while (matcher.find()) {
            tokens.add(matcher.group());
            places.add(matcher.start());
        }
        tokens.add("");
        places.add(text.length());
        Model told = new Model();
        int i = 0;
        int items = 0;
        while (items == 0 || !tokens.get(i).isEmpty()) {
            String word = tokens.get(i);
            boolean full = word.equals("field") && told.w.fields.size() == 6
                || word.equals("gleaner") && told.w.gleaners.size() == 5;
            if (full || !List.of("parish", "field", "gleaner", "glean").contains(word)) return -10 - places.get(i);
            if (word.equals("parish") != (items == 0)) return -10 - places.get(i);
            i++;
            int one = number(tokens.get(i));
            if (word.equals("field")) {
                if (!in(one, 0, 5)) return -10 - places.get(i);
                i++;
                if (told.field(one, number(tokens.get(i))) < 0) return -10 - places.get(i);
            } else if (told.answerOf(word, new int[] {one}) < 0) return -10 - places.get(i);
            i++;
            if (!tokens.get(i).equals(";")) return -10 - places.get(i);
            i++;
            items++;
        }
        w = told.w;
        w.earlier.clear();
        return items;
    }

    private static int number(String token) {
        return token.matches("[0-9][0-9]?") ? Integer.parseInt(token) : -1;
    }

    private long glean(int n) {
        if (!in(n, 1, 12)) return BAD;
        if (w.step + n > 12) return NO;
        keepForUndo();
        int sum = 0;
        for (int i = 0; i < n; i++) sum += gleaning(w);
        return sum;
    }

    private long night() {
        keepForUndo();
        nightIn(w);
        return w.dusk;
    }

    private long goes(int g, int f) {
        if (!isGleaner(g) || !isField(f)) return BAD;
        int was = w.gleaners.get(g)[0];
        if (was == f) return was;
        keepForUndo();
        w.gleaners.get(g)[0] = f;
        return was;
    }

    private long cloud(int c) {
        if (!in(c, 0, 9)) return BAD;
        keepForUndo();
        int was = w.cloud;
        w.cloud = c;
        return was;
    }

    private long undo() {
        if (w.earlier.isEmpty()) return NO;
        World before = w.earlier.remove(w.earlier.size() - 1).copy();
        before.missed = w.missed;
        before.notes = w.notes;
        before.earlier = w.earlier;
        w = before;
        return w.step;
    }

    private long of(int f, int what) {
        if (!isField(f) || !in(what, 0, 2)) return BAD;
        if (what < 2) return w.fields.get(f)[what];
        int bits = 0;
        for (int g = w.gleaners.size() - 1; g >= 0; g--) bits = 2 * bits + (w.gleaners.get(g)[0] == f ? 1 : 0);
        return bits;
    }

    private long about(int g, int what) {
        if (!isGleaner(g) || !in(what, 0, 2)) return BAD;
        return what < 2 ? w.gleaners.get(g)[what] : gets(w, g);
    }

    private long seen(int f, int t) {
        if (!isField(f) || !in(t, 0, 11)) return BAD;
        return onField(w, f, t, w.cloud);
    }

    private long then(int g, int n) {
        if (!isGleaner(g) || !in(n, 0, 12)) return BAD;
        World v = w.copy();
        for (int i = 0; i < n && v.step < 12; i++) gleaning(v);
        return v.gleaners.get(g)[1];
    }

    /** The next row of numbers below base, rising; false behind the last. */
    private static boolean nextRow(int[] row, int base) {
        for (int i = row.length - 1; i >= 0; i--) {
            if (++row[i] < base) return true;
            row[i] = 0;
        }
        return false;
    }

    private long round(int g, int n, int i) {
        if (!isGleaner(g) || !in(n, 1, 6) || i < -1) return BAD;
        if (i >= n) return -5;
        int[] row = new int[n];
        int[] first = null;
        int most = -1;
        do {
            int worth = roundWorth(w.gleaners.get(g)[0], row);
            if (worth > most) {
                most = worth;
                first = row.clone();
            }
        } while (nextRow(row, w.fields.size()));
        return i == -1 ? most : first[i];
    }

    private int roundWorth(int from, int[] row) {
        int at = from;
        for (int to : row) {
            if (Math.abs(to - at) > 1) return -1;
            at = to;
        }
        World v = w.copy();
        v.gleaners.clear();
        v.gleaners.add(new int[] {from, 0});
        int sum = 0;
        for (int to : row) {
            boolean stays = v.gleaners.get(0)[0] == to;
            if (stays && v.step < 12) sum += gleaning(v);
            else v.step++;
            v.gleaners.get(0)[0] = to;
        }
        return sum;
    }

    private long places(int what, int g) {
        if (!in(what, 0, 1) || g != -1 && !isGleaner(g)) return BAD;
        if (w.gleaners.isEmpty()) return 0;
        int[] row = new int[w.gleaners.size()];
        int[] first = null;
        int most = -1;
        World v = w.copy();
        do {
            for (int one = 0; one < row.length; one++) v.gleaners.get(one)[0] = row[one];
            int sum = 0;
            int least = 1000;
            for (int one = 0; one < row.length; one++) {
                sum += gets(v, one);
                least = Math.min(least, gets(v, one));
            }
            int worth = what == 0 ? sum : least;
            if (worth > most) {
                most = worth;
                first = row.clone();
            }
        } while (nextRow(row, w.fields.size()));
        return g == -1 ? most : first[g];
    }

    private long which(int t) {
        if (!in(t, 0, 11)) return BAD;
        for (int most = 100; most >= 0; most--) {
            for (int f = 0; f < w.fields.size(); f++) if (onField(w, f, t, w.cloud) == most) return f;
        }
        return NONE;
    }

    private long lasts(int g, int x) {
        if (!isGleaner(g) || !in(x, 1, 999)) return BAD;
        int nights = 0;
        for (int store = w.gleaners.get(g)[1]; store >= x; store = quarterLess(store)) nights++;
        return nights;
    }

    private long enough(int x) {
        if (!in(x, 0, 999)) return BAD;
        for (int many = 0; many <= w.gleaners.size(); many++) {
            for (int bits = 0; bits < 1 << w.gleaners.size(); bits++) {
                if (Integer.bitCount(bits) != many) continue;
                int sum = 0;
                for (int g = 0; g < w.gleaners.size(); g++) if ((bits & 1 << g) != 0) sum += w.gleaners.get(g)[1];
                if (sum >= x) return bits;
            }
        }
        return NONE;
    }

    private long missed(int[] a) {
        if (!isField(a[0]) || !in(a[1], 0, 11) || !in(a[2], 0, 60) || !in(a[3], 0, 60)) return BAD;
        if (w.missed.size() == 4) return FULL;
        w.missed.add(a.clone());
        return w.missed.size();
    }

    private long clouds() {
        int bits = 0;
        for (int c = 0; c < 10; c++) {
            boolean fits = true;
            for (int[] m : w.missed) fits &= sight(w.fields.get(m[0])[0], m[1], m[2], c) == m[3];
            if (fits) bits += 1 << c;
        }
        return bits;
    }

    private long note(int[] a) {
        if (!isField(a[0]) || !in(a[1], 0, 11) || !in(a[2], 0, 60) || !in(a[3], 0, 9) || !in(a[4], 0, 99)) return BAD;
        if (w.notes.size() == 6) return FULL;
        w.notes.add(a.clone());
        return w.notes.size();
    }

    private long forget(int what) {
        if (!in(what, 0, 1)) return BAD;
        List<int[]> list = what == 0 ? w.missed : w.notes;
        int were = list.size();
        list.clear();
        return were;
    }

    private List<Integer> fitting(int f) {
        List<Integer> kinds = new ArrayList<>();
        for (int k = 0; k < 6; k++) {
            boolean fits = true;
            for (int[] n : w.notes) if (n[0] == f) fits &= sight(k, n[1], n[2], n[3]) == n[4];
            if (fits) kinds.add(k);
        }
        return kinds;
    }

    private long is(int f) {
        if (!isField(f)) return BAD;
        int bits = 0;
        for (int k : fitting(f)) bits += 1 << k;
        return bits;
    }

    private long look(int f) {
        if (!isField(f)) return BAD;
        List<Integer> kinds = fitting(f);
        int least = NONE;
        int fewest = 100;
        for (int t = 0; t < 12 && !kinds.isEmpty(); t++) {
            for (int c = 0; c < 10; c++) {
                int[] like = new int[100];
                int most = 0;
                for (int k : kinds) most = Math.max(most, ++like[sight(k, t, w.fields.get(f)[1], c)]);
                if (most < fewest) {
                    fewest = most;
                    least = 100 * t + c;
                }
            }
        }
        return least;
    }

    private long two(int a, int b, int k) {
        if (!isGleaner(a) || !isGleaner(b) || a == b || k < -1) return BAD;
        List<Integer> rest = new ArrayList<>();
        for (int pair = 0; pair < 36; pair++) {
            int i = pair / 6;
            int j = pair % 6;
            if (!isField(i) || !isField(j)) continue;
            boolean rests = true;
            for (int f = 0; f < w.fields.size(); f++) {
                rests &= pay(a, f, j) <= pay(a, i, j) && pay(b, f, i) <= pay(b, j, i);
            }
            if (rests) rest.add(pair);
        }
        if (k == -1) return rest.size();
        return k < rest.size() ? rest.get(k) : -5;
    }

    private int pay(int g, int f, int other) {
        int light = onField(w, f, w.step, w.cloud);
        return (f == other ? light / 2 : light) - Math.abs(f - w.gleaners.get(g)[0]);
    }

    private long rains(int f, int c) {
        if (!isField(f) || !in(c, 0, 10)) return BAD;
        above = (long) c * onField(w, f, w.step, Math.min(9, w.cloud + 5))
            + (10L - c) * onField(w, f, w.step, w.cloud);
        below = 10;
        for (int d : new int[] {2, 5}) {
            if (above % d == 0) {
                above /= d;
                below /= d;
            }
        }
        return 1;
    }

    private long summers(int seed, int n) {
        if (!in(seed, 0, 999999) || !in(n, 0, 60)) return BAD;
        World v = w.copy();
        long x = seed;
        long sum = 0;
        for (int i = 0; i < n; i++) {
            x = x * 1103515245L + 12345L & 0x7fffffffL;
            if (v.step == 12) nightIn(v);
            v.cloud = (int) ((x >> 16) % 10);
            sum += gleaning(v);
        }
        return sum;
    }

    private long image(int i) {
        if (!in(i, 0, 1)) return BAD;
        images[i] = w.copy();
        return 1;
    }

    private long from(int i) {
        if (!in(i, 0, 1)) return BAD;
        if (images[i] == null) return NO;
        w = images[i].copy();
        return 1;
    }

    private long count(int what) {
        int[] counts = {w.fields.size(), w.gleaners.size(), w.step, w.cloud, w.dusk, w.missed.size(), w.notes.size(),
            w.earlier.size(), text.length()};
        return in(what, 0, 8) ? counts[what] : BAD;
    }

    private long digest() {
        List<Long> values = new ArrayList<>();
        for (int what = 0; what < 9; what++) values.add(count(what));
        for (List<int[]> rows : List.of(w.fields, w.gleaners, w.missed, w.notes)) {
            for (int[] row : rows) for (int v : row) values.add((long) v);
        }
        values.add(above);
        values.add(below);
        long h = 1451;
        for (long v : values) h = 31 * h + v;
        return h;
    }
}
