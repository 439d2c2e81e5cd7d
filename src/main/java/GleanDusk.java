/**
 * The dusk of an arable parish, as the gleaners own it: fields with light, gleaners with stores in straw,
 * what they get step by step, and what can be told from it. The document (DOC.md) says what each call answers.
 */
public final class GleanDusk {
    public static final int NONE = -1, BAD = -2, NO = -3, FULL = -4;

    private static final int KINDS = 6;
    private static final int FIELDS = 6;
    private static final int GLEANERS = 5;
    private static final int STEPS = 12;
    private static final int CLOUDS = 10;
    private static final int MOST_LIGHT = 60;
    private static final int MOST_STORE = 999;
    private static final int MOST_DUSK = 999;
    private static final int NIGHT_LIGHT = 20;
    private static final int UNDOS = 8;
    private static final int MISSED = 4;
    private static final int NOTES = 6;
    private static final int TEXT = 150;
    private static final int IMAGES = 2;
    private static final int ROUND = 6;
    private static final int COUNTS = 9;
    private static final int ODDS = 10;
    private static final int RAIN = 5;
    private static final int SEEDS = 1000000;
    private static final int SUMMER = 60;

    /** What a call answers that is asked for a row's element that isn't there. */
    private static final int NOT_SO_MANY = -5;
    /** BAD, where the document tells this number for it; a fault in the text is counted from it, too. */
    private static final int TEN = -10;

    private final Plain[] kinds;
    private final Parish now;
    private final Parish[] images;
    private final boolean[] kept;
    private final Text text;
    /** A dusk to try things on, so that the one that is stays as it is. */
    private final Dusk trial;
    private final Best best;
    private final int[] shown;
    private final int[] standing;
    private final int[] refused;
    private int above;
    private int below;

    public GleanDusk() {
        kinds = new Plain[] {new Plain(), new West(), new Wood(), new Puddle(), new Hill(), new Lane()};
        now = new Parish(kinds);
        images = new Parish[] {new Parish(kinds), new Parish(kinds)};
        kept = new boolean[IMAGES];
        text = new Text();
        trial = new Dusk();
        best = new Best();
        shown = new int[FIELDS];
        standing = new int[FIELDS];
        refused = new int[3];
        above = 0;
        below = 1;
    }

    // ---- a parish

    public int parish(int cloud) {
        if (!isBelow(cloud, CLOUDS)) return refuseBad();
        int were = now.fields;
        now.begin(cloud);
        return were;
    }

    public int field(int kind, int light) {
        if (!isBelow(kind, KINDS) || !isLight(light)) return refuseBad();
        if (now.fields >= FIELDS) return refuseFull();
        return now.addField(kind, light);
    }

    public int gleaner(int f) {
        if (!now.hasField(f)) return refuseBad();
        if (now.gleaners >= GLEANERS) return refuseFull();
        return now.addGleaner(f);
    }

    public int type(int c) {
        if (!isBelow(c, 128)) return refuseBad();
        if (text.length >= TEXT) return refuseFull();
        return text.append(c);
    }

    public int clear() {
        int had = text.length;
        text.length = 0;
        return had;
    }

    public int read() {
        int items = text.parse();
        if (items < 0) return items;
        now.begin(text.first[0]);
        for (int i = 1; i < items; i++) {
            if (text.words[i] == Text.FIELD) now.addField(text.first[i], text.second[i]);
            else if (text.words[i] == Text.GLEANER) now.addGleaner(text.first[i]);
            else now.gather(now.dusk, text.first[i]);
        }
        return items;
    }

    // ---- dusks

    public int glean(int n) {
        if (!isIn(n, 1, STEPS)) return refuseBad();
        if (n > STEPS - now.dusk.step) return refuseNo();
        now.remember();
        return now.gather(now.dusk, n);
    }

    public int night() {
        now.remember();
        now.fade(now.dusk);
        return now.dusk.number;
    }

    public int goes(int g, int f) {
        if (!now.hasGleaner(g) || !now.hasField(f)) return refuseBad();
        int was = now.dusk.at[g];
        // the document undoes one who went elsewhere, so one who stays leaves nothing to undo
        if (was != f) {
            now.remember();
            now.dusk.at[g] = f;
        }
        return was;
    }

    public int cloud(int c) {
        if (!isBelow(c, CLOUDS)) return refuseBad();
        now.remember();
        int was = now.dusk.cloud;
        now.dusk.cloud = c;
        return was;
    }

    public int undo() {
        if (now.undoable == 0) return refuseNo();
        now.goBack();
        return now.dusk.step;
    }

    public int of(int f, int what) {
        if (!now.hasField(f) || !isBelow(what, 3)) return refuseBad();
        if (what == 0) return now.kind[f];
        if (what == 1) return now.dusk.light[f];
        return now.whoIsOn(f);
    }

    public int about(int g, int what) {
        if (!now.hasGleaner(g) || !isBelow(what, 3)) return refuseBad();
        if (what == 0) return now.dusk.at[g];
        if (what == 1) return now.dusk.store[g];
        return now.share(now.dusk, now.dusk.at[g]);
    }

    // ---- light

    public int seen(int f, int t) {
        if (!now.hasField(f) || !isBelow(t, STEPS)) return refuseBad();
        return now.shows(now.dusk, f, t);
    }

    public int then(int g, int n) {
        if (!now.hasGleaner(g) || !isIn(n, 0, STEPS)) return refuseBad();
        trial.become(now.dusk);
        now.gather(trial, Math.min(n, STEPS - trial.step));
        return trial.store[g];
    }

    public int round(int g, int n, int i) {
        if (!now.hasGleaner(g) || !isIn(n, 1, ROUND) || i < NONE) return refuseTen();
        if (i >= n) return NOT_SO_MANY;
        trial.become(now.dusk);
        best.begin();
        roam(now.dusk.at[g], 0, n, 0);
        return i == NONE ? best.most : best.first[i];
    }

    public int places(int what, int g) {
        if (!isBelow(what, 2) || g != NONE && !now.hasGleaner(g)) return refuseTen();
        if (now.gleaners == 0) return 0;
        showAll(now.dusk.step);
        best.begin();
        settle(what, 0, 0);
        return g == NONE ? best.most : best.first[g];
    }

    public int which(int t) {
        if (!isBelow(t, STEPS)) return refuseBad();
        showAll(t);
        int most = NONE;
        for (int f = 0; f < now.fields; f++) {
            if (most == NONE || shown[f] > shown[most]) most = f;
        }
        return most;
    }

    public int lasts(int g, int x) {
        if (!now.hasGleaner(g) || !isIn(x, 1, MOST_STORE)) return refuseBad();
        int store = now.dusk.store[g];
        int nights = 0;
        while (nights <= MOST_STORE && store >= x) {
            store = faded(store);
            nights++;
        }
        return nights;
    }

    public int enough(int x) {
        if (!isIn(x, 0, MOST_STORE)) return refuseBad();
        int fewest = NONE;
        for (int who = 0; who < 1 << now.gleaners; who++) {
            boolean fewer = fewest == NONE || Integer.bitCount(who) < Integer.bitCount(fewest);
            if (fewer && now.storesOf(who) >= x) fewest = who;
        }
        return fewest;
    }

    // ---- what was missed

    public int missed(int f, int t, int l, int x) {
        if (!now.hasField(f) || !isBelow(t, STEPS) || !isLight(l) || !isIn(x, 0, 60)) return refuseBad();
        if (now.missedCount >= MISSED) return refuseFull();
        return now.addMissed(f, t, l, x);
    }

    public int clouds() {
        int may = 0;
        for (int c = 0; c < CLOUDS; c++) {
            if (now.missedFit(c)) may |= 1 << c;
        }
        return may;
    }

    public int note(int f, int t, int l, int c, int x) {
        if (!now.hasField(f) || !isBelow(t, STEPS) || !isLight(l)) return refuseBad();
        if (!isBelow(c, CLOUDS) || !isIn(x, 0, 99)) return refuseBad();
        if (now.noteCount >= NOTES) return refuseFull();
        return now.addNote(f, t, l, c, x);
    }

    public int forget(int what) {
        if (!isBelow(what, 2)) return refuseBad();
        int were = what == 0 ? now.missedCount : now.noteCount;
        if (what == 0) now.missedCount = 0;
        else now.noteCount = 0;
        return were;
    }

    public int is(int f) {
        if (!now.hasField(f)) return refuseBad();
        return now.kindsThatFit(f);
    }

    public int look(int f) {
        if (!now.hasField(f)) return refuseBad();
        int fit = now.kindsThatFit(f);
        if (fit == 0) return NONE;
        int least = NONE;
        int fewest = KINDS + 1;
        for (int t = 0; t < STEPS; t++) {
            for (int c = 0; c < CLOUDS; c++) {
                int alike = mostAlike(fit, t, now.dusk.light[f], c);
                if (alike < fewest) {
                    fewest = alike;
                    least = 100 * t + c;
                }
            }
        }
        return least;
    }

    public int two(int a, int b, int k) {
        if (!now.hasGleaner(a) || !now.hasGleaner(b) || a == b || k < NONE) return refuseTen();
        showAll(now.dusk.step);
        int many = 0;
        for (int i = 0; i < now.fields; i++) {
            for (int j = 0; j < now.fields; j++) {
                if (!staysPut(now.dusk.at[a], i, j) || !staysPut(now.dusk.at[b], j, i)) continue;
                if (many == k) return 6 * i + j;
                many++;
            }
        }
        return k == NONE ? many : NOT_SO_MANY;
    }

    public int rains(int f, int c) {
        if (!now.hasField(f) || !isIn(c, 0, ODDS)) return refuseBad();
        int dry = now.shows(now.dusk, f, now.dusk.step);
        trial.become(now.dusk);
        trial.cloud = Math.min(CLOUDS - 1, trial.cloud + RAIN);
        int wet = now.shows(trial, f, trial.step);
        int sum = c * wet + (ODDS - c) * dry;
        int common = commonDivisor(sum, ODDS);
        above = sum / common;
        below = ODDS / common;
        return 1;
    }

    public int summers(int seed, int n) {
        if (!isBelow(seed, SEEDS) || !isIn(n, 0, SUMMER)) return refuseBad();
        trial.become(now.dusk);
        long x = seed;
        int got = 0;
        for (int i = 0; i < n; i++) {
            x = (x * 1103515245L + 12345L) % 2147483648L;
            if (trial.step >= STEPS) now.fade(trial);
            trial.cloud = (int) (x / 65536L % 10L);
            got += now.gather(trial, 1);
        }
        return got;
    }

    // ---- what there is

    public long part(int what) {
        if (!isBelow(what, 2)) return refuseBad();
        return what == 0 ? above : below;
    }

    public int image(int i) {
        if (!isBelow(i, IMAGES)) return refuseBad();
        images[i].become(now);
        kept[i] = true;
        return 1;
    }

    public int from(int i) {
        if (!isBelow(i, IMAGES)) return refuseBad();
        if (!kept[i]) return refuseNo();
        now.become(images[i]);
        return 1;
    }

    public int status(int what) {
        if (!isBelow(what, 3)) {
            refuseBad();
            return -1;
        }
        return refused[what];
    }

    public int count(int what) {
        if (!isBelow(what, COUNTS)) return refuseBad();
        return howMany(what);
    }

    public long digest() {
        long h = 1451;
        for (int what = 0; what < COUNTS; what++) h = mix(h, howMany(what));
        for (int f = 0; f < now.fields; f++) h = mix(mix(h, now.kind[f]), now.dusk.light[f]);
        for (int g = 0; g < now.gleaners; g++) h = mix(mix(h, now.dusk.at[g]), now.dusk.store[g]);
        for (int i = 0; i < now.missedCount; i++) h = mixRow(h, now.missed[i]);
        for (int i = 0; i < now.noteCount; i++) h = mixRow(h, now.notes[i]);
        return mix(mix(h, above), below);
    }

    // ---- refusals and ranges

    private int refuseBad() {
        refused[0]++;
        return BAD;
    }

    private int refuseNo() {
        refused[1]++;
        return NO;
    }

    private int refuseFull() {
        refused[2]++;
        return FULL;
    }

    private int refuseTen() {
        refused[0]++;
        return TEN;
    }

    private static boolean isIn(int x, int low, int high) {
        return x >= low && x <= high;
    }

    private static boolean isBelow(int x, int end) {
        return x >= 0 && x < end;
    }

    private static boolean isLight(int l) {
        return isIn(l, 0, MOST_LIGHT);
    }

    // ---- what the calls are made of

    private int howMany(int what) {
        switch (what) {
            case 0: return now.fields;
            case 1: return now.gleaners;
            case 2: return now.dusk.step;
            case 3: return now.dusk.cloud;
            case 4: return now.dusk.number;
            case 5: return now.missedCount;
            case 6: return now.noteCount;
            case 7: return now.undoable;
            default: return text.length;
        }
    }

    private static long mix(long h, long v) {
        return 31 * h + v;
    }

    private static long mixRow(long h, int[] row) {
        long mixed = h;
        for (int v : row) mixed = mix(mixed, v);
        return mixed;
    }

    /** A store behind one night: a quarter, cut up, is gone. */
    private static int faded(int store) {
        return store - (store + 3) / 4;
    }

    private static int commonDivisor(int a, int b) {
        int x = a;
        int y = b;
        for (int i = 0; i < 64 && y != 0; i++) {
            int rest = x % y;
            x = y;
            y = rest;
        }
        return x == 0 ? 1 : x;
    }

    private void showAll(int t) {
        for (int f = 0; f < now.fields; f++) shown[f] = now.shows(now.dusk, f, t);
    }

    /** Tries every round from f on, the lower fields first, so that the first row of the best is kept. */
    private void roam(int f, int depth, int n, int got) {
        if (depth >= n) {
            best.offer(got, n);
            return;
        }
        for (int to = f - 1; to <= f + 1; to++) {
            if (!now.hasField(to)) continue;
            best.row[depth] = to;
            if (to == f) stay(f, depth, n, got);
            else roam(to, depth + 1, n, got);
        }
    }

    private void stay(int f, int depth, int n, int got) {
        int light = trial.light[f];
        int gets = now.shows(trial, f, trial.step + depth);
        trial.light[f] = Math.max(0, light - gets);
        roam(f, depth + 1, n, got + gets);
        trial.light[f] = light;
    }

    /**
     * Tries the ways to stand in which no gleaner stands left of the one ahead of it: gleaners are alike, so each
     * other way is worth as much as one of these, and this one comes first.
     */
    private void settle(int what, int g, int from) {
        if (g >= now.gleaners) {
            best.offer(what == 0 ? allGet() : poorestGets(), g);
            return;
        }
        for (int f = from; f < now.fields; f++) {
            best.row[g] = f;
            standing[f]++;
            settle(what, g + 1, f);
            standing[f]--;
        }
    }

    private int allGet() {
        int sum = 0;
        for (int f = 0; f < now.fields; f++) {
            if (standing[f] > 0) sum += shown[f] / standing[f] * standing[f];
        }
        return sum;
    }

    private int poorestGets() {
        int least = Integer.MAX_VALUE;
        for (int f = 0; f < now.fields; f++) {
            if (standing[f] > 0) least = Math.min(least, shown[f] / standing[f]);
        }
        return least;
    }

    /** Of the kinds (bits), how many at the most look alike at step t, with light l and cloud c. */
    private int mostAlike(int fit, int t, int l, int c) {
        int most = 0;
        for (int k = 0; k < KINDS; k++) {
            if ((fit >> k & 1) == 0) continue;
            int sight = kinds[k].sight(t, l, c);
            int alike = 0;
            for (int other = 0; other < KINDS; other++) {
                if ((fit >> other & 1) == 1 && kinds[other].sight(t, l, c) == sight) alike++;
            }
            most = Math.max(most, alike);
        }
        return most;
    }

    /** Whether one who is at home would get no more elsewhere than on its choice, the other one's being told. */
    private boolean staysPut(int home, int choice, int others) {
        int gets = worth(home, choice, others);
        for (int f = 0; f < now.fields; f++) {
            if (worth(home, f, others) > gets) return false;
        }
        return true;
    }

    private int worth(int home, int choice, int others) {
        int gets = choice == others ? shown[choice] / 2 : shown[choice];
        return gets - Math.abs(choice - home);
    }

    /** A plain field, over all other kinds: how much can be seen on it at step t, with light l and cloud c. */
    private static class Plain {
        int sight(int t, int l, int c) {
            return Math.max(0, l - 2 * t - c);
        }
    }

    private static class West extends Plain {
        int sight(int t, int l, int c) {
            int plain = super.sight(t, l, c);
            return t >= 6 && l >= 1 ? plain + t : plain;
        }
    }

    private static class Wood extends Plain {
        int sight(int t, int l, int c) {
            return super.sight(t, l, c) / 2;
        }
    }

    private static final class Puddle extends Plain {
        int sight(int t, int l, int c) {
            return Math.min(l, super.sight(t, l, c) + c);
        }
    }

    private static final class Hill extends West {
        int sight(int t, int l, int c) {
            return super.sight(t, l, Math.max(0, c - 3));
        }
    }

    private static final class Lane extends Wood {
        int sight(int t, int l, int c) {
            return t >= 8 ? 0 : super.sight(t, l, c);
        }
    }

    /** The first row of fields, of those that were offered, that is worth most. */
    private static final class Best {
        final int[] row = new int[ROUND];
        final int[] first = new int[ROUND];
        int most;

        void begin() {
            most = NONE;
        }

        void offer(int worth, int length) {
            if (worth <= most) return;
            most = worth;
            System.arraycopy(row, 0, first, 0, Math.min(length, ROUND));
        }
    }

    /** What dusks change, and what may be undone. */
    private static final class Dusk {
        final int[] light = new int[FIELDS];
        final int[] at = new int[GLEANERS];
        final int[] store = new int[GLEANERS];
        int step;
        int cloud;
        int number;

        void become(Dusk other) {
            System.arraycopy(other.light, 0, light, 0, FIELDS);
            System.arraycopy(other.at, 0, at, 0, GLEANERS);
            System.arraycopy(other.store, 0, store, 0, GLEANERS);
            step = other.step;
            cloud = other.cloud;
            number = other.number;
        }
    }

    /** All that an image keeps. */
    private static final class Parish {
        final Plain[] kinds;
        final int[] kind = new int[FIELDS];
        final Dusk dusk = new Dusk();
        final Dusk[] earlier = new Dusk[UNDOS];
        final int[][] missed = new int[MISSED][4];
        final int[][] notes = new int[NOTES][5];
        int fields;
        int gleaners;
        int undoable;
        int missedCount;
        int noteCount;

        Parish(Plain[] kinds) {
            this.kinds = kinds;
            for (int i = 0; i < UNDOS; i++) earlier[i] = new Dusk();
        }

        void begin(int cloud) {
            fields = 0;
            gleaners = 0;
            undoable = 0;
            missedCount = 0;
            noteCount = 0;
            dusk.step = 0;
            dusk.cloud = cloud;
            dusk.number = 0;
        }

        void become(Parish other) {
            System.arraycopy(other.kind, 0, kind, 0, FIELDS);
            dusk.become(other.dusk);
            for (int i = 0; i < other.undoable; i++) earlier[i].become(other.earlier[i]);
            for (int i = 0; i < other.missedCount; i++) System.arraycopy(other.missed[i], 0, missed[i], 0, 4);
            for (int i = 0; i < other.noteCount; i++) System.arraycopy(other.notes[i], 0, notes[i], 0, 5);
            fields = other.fields;
            gleaners = other.gleaners;
            undoable = other.undoable;
            missedCount = other.missedCount;
            noteCount = other.noteCount;
        }

        boolean hasField(int f) {
            return isBelow(f, fields);
        }

        boolean hasGleaner(int g) {
            return isBelow(g, gleaners);
        }

        int addField(int k, int light) {
            kind[fields] = k;
            dusk.light[fields] = light;
            undoable = 0;
            return fields++;
        }

        int addGleaner(int f) {
            dusk.at[gleaners] = f;
            dusk.store[gleaners] = 0;
            undoable = 0;
            return gleaners++;
        }

        int addMissed(int f, int t, int l, int x) {
            int[] row = missed[missedCount];
            row[0] = f;
            row[1] = t;
            row[2] = l;
            row[3] = x;
            return ++missedCount;
        }

        int addNote(int f, int t, int l, int c, int x) {
            int[] row = notes[noteCount];
            row[0] = f;
            row[1] = t;
            row[2] = l;
            row[3] = c;
            row[4] = x;
            return ++noteCount;
        }

        void remember() {
            if (undoable >= UNDOS) dropOldest();
            earlier[undoable].become(dusk);
            undoable++;
        }

        private void dropOldest() {
            Dusk oldest = earlier[0];
            for (int i = 1; i < UNDOS; i++) earlier[i - 1] = earlier[i];
            earlier[UNDOS - 1] = oldest;
            undoable--;
        }

        void goBack() {
            undoable--;
            dusk.become(earlier[undoable]);
        }

        /** What can be seen on a field of this parish at step t, with the light and cloud of d; 0 behind the last. */
        int shows(Dusk d, int f, int t) {
            return t >= STEPS ? 0 : kinds[kind[f]].sight(t, d.light[f], d.cloud);
        }

        private int crowd(Dusk d, int f) {
            int many = 0;
            for (int g = 0; g < gleaners; g++) {
                if (d.at[g] == f) many++;
            }
            return many;
        }

        /** What each gleaner on a field gets at the step of d. */
        int share(Dusk d, int f) {
            int many = crowd(d, f);
            return many == 0 ? 0 : shows(d, f, d.step) / many;
        }

        /** n gleanings change d: what all get. */
        int gather(Dusk d, int n) {
            int sum = 0;
            for (int i = 0; i < n; i++) {
                for (int f = 0; f < fields; f++) sum += give(d, f, share(d, f));
                d.step++;
            }
            return sum;
        }

        private int give(Dusk d, int f, int each) {
            int sum = 0;
            for (int g = 0; g < gleaners; g++) {
                if (d.at[g] != f) continue;
                d.store[g] = Math.min(MOST_STORE, d.store[g] + each);
                sum += each;
            }
            d.light[f] = Math.max(0, d.light[f] - sum);
            return sum;
        }

        /** A night changes d. */
        void fade(Dusk d) {
            for (int g = 0; g < gleaners; g++) d.store[g] = faded(d.store[g]);
            for (int f = 0; f < fields; f++) d.light[f] = Math.min(MOST_LIGHT, d.light[f] + NIGHT_LIGHT);
            d.number = Math.min(MOST_DUSK, d.number + 1);
            d.step = 0;
        }

        int whoIsOn(int f) {
            int who = 0;
            for (int g = 0; g < gleaners; g++) {
                if (dusk.at[g] == f) who |= 1 << g;
            }
            return who;
        }

        int storesOf(int who) {
            int sum = 0;
            for (int g = 0; g < gleaners; g++) {
                if ((who >> g & 1) == 1) sum += dusk.store[g];
            }
            return sum;
        }

        boolean missedFit(int c) {
            for (int i = 0; i < missedCount; i++) {
                int[] row = missed[i];
                if (kinds[kind[row[0]]].sight(row[1], row[2], c) != row[3]) return false;
            }
            return true;
        }

        int kindsThatFit(int f) {
            int fit = 0;
            for (int k = 0; k < KINDS; k++) {
                if (notesFit(f, kinds[k])) fit |= 1 << k;
            }
            return fit;
        }

        private boolean notesFit(int f, Plain rule) {
            for (int i = 0; i < noteCount; i++) {
                int[] row = notes[i];
                if (row[0] == f && rule.sight(row[1], row[2], row[3]) != row[4]) return false;
            }
            return true;
        }
    }

    /** The text that is typed, and the items that it tells. */
    private static final class Text {
        /** An item has seven bytes or more, so that a text never has so many. */
        private static final int ITEMS = TEXT / 6;

        static final int PARISH = 0;
        static final int FIELD = 1;
        static final int GLEANER = 2;
        static final int GLEAN = 3;

        private static final int END = 0;
        private static final int WORD = 1;
        private static final int NUMBER = 2;
        private static final int STOP = 3;
        private static final int OTHER = 4;

        private final byte[] bytes = new byte[TEXT];
        int length;
        /** The token that is looked at, its first byte's place, and the place behind it. */
        private int token;
        private int start;
        private int end;
        private int number;
        /** What the items say, once parsed. */
        final int[] words = new int[ITEMS];
        final int[] first = new int[ITEMS];
        final int[] second = new int[ITEMS];
        private int fields;
        private int gleaners;
        private int steps;

        int append(int c) {
            bytes[length] = (byte) c;
            return ++length;
        }

        /** How many items there are, or -10 less the fault. */
        int parse() {
            end = 0;
            fields = 0;
            gleaners = 0;
            steps = STEPS;
            for (int items = 0; items < ITEMS; items++) {
                advance();
                if (token == END && items > 0) return items;
                if (!isItem(items)) break;
                advance();
                if (token != STOP) break;
            }
            return TEN - start;
        }

        /** Whether an item begins here, up to its end; if not, the token looked at is the first that can't stand. */
        private boolean isItem(int i) {
            int word = wordHere();
            if (word == NONE || (word == PARISH) != (i == 0)) return false;
            words[i] = word;
            switch (word) {
                case PARISH:
                    return takes(first, i, 0, CLOUDS - 1);
                case FIELD:
                    fields++;
                    return fields <= FIELDS && takes(first, i, 0, KINDS - 1) && takes(second, i, 0, MOST_LIGHT);
                case GLEANER:
                    gleaners++;
                    return gleaners <= GLEANERS && takes(first, i, 0, fields - 1);
                default:
                    boolean stands = takes(first, i, 1, steps);
                    if (stands) steps -= number;
                    return stands;
            }
        }

        private int wordHere() {
            if (token != WORD) return NONE;
            if (isWord("parish")) return PARISH;
            if (isWord("field")) return FIELD;
            if (isWord("gleaner")) return GLEANER;
            return isWord("glean") ? GLEAN : NONE;
        }

        private boolean isWord(String word) {
            if (end - start != word.length()) return false;
            for (int i = 0; i < word.length(); i++) {
                if (bytes[start + i] != word.charAt(i)) return false;
            }
            return true;
        }

        private boolean takes(int[] row, int i, int low, int high) {
            advance();
            if (token != NUMBER || !isIn(number, low, high)) return false;
            row[i] = number;
            return true;
        }

        private void advance() {
            start = end;
            while (start < length && bytes[start] == ' ') start++;
            end = start;
            if (start >= length) token = END;
            else if (isLetter(bytes[start])) passWord();
            else if (isFigure(bytes[start])) passNumber();
            else passSign();
        }

        private void passWord() {
            token = WORD;
            while (end < length && isLetter(bytes[end])) end++;
        }

        /** A run of more than two figures is no number, and can stand nowhere. */
        private void passNumber() {
            number = 0;
            while (end < length && isFigure(bytes[end])) {
                if (end - start < 2) number = 10 * number + bytes[end] - '0';
                end++;
            }
            token = end - start <= 2 ? NUMBER : OTHER;
        }

        private void passSign() {
            token = bytes[start] == ';' ? STOP : OTHER;
            end++;
        }

        private static boolean isLetter(int b) {
            return b >= 'a' && b <= 'z';
        }

        private static boolean isFigure(int b) {
            return b >= '0' && b <= '9';
        }
    }
}
