/** Makes parishes for the tests. */
final class Make {
    private Make() {
    }

    /** A parish with these fields (kind, light in turn). */
    static GleanDusk with(int cloud, int... kindsAndLights) {
        GleanDusk x = new GleanDusk();
        x.parish(cloud);
        for (int i = 0; i < kindsAndLights.length; i += 2) x.field(kindsAndLights[i], kindsAndLights[i + 1]);
        return x;
    }

    /** The same parish, with a gleaner more on each of these fields. */
    static GleanDusk gleaners(GleanDusk x, int... fields) {
        for (int f : fields) x.gleaner(f);
        return x;
    }

    /** The text of the object is this one, and no other. */
    static void typeAll(GleanDusk x, String text) {
        x.clear();
        for (int i = 0; i < text.length(); i++) x.type(text.charAt(i));
    }

    /** What a new object answers that reads this text. */
    static int reading(String text) {
        return read(text).answer;
    }

    static Reading read(String text) {
        GleanDusk x = new GleanDusk();
        typeAll(x, text);
        return new Reading(x, x.read());
    }

    /** An object that has read a text, and what it answered. */
    static final class Reading {
        final GleanDusk x;
        final int answer;

        Reading(GleanDusk x, int answer) {
            this.x = x;
            this.answer = answer;
        }
    }
}
