/** Counts and prints the answers that are not as due, and says in few words what tests often say. */
final class Due {
    private final String test;
    private int asked;
    private int wrong;

    Due(String test) {
        this.test = test;
    }

    void is(String call, long got, long want) {
        asked++;
        if (got != want) {
            wrong++;
            System.out.println(test + ": " + call + " answered " + got + ", due is " + want);
        }
    }

    void is(String call, String got, String want) {
        asked++;
        if (!got.equals(want)) {
            wrong++;
            System.out.println(test + ": " + call + " answered " + got + ", due is " + want);
        }
    }

    /** A float told by its bits. */
    void isFloat(String call, long got, float want) {
        is(call, got, Float.floatToIntBits(want));
    }

    void end() {
        System.out.println(test + ": " + asked + " answers, " + wrong + " not as due");
        if (wrong != 0) {
            System.exit(1);
        }
    }

    static void feed(PerfumeOrgan x, String text) {
        for (int i = 0; i < text.length(); i++) {
            x.feed(text.charAt(i));
        }
    }

    static int note(PerfumeOrgan x, String name, int family, int strength, int lasting) {
        feed(x, name);
        return x.note(family, strength, lasting);
    }

    static int recipe(PerfumeOrgan x, int blend, String text) {
        feed(x, text);
        return x.recipe(blend);
    }

    static int accord(PerfumeOrgan x, int accord, String text) {
        feed(x, text);
        return x.accord(accord);
    }

    static int find(PerfumeOrgan x, String name) {
        feed(x, name);
        return x.find();
    }

    /** A new organ with notes a, b, c .. of family 0, strength 1.00 and lasting 9. */
    static PerfumeOrgan organOf(int notes) {
        PerfumeOrgan x = new PerfumeOrgan();
        for (int i = 0; i < notes; i++) {
            note(x, nameOf(i), 0, 100, 9);
        }
        return x;
    }

    /** a .. z, then aa, ab .. */
    static String nameOf(int i) {
        return i < 26 ? "" + (char) ('a' + i) : nameOf(i / 26 - 1) + (char) ('a' + i % 26);
    }

    static void drop(PerfumeOrgan x, int blend, int... drops) {
        for (int i = 0; i < drops.length; i++) {
            x.drop(blend, i, drops[i]);
        }
    }

    static String paper(PerfumeOrgan x) {
        StringBuilder text = new StringBuilder();
        for (int i = 0; x.paper(i) >= 0; i++) {
            text.append((char) x.paper(i));
        }
        return text.toString();
    }

    static String drops(PerfumeOrgan x, int mixture) {
        StringBuilder text = new StringBuilder();
        for (int i = 0; i < x.told(0); i++) {
            text.append(i == 0 ? "" : " ").append(x.drops(mixture, i));
        }
        return text.toString();
    }

    static String row(PerfumeOrgan x, int row) {
        StringBuilder text = new StringBuilder();
        for (int i = 0; x.get(row, i) != PerfumeOrgan.NO; i++) {
            text.append(i == 0 ? "" : " ").append(x.get(row, i));
        }
        return text.toString();
    }
}
