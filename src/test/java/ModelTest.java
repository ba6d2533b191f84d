import java.lang.reflect.Method;
import java.util.List;

/**
 * Runs of calls, drawn by a fixed rule, on PerfumeOrgan and on PlainOrgan: each answer is to be
 * the same. A run stays within the 512 calls that an object is used for.
 */
public final class ModelTest {
    private static final int CALLS = 512;
    /** A call and what sorts of arguments it takes; those that stand twice are drawn more often. */
    private static final String[] DRAWN = {
        "note family strength lasting", "note family strength lasting", "note family strength lasting",
        "of note what", "lasting note lasting", "name note i", "find", "byName i", "organ i",
        "recipe blend", "recipe blend", "recipe blend", "recipe blend", "accord accord", "accord accord",
        "drop blend note n", "drop blend note n", "drop blend note n", "drops mixture note",
        "copy mixture blend", "scale blend n", "mix blend blend", "blend blend what", "blend blend what",
        "spell blend", "differ blend blend", "paper i", "share blend note", "weight blend note hour",
        "scent blend familyOrAll hour", "thousandths blend hour", "leads blend hour", "turn blend few",
        "faded blend p", "distance blend blend", "nearer blend blend", "wide blend hour few",
        "area blend hour", "thin blend", "substitute note", "replace blend note note", "rank family few",
        "order blend times urgency", "off order", "urge order urgency", "orderOf order few", "inTurn few",
        "serve", "limit family limit", "fill note stock", "fill note stock", "make blend times",
        "lacks blend times", "most blend", "book few few", "told what", "row row few size",
        "set row place value", "get row place", "move row place row place size", "twin row row",
        "lay row place blend", "judge row place blend", "image", "undo", "clear",
    };

    private static long seed;
    private static final Due due = new Due("ModelTest");

    public static void main(String[] args) throws Exception {
        int runs = args.length > 0 ? Integer.parseInt(args[0]) : 400;
        for (int run = 0; run < runs; run++) {
            seed = run * 7919L + 17;
            run(run);
        }
        due.end();
    }

    private static int draw(int n) {
        seed = seed * 6364136223846793005L + 1442695040888963407L;
        return (int) Math.floorMod(seed >>> 33, (long) n);
    }

    /** Mostly from .. end - 1, now and then one beside them. */
    private static int near(int from, int end) {
        return draw(25) == 0 ? (draw(2) == 0 ? from - 1 : end) : from + draw(Math.max(1, end - from));
    }

    private static int anyOf(int... ns) {
        return ns[draw(ns.length)];
    }

    private static Object argument(String sort, int notes) {
        switch (sort) {
            case "family":
                return near(0, 8);
            case "familyOrAll":
                return near(-1, 8);
            case "strength":
                return draw(3) == 0 ? near(1, 10000) : anyOf(1, 100, 100, 200, 250, 9999);
            case "lasting":
                return draw(2) == 0 ? near(1, 1000) : anyOf(1, 2, 3, 9, 20, 999);
            case "note":
                return near(0, notes);
            case "what":
                return near(0, 8);
            case "i":
                return draw(3) == 0 ? near(0, 200) : near(0, 8);
            case "blend":
                return draw(2) == 0 ? near(0, 16) : draw(4);
            case "mixture":
                return draw(3) == 0 ? near(16, 22) : near(0, 16);
            case "accord":
                return near(0, 6);
            case "n":
                return draw(5) == 0 ? near(0, 10000) : anyOf(0, 1, 1, 2, 3, 5, 7, 10, 100, 1000, 9980, 9999);
            case "hour":
                return draw(3) == 0 ? draw(5) : near(0, 201);
            case "p":
                return draw(2) == 0 ? near(0, 1001) : anyOf(0, 1, 500, 990, 999, 1000);
            case "times":
                return draw(3) == 0 ? near(1, 100) : anyOf(1, 1, 2, 3, 99);
            case "urgency":
                return near(0, 10);
            case "order":
                return draw(3) == 0 ? near(0, 30) : draw(4);
            case "few":
                return near(0, 4);
            case "limit":
                return draw(3) == 0 ? near(0, 1001) : anyOf(0, 250, 500, 900, 1000, 1000);
            case "stock":
                return draw(3) == 0 ? near(0, 100000) : anyOf(0, 1, 10, 100, 1000, 10000);
            case "row":
                return near(0, 6);
            case "size":
                return draw(9) == 0 ? anyOf(-1, 50, 51, Integer.MIN_VALUE, Integer.MAX_VALUE) : draw(12);
            case "place":
                return draw(9) == 0 ? anyOf(-1, 50, Integer.MIN_VALUE, Integer.MAX_VALUE) : draw(9);
            case "value":
                return draw(2) == 0 ? seed >> draw(64) : (long) draw(1001) - 500;
            default:
                throw new IllegalArgumentException(sort);
        }
    }

    private static String name(List<String> names) {
        return names.isEmpty() || draw(40) == 0 ? Due.nameOf(draw(60)) : names.get(draw(names.size()));
    }

    private static String number() {
        return draw(12) == 0 ? anyOf(0, 9999, 99999, 10000) + "" : draw(4) == 0 ? "00" + draw(10) : draw(40) + "";
    }

    private static String part(List<String> names) {
        switch (draw(8)) {
            case 0:
                return "%" + number();
            case 1:
                return "@" + draw(draw(9) == 0 ? 7 : 4) + "=" + number();
            default:
                return name(names) + "=+-=+".charAt(draw(5)) + number();
        }
    }

    private static String text(String call, List<String> names) {
        if (call.equals("note")) {
            return draw(12) == 0 ? "abcdefghi".substring(draw(3)) : Due.nameOf(draw(60));
        }
        if (call.equals("find")) {
            return name(names);
        }
        StringBuilder text = new StringBuilder(part(names));
        while (draw(3) > 0 && text.length() < 30) {
            text.append(';').append(part(names));
        }
        if (draw(8) == 0) {
            text.setCharAt(draw(text.length()), ";=@%+-a1`{/:~ A"
                .charAt(draw(15)));
        }
        return draw(12) == 0 ? text.substring(0, draw(text.length())) : text.toString();
    }

    private static void run(int run) throws Exception {
        PerfumeOrgan x = new PerfumeOrgan();
        PlainOrgan plain = new PlainOrgan();
        int calls = 0;
        // Some runs have many notes soon, some few.
        int soon = draw(30);
        while (calls < CALLS) {
            boolean comes = x.told(0) < soon && draw(3) > 0;
            calls += 2;
            String[] call = comes ? DRAWN[0].split(" ") : DRAWN[draw(DRAWN.length)].split(" ");
            if (List.of("note", "find", "recipe", "accord").contains(call[0]) && draw(30) > 0) {
                for (char letter : text(call[0], plain.names()).toCharArray()) {
                    if (calls < CALLS) {
                        calls++;
                        due.is("run " + run + ": feed", x.feed(letter), plain.feed(letter));
                    }
                }
            }
            if (calls < CALLS) {
                compare(run, call, x, plain);
            }
        }
    }

    private static void compare(int run, String[] call, PerfumeOrgan x, PlainOrgan plain) throws Exception {
        Object[] arguments = new Object[call.length - 1];
        StringBuilder said = new StringBuilder("run " + run + ": " + call[0]);
        for (int i = 0; i < arguments.length; i++) {
            arguments[i] = argument(call[i + 1], plain.names().size());
            said.append(' ').append(arguments[i]);
        }
        long got = ((Number) method(PerfumeOrgan.class, call).invoke(x, arguments)).longValue();
        long want = ((Number) method(PlainOrgan.class, call).invoke(plain, arguments)).longValue();
        due.is(said.toString(), got, want);
    }

    private static Method method(Class<?> of, String[] call) {
        for (Method method : of.getDeclaredMethods()) {
            boolean isNumber = method.getReturnType() == int.class || method.getReturnType() == long.class;
            if (method.getName().equals(call[0]) && method.getParameterCount() == call.length - 1 && isNumber) {
                return method;
            }
        }
        throw new IllegalArgumentException(call[0]);
    }
}
