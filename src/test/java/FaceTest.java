import java.lang.reflect.Constructor;
import java.lang.reflect.Field;
import java.lang.reflect.InvocationTargetException;
import java.lang.reflect.Method;
import java.lang.reflect.Modifier;
import java.util.Set;
import java.util.TreeSet;

/** The public face is that of the document, and wild arguments are answered, in any state. */
public final class FaceTest {
    private static final String[] METHODS = {
        "int feed(int)", "int clear()", "int note(int,int,int)", "int of(int,int)", "int lasting(int,int)",
        "int name(int,int)", "int find()", "int byName(int)", "int organ(int)", "int recipe(int)",
        "int accord(int)", "int drop(int,int,int)", "int drops(int,int)", "int copy(int,int)",
        "int scale(int,int)", "int mix(int,int)", "int blend(int,int)", "int spell(int)", "int differ(int,int)",
        "int paper(int)", "long share(int,int)", "long weight(int,int,int)", "long scent(int,int,int)",
        "long thousandths(int,int)", "int leads(int,int)", "int turn(int,int)", "int faded(int,int)",
        "long distance(int,int)", "int nearer(int,int)", "long wide(int,int,int)", "long area(int,int)",
        "int thin(int)", "int substitute(int)", "int replace(int,int,int)", "int rank(int,int)",
        "int order(int,int,int)", "int off(int)", "int urge(int,int)", "int orderOf(int,int)",
        "int inTurn(int)", "int serve()", "int limit(int,int)", "int fill(int,int)", "int make(int,int)",
        "int lacks(int,int)", "int most(int)", "int book(int,int)", "int told(int)", "int row(int,int,int)",
        "int set(int,int,long)", "long get(int,int)", "int move(int,int,int,int,int)", "int twin(int,int)",
        "int lay(int,int,int)", "int judge(int,int,int)", "int image()", "int undo()",
    };
    private static final int[] WILD = {Integer.MIN_VALUE, Integer.MIN_VALUE + 1, -2, -1, 0, 1, 2, 5, 7, 15, 16,
        39, 40, 50, 99, 200, 999, 9999, 99999, Integer.MAX_VALUE - 1, Integer.MAX_VALUE};

    private static final Due due = new Due("FaceTest");

    public static void main(String[] args) throws Exception {
        face();
        for (Method method : PerfumeOrgan.class.getDeclaredMethods()) {
            if (Modifier.isPublic(method.getModifiers())) {
                wildCalls(new PerfumeOrgan(), method);
                wildCalls(Due.organOf(1), method);
                wildCalls(filled(), method);
            }
        }
        due.end();
    }

    private static void face() {
        Set<String> want = new TreeSet<>(Set.of(METHODS));
        want.addAll(Set.of("int NONE", "int BAD", "int STATE", "int FULL", "long NO", "PerfumeOrgan()"));
        Set<String> got = new TreeSet<>();
        for (Method method : PerfumeOrgan.class.getDeclaredMethods()) {
            add(got, method.getModifiers(), method.toString().replaceAll(".*? (\\w+) PerfumeOrgan\\.", "$1 "));
        }
        for (Field field : PerfumeOrgan.class.getDeclaredFields()) {
            add(got, field.getModifiers(), field.getType() + " " + field.getName());
        }
        for (Constructor<?> constructor : PerfumeOrgan.class.getDeclaredConstructors()) {
            add(got, constructor.getModifiers(), constructor.toString().replace("public ", ""));
        }
        due.is("the face", got.toString(), want.toString());
        due.is("final", Modifier.isFinal(PerfumeOrgan.class.getModifiers()) ? 1 : 0, 1);
    }

    private static void add(Set<String> face, int modifiers, String member) {
        if (!Modifier.isPrivate(modifiers)) {
            face.add(member);
        }
    }

    private static PerfumeOrgan filled() {
        PerfumeOrgan x = Due.organOf(40);
        for (int i = 0; i < 40; i++) {
            x.drop(0, i, 9999);
            x.drop(1, i, i);
            x.fill(i, 99999);
        }
        for (int i = 0; i < 6; i++) {
            x.row(i, i % 3, 10 * i);
        }
        for (int i = 0; i < 30; i++) {
            x.order(1, 1, i % 10);
        }
        x.image();
        return x;
    }

    private static void wildCalls(PerfumeOrgan x, Method method) throws Exception {
        for (int first = 0; first < WILD.length; first++) {
            for (int step = 1; step < 6; step++) {
                Object[] arguments = new Object[method.getParameterCount()];
                for (int i = 0; i < arguments.length; i++) {
                    boolean isLong = method.getParameterTypes()[i] == long.class;
                    int wild = WILD[(first + i * step) % WILD.length];
                    arguments[i] = isLong ? (Object) (wild * 4294967296L) : wild;
                }
                due.is(method.getName() + " with wild arguments", answers(x, method, arguments) ? 1 : 0, 1);
            }
        }
    }

    private static boolean answers(PerfumeOrgan x, Method method, Object[] arguments) throws Exception {
        try {
            method.invoke(x, arguments);
            return true;
        } catch (InvocationTargetException e) {
            System.out.println(method.getName() + " threw " + e.getCause());
            return false;
        }
    }
}
