/**
 * "Terms", the paragraph on answers: which of several comes first, that what is refused or asked
 * changes nothing, and when THE TAPE is empty or stays. Each call is made on an organ of its own.
 */
public final class AnswersTest {
    private interface Call {
        long on(PerfumeOrgan x);
    }

    private static final Due due = new Due("AnswersTest");
    private static final long NO = PerfumeOrgan.NO;
    private static final int NONE = -1, BAD = -2, STATE = -3, FULL = -4, NOT_FOUND = -5;
    private static final int NOTHING = -11, CAST = -12, BEYOND = -13, BELOW = -14;
    private static final String STATE_AS_SET_UP = state(organ());
    private static final String STATE_AS_KEPT = stateKept(organ());

    public static void main(String[] args) {
        refusedNotes();
        refusedBlends();
        refusedAsks();
        refusedScents();
        refusedOrders();
        refusedStock();
        refusedRows();
        refusedMoves();
        notFoundIsLast();
        refusedTexts();
        refusedNames();
        asksOfNotes();
        asksOfBlends();
        asksOfScents();
        asksOfTheRest();
        onlyWhatIsToldChanges();
        due.end();
    }

    /**
     * Three notes, blends 0 (too many to be doubled), 1, 2 (breaks a limit), 3 (of one note), 9 (of
     * more than there is), accord 0; orders that are open, off and done; rows of three sorts; a
     * paper, a tape, and an image that is of a little less.
     */
    private static PerfumeOrgan organ() {
        PerfumeOrgan x = new PerfumeOrgan();
        Due.note(x, "a", 1, 100, 9);
        Due.note(x, "b", 1, 250, 1);
        Due.note(x, "c", 2, 50, 30);
        Due.accord(x, 0, "a=2;b=1");
        x.limit(2, 500);
        x.fill(0, 60);
        x.fill(1, 70);
        x.fill(2, 99999);
        Due.drop(x, 1, 1, 2, 3);
        x.image();
        Due.drop(x, 0, 1, 5000, 9999);
        Due.drop(x, 2, 0, 1, 2);
        x.drop(3, 0, 1);
        x.drop(9, 1, 71);
        x.order(1, 2, 5);
        x.order(1, 1, 7);
        x.order(3, 1, 9);
        x.off(1);
        x.drop(1, 1, 999);
        x.serve();
        x.drop(1, 1, 2);
        x.row(0, 0, 2);
        x.set(0, 1, -7);
        x.row(1, 1, 4);
        x.set(1, 0, 333);
        x.row(2, 2, 0);
        x.row(5, 1, 1);
        x.spell(1);
        Due.feed(x, "a=1;c");
        return x;
    }

    /** All that can be asked for, but for the tape. Its limits are read last, by setting them. */
    private static String state(PerfumeOrgan x) {
        StringBuilder text = new StringBuilder();
        for (int note = 0; note < x.told(0); note++) {
            for (int what : new int[] {0, 1, 2, 6}) {
                text.append(x.of(note, what)).append(' ');
            }
        }
        for (int mixture : new int[] {0, 1, 2, 3, 4, 9, 15, 16, 21}) {
            text.append("| ").append(Due.drops(x, mixture)).append(' ');
        }
        for (int i = 0; i < x.told(3); i++) {
            text.append("b ").append(x.book(i, 0)).append(' ').append(x.book(i, 1)).append(' ');
        }
        for (int i = 0; i < x.told(8); i++) {
            text.append("o ").append(x.orderOf(i, 0)).append(' ').append(x.orderOf(i, 1)).append(' ')
                .append(x.orderOf(i, 2)).append(' ').append(x.orderOf(i, 3)).append(' ');
        }
        for (int row = 0; row < 6; row++) {
            text.append("r ").append(x.judge(row, -1, 0)).append(' ').append(Due.row(x, row)).append(' ');
        }
        text.append(Due.paper(x));
        for (int family = 0; family < 8; family++) {
            text.append(' ').append(x.limit(family, 1000));
        }
        return text.toString();
    }

    /** What THE IMAGE has. */
    private static String stateKept(PerfumeOrgan x) {
        x.undo();
        return state(x);
    }

    private static void nothingChanges(String said, Call call, long want, int bytes) {
        PerfumeOrgan x = organ();
        due.is(said, call.on(x), want);
        due.is("the tape behind " + said, x.told(5), bytes);
        due.is("the state behind " + said, state(x), STATE_AS_SET_UP);
        PerfumeOrgan y = organ();
        call.on(y);
        due.is("the image behind " + said, stateKept(y), STATE_AS_KEPT);
    }

    private static void is(String said, Call call, long want) {
        nothingChanges(said, call, want, 5);
    }

    private static void refusedNotes() {
        is("feed(0)", x -> x.feed(0), BAD);
        is("feed(128)", x -> x.feed(128), BAD);
        is("note(8, 1, 1)", x -> x.note(8, 1, 1), NONE);
        is("note(-1, 0, 0)", x -> x.note(-1, 0, 0), NONE);
        is("note(0, 0, 1)", x -> x.note(0, 0, 1), BAD);
        is("note(0, 10000, 1)", x -> x.note(0, 10000, 1), BAD);
        is("note(0, 1, 0)", x -> x.note(0, 1, 0), BAD);
        is("note(0, 1, 1000)", x -> x.note(0, 1, 1000), BAD);
        is("lasting(3, 0)", x -> x.lasting(3, 0), NONE);
        is("lasting(-1, 1)", x -> x.lasting(-1, 1), NONE);
        is("lasting(0, 0)", x -> x.lasting(0, 0), BAD);
        is("lasting(0, 1000)", x -> x.lasting(0, 1000), BAD);
        is("of(3, 9)", x -> x.of(3, 9), NONE);
        is("of(0, 7)", x -> x.of(0, 7), NONE);
        is("of(0, -1)", x -> x.of(0, -1), NONE);
        is("name(3, -1)", x -> x.name(3, -1), NONE);
        is("name(0, 1)", x -> x.name(0, 1), NONE);
        is("name(0, -2)", x -> x.name(0, -2), NONE);
        is("byName(3)", x -> x.byName(3), NONE);
        is("organ(3)", x -> x.organ(3), NONE);
    }

    private static void refusedBlends() {
        is("recipe(16)", x -> x.recipe(16), NONE);
        is("recipe(-1)", x -> x.recipe(-1), NONE);
        is("accord(6)", x -> x.accord(6), NONE);
        is("accord(-1)", x -> x.accord(-1), NONE);
        is("drop(16, 3, -1)", x -> x.drop(16, 3, -1), NONE);
        is("drop(0, 3, -1)", x -> x.drop(0, 3, -1), NONE);
        is("drop(0, -1, 1)", x -> x.drop(0, -1, 1), NONE);
        is("drop(0, 0, -1)", x -> x.drop(0, 0, -1), BAD);
        is("drop(0, 0, 10000)", x -> x.drop(0, 0, 10000), BAD);
        is("copy(22, 0)", x -> x.copy(22, 0), NONE);
        is("copy(-1, 0)", x -> x.copy(-1, 0), NONE);
        is("copy(0, 16)", x -> x.copy(0, 16), NONE);
        is("copy(0, -1)", x -> x.copy(0, -1), NONE);
        is("scale(16, -1)", x -> x.scale(16, -1), NONE);
        is("scale(4, 10000)", x -> x.scale(4, 10000), BAD);
        is("scale(0, -1)", x -> x.scale(0, -1), BAD);
        is("scale(4, 5)", x -> x.scale(4, 5), STATE);
        is("mix(16, 0)", x -> x.mix(16, 0), NONE);
        is("mix(0, 16)", x -> x.mix(0, 16), NONE);
        is("mix(0, 0)", x -> x.mix(0, 0), FULL);
        is("mix(0, 2)", x -> x.mix(0, 2), FULL);
        is("mix(2, 0)", x -> x.mix(2, 0), FULL);
        is("replace(16, 0, 1)", x -> x.replace(16, 0, 1), NONE);
        is("replace(0, 3, 1)", x -> x.replace(0, 3, 1), NONE);
        is("replace(0, 1, 3)", x -> x.replace(0, 1, 3), NONE);
        is("replace(0, 1, 2)", x -> x.replace(0, 1, 2), FULL);
        is("replace(0, 2, 0)", x -> x.replace(0, 2, 0), FULL);
    }

    private static void refusedAsks() {
        is("drops(22, 0)", x -> x.drops(22, 0), NONE);
        is("drops(0, 3)", x -> x.drops(0, 3), NONE);
        is("blend(16, 0)", x -> x.blend(16, 0), NONE);
        is("blend(0, 7)", x -> x.blend(0, 7), NONE);
        is("spell(16)", x -> x.spell(16), NONE);
        is("spell(-1)", x -> x.spell(-1), NONE);
        is("differ(16, 0)", x -> x.differ(16, 0), NONE);
        is("differ(0, 16)", x -> x.differ(0, 16), NONE);
        is("paper(11)", x -> x.paper(11), NONE);
        is("paper(-1)", x -> x.paper(-1), NONE);
        is("turn(0, 9)", x -> x.turn(0, 9), NONE);
        is("turn(16, 0)", x -> x.turn(16, 0), NONE);
        is("nearer(16, 0)", x -> x.nearer(16, 0), NONE);
        is("nearer(0, 16)", x -> x.nearer(0, 16), NONE);
        is("thin(16)", x -> x.thin(16), NONE);
        is("substitute(3)", x -> x.substitute(3), NONE);
        is("rank(8, 0)", x -> x.rank(8, 0), NONE);
        is("rank(0, 5)", x -> x.rank(0, 5), NONE);
        is("book(1, 0)", x -> x.book(1, 0), NONE);
        is("book(0, 3)", x -> x.book(0, 3), NONE);
        is("told(10)", x -> x.told(10), NONE);
        is("told(-1)", x -> x.told(-1), NONE);
    }

    private static void refusedScents() {
        is("share(16, 0)", x -> x.share(16, 0), NO);
        is("share(0, 3)", x -> x.share(0, 3), NO);
        is("weight(16, 0, 0)", x -> x.weight(16, 0, 0), NO);
        is("weight(0, 3, 0)", x -> x.weight(0, 3, 0), NO);
        is("weight(0, 0, 201)", x -> x.weight(0, 0, 201), NO);
        is("scent(16, -1, 0)", x -> x.scent(16, -1, 0), NO);
        is("scent(0, 8, 0)", x -> x.scent(0, 8, 0), NO);
        is("scent(0, -2, 0)", x -> x.scent(0, -2, 0), NO);
        is("scent(0, 0, -1)", x -> x.scent(0, 0, -1), NO);
        is("thousandths(16, 0)", x -> x.thousandths(16, 0), NO);
        is("thousandths(0, 201)", x -> x.thousandths(0, 201), NO);
        is("distance(16, 0)", x -> x.distance(16, 0), NO);
        is("distance(0, 16)", x -> x.distance(0, 16), NO);
        is("wide(16, 0, 0)", x -> x.wide(16, 0, 0), NO);
        is("wide(0, 201, 0)", x -> x.wide(0, 201, 0), NO);
        is("wide(0, 0, 2)", x -> x.wide(0, 0, 2), NO);
        is("area(16, 0)", x -> x.area(16, 0), NO);
        is("area(0, -1)", x -> x.area(0, -1), NO);
        is("leads(0, 201)", x -> x.leads(0, 201), NONE);
        is("faded(16, -1)", x -> x.faded(16, -1), NONE);
        is("faded(0, 1001)", x -> x.faded(0, 1001), BAD);
    }

    private static void refusedOrders() {
        is("order(16, 0, 10)", x -> x.order(16, 0, 10), NONE);
        is("order(0, 0, 1)", x -> x.order(0, 0, 1), BAD);
        is("order(0, 100, 1)", x -> x.order(0, 100, 1), BAD);
        is("order(0, 1, 10)", x -> x.order(0, 1, 10), BAD);
        is("order(0, 1, -1)", x -> x.order(0, 1, -1), BAD);
        is("off(3)", x -> x.off(3), NONE);
        is("off(-1)", x -> x.off(-1), NONE);
        is("off(1), which is off", x -> x.off(1), STATE);
        is("off(2), which is done", x -> x.off(2), STATE);
        is("urge(3, 10)", x -> x.urge(3, 10), NONE);
        is("urge(0, 10)", x -> x.urge(0, 10), BAD);
        is("urge(0, -1)", x -> x.urge(0, -1), BAD);
        is("urge(1, 10), which is off", x -> x.urge(1, 10), BAD);
        is("urge(1, 1), which is off", x -> x.urge(1, 1), STATE);
        is("urge(2, 1), which is done", x -> x.urge(2, 1), STATE);
        is("orderOf(3, 0)", x -> x.orderOf(3, 0), NONE);
        is("orderOf(0, 4)", x -> x.orderOf(0, 4), NONE);
        is("inTurn(1)", x -> x.inTurn(1), NONE);
    }

    private static void refusedStock() {
        is("limit(8, -1)", x -> x.limit(8, -1), NONE);
        is("limit(2, 1001)", x -> x.limit(2, 1001), BAD);
        is("limit(2, -1)", x -> x.limit(2, -1), BAD);
        is("fill(3, -1)", x -> x.fill(3, -1), NONE);
        is("fill(2, -1)", x -> x.fill(2, -1), BAD);
        is("fill(2, 100000)", x -> x.fill(2, 100000), BAD);
        is("fill(2, 1)", x -> x.fill(2, 1), FULL);
        is("fill(0, 99941)", x -> x.fill(0, 99941), FULL);
        is("make(16, 0)", x -> x.make(16, 0), NONE);
        is("make(4, 0), empty", x -> x.make(4, 0), BAD);
        is("make(2, 100), which breaks a limit", x -> x.make(2, 100), BAD);
        is("make(4, 1), empty", x -> x.make(4, 1), STATE);
        is("make(2, 1), which breaks a limit", x -> x.make(2, 1), STATE);
        is("make(9, 1), too few", x -> x.make(9, 1), STATE);
        is("lacks(16, 0)", x -> x.lacks(16, 0), NONE);
        is("lacks(4, 0), empty", x -> x.lacks(4, 0), BAD);
        is("lacks(0, 100)", x -> x.lacks(0, 100), BAD);
        is("most(16)", x -> x.most(16), NONE);
        is("most(4), empty", x -> x.most(4), STATE);
    }

    private static void refusedRows() {
        is("row(6, 3, -1)", x -> x.row(6, 3, -1), NONE);
        is("row(0, 3, 51)", x -> x.row(0, 3, 51), NONE);
        is("row(0, -1, 1)", x -> x.row(0, -1, 1), NONE);
        is("row(0, 0, 51)", x -> x.row(0, 0, 51), BAD);
        is("row(0, 0, -1)", x -> x.row(0, 0, -1), BELOW);
        is("row(3, 0, -1)", x -> x.row(3, 0, -1), BELOW);
        is("set(6, 0, 1)", x -> x.set(6, 0, 1), NONE);
        is("set(3, -1, 1)", x -> x.set(3, -1, 1), NOTHING);
        is("set(0, 2, 1)", x -> x.set(0, 2, 1), BEYOND);
        is("set(0, -1, 1)", x -> x.set(0, -1, 1), BEYOND);
        is("set(2, 0, 1)", x -> x.set(2, 0, 1), BEYOND);
        is("get(6, 0)", x -> x.get(6, 0), NO);
        is("get(3, 0)", x -> x.get(3, 0), NO);
        is("get(0, 2)", x -> x.get(0, 2), NO);
        is("twin(6, 0)", x -> x.twin(6, 0), NONE);
        is("twin(3, 6)", x -> x.twin(3, 6), NONE);
        is("twin(3, 0)", x -> x.twin(3, 0), NOTHING);
        is("lay(6, 0, 16)", x -> x.lay(6, 0, 16), NONE);
        is("lay(3, 0, 16)", x -> x.lay(3, 0, 16), NONE);
        is("lay(3, -1, 0)", x -> x.lay(3, -1, 0), NOTHING);
        is("lay(1, -1, 0)", x -> x.lay(1, -1, 0), BEYOND);
        is("lay(1, 4, 0)", x -> x.lay(1, 4, 0), BEYOND);
        is("lay(2, 0, 0)", x -> x.lay(2, 0, 0), BEYOND);
        is("judge(3, -1, 16)", x -> x.judge(3, -1, 16), NONE);
        is("judge(3, -1, 0)", x -> x.judge(3, -1, 0), NOTHING);
        is("judge(1, -1, 0)", x -> x.judge(1, -1, 0), 100);
        is("judge(2, 0, 0)", x -> x.judge(2, 0, 0), 100);
    }

    private static void refusedMoves() {
        is("move(6, 0, 3, 0, 1)", x -> x.move(6, 0, 3, 0, 1), NONE);
        is("move(3, 0, -1, 0, 1)", x -> x.move(3, 0, -1, 0, 1), NONE);
        is("move(3, -1, 0, 0, 1)", x -> x.move(3, -1, 0, 0, 1), NOTHING);
        is("move(0, 0, 3, -1, 1)", x -> x.move(0, 0, 3, -1, 1), NOTHING);
        is("move(0, -1, 1, 0, 1)", x -> x.move(0, -1, 1, 0, 1), CAST);
        is("move(0, 0, 1, 0, 0)", x -> x.move(0, 0, 1, 0, 0), CAST);
        is("move(1, -1, 5, 0, 1)", x -> x.move(1, -1, 5, 0, 1), BEYOND);
        is("move(1, 0, 5, -1, 1)", x -> x.move(1, 0, 5, -1, 1), BEYOND);
        is("move(1, 0, 5, 0, -1)", x -> x.move(1, 0, 5, 0, -1), BEYOND);
        is("move(1, 4, 5, 0, 1)", x -> x.move(1, 4, 5, 0, 1), BEYOND);
        is("move(1, 0, 5, 0, 2)", x -> x.move(1, 0, 5, 0, 2), BEYOND);
        is("move(1, 0, 5, 1, 0)", x -> x.move(1, 0, 5, 1, 0), 0);
    }

    // -5 is told only where none of them is
    private static void notFoundIsLast() {
        is("leads(4, 0), empty", x -> x.leads(4, 0), NOT_FOUND);
        is("leads(4, 201), empty", x -> x.leads(4, 201), NONE);
        is("leads(4, -1), empty", x -> x.leads(4, -1), NONE);
        is("faded(4, 1000), empty", x -> x.faded(4, 1000), NOT_FOUND);
        is("faded(4, 1001), empty", x -> x.faded(4, 1001), BAD);
        is("nearer(4, 4), empty", x -> x.nearer(4, 4), NOT_FOUND);
        is("nearer(4, 16), empty", x -> x.nearer(4, 16), NONE);
        is("nearer(16, 4), empty", x -> x.nearer(16, 4), NONE);
        is("thin(3)", x -> x.thin(3), NOT_FOUND);
        is("substitute(2)", x -> x.substitute(2), NOT_FOUND);
        is("lacks(4, 99), empty", x -> x.lacks(4, 99), NOT_FOUND);
        is("lacks(4, 100), empty", x -> x.lacks(4, 100), BAD);
        is("judge(1, 0, 4)", x -> x.set(1, 0, 333) + x.judge(1, 1, 4), NOT_FOUND + 1);
        is("judge(1, 1, 16)", x -> x.judge(1, 1, 16), NONE);
    }

    /** What is on the tape is taken off ahead of the call. */
    private static Call behind(String text, Call call) {
        return x -> {
            x.clear();
            Due.feed(x, text);
            return call.on(x);
        };
    }

    private static void read(String text, Call call, long want) {
        nothingChanges("with " + text + " on the tape", behind(text, call), want, 0);
    }

    // THE TAPE is empty behind each call that reads it
    private static void refusedTexts() {
        read("", x -> x.recipe(0), -100);
        read("a", x -> x.recipe(0), -101);
        read("a=1;d=1", x -> x.recipe(1), -104);
        read("a=1;@6=1", x -> x.recipe(1), -105);
        read("a=9;b-9", x -> x.recipe(1), -2001);
        read("a=9;@1=1", x -> x.recipe(1), -2001);
        read("c+1", x -> x.recipe(0), -2000);
        read("%5", x -> x.recipe(4), -2000);
        read("", x -> x.accord(0), -100);
        read("a=1;@0=1", x -> x.accord(0), -104);
        read("a=9;b-9", x -> x.accord(0), -2001);
        read("%5", x -> x.accord(5), -2000);
        nothingChanges("recipe(16) behind a recipe", behind("a=1", x -> x.recipe(16)), NONE, 3);
        nothingChanges("accord(6) behind a recipe", behind("a=1", x -> x.accord(6)), NONE, 3);
    }

    private static void refusedNames() {
        read("", x -> x.note(0, 1, 1), -100);
        read("abcdefgh", x -> x.note(0, 1, 1), -107);
        read("d1", x -> x.note(0, 1, 1), -101);
        read("a", x -> x.note(0, 1, 1), STATE);
        read("", x -> x.find(), NOT_FOUND);
        read("d", x -> x.find(), NOT_FOUND);
        read("c=", x -> x.find(), NOT_FOUND);
        read("c", x -> x.find(), 2);
        nothingChanges("note(8, ..) with a fault", behind("d1", x -> x.note(8, 0, 1)), NONE, 2);
        nothingChanges("note(0, 0, ..) with a fault", behind("d1", x -> x.note(0, 0, 1)), BAD, 2);
        nothingChanges("note(0, 0, ..) of a name that is there", behind("a", x -> x.note(0, 1, 0)), BAD, 1);
        nothingChanges("clear()", x -> x.clear(), 5, 0);
        nothingChanges("feed(1)", x -> x.feed(1), 6, 6);
        PerfumeOrgan full = Due.organOf(40);
        due.is("a fault is ahead of FULL", Due.note(full, "", 0, 1, 1), -100);
        due.is("STATE is ahead of FULL", Due.note(full, "a", 0, 1, 1), STATE);
        due.is("BAD is ahead of FULL", Due.note(full, "new", 0, 1, 0), BAD);
        due.is("the tape stays", full.told(5), 3);
        due.is("FULL", full.note(0, 1, 1), FULL);
        due.is("the tape is empty", full.told(5), 0);
    }

    // what is asked changes nothing
    private static void asksOfNotes() {
        for (int what = 0; what < 7; what++) {
            int of = what;
            is("of(1, " + what + ")", x -> Math.min(x.of(1, of), 0), 0);
        }
        is("name(0, 0)", x -> x.name(0, 0), 'a');
        is("name(0, -1)", x -> x.name(0, -1), 1);
        is("byName(2)", x -> x.byName(2), 2);
        is("organ(0)", x -> x.organ(0), 0);
        is("substitute(0)", x -> x.substitute(0), 1);
        for (int what = 0; what < 10; what++) {
            int told = what;
            is("told(" + what + ")", x -> Math.min(x.told(told), 0), 0);
        }
    }

    private static void asksOfBlends() {
        for (int what = 0; what < 7; what++) {
            int of = what;
            is("blend(0, " + what + ")", x -> Math.min(x.blend(0, of), 0), 0);
        }
        is("drops(0, 2)", x -> x.drops(0, 2), 9999);
        is("paper(0)", x -> x.paper(0), 'a');
        is("rank(2, 0), 2 of 3", x -> x.rank(2, 0), 2);
        is("rank(2, 1), 9999 of 15000", x -> x.rank(2, 1), 0);
        is("copy(1, 1)", x -> x.copy(1, 1), 6);
        is("scale(1, 6)", x -> x.scale(1, 6), 3);
        is("mix(1, 4)", x -> x.mix(1, 4), 6);
        is("replace(0, 2, 2)", x -> x.replace(0, 2, 2), 15000);
        is("replace(3, 1, 2)", x -> x.replace(3, 1, 2), 1);
        is("drop(1, 1, 2)", x -> x.drop(1, 1, 2), 2);
        is("spell(1)", x -> x.spell(1), 11);
    }

    private static void asksOfScents() {
        is("share(1, 1)", x -> x.share(1, 1), Float.floatToIntBits(2.0f / 6.0f));
        is("weight(1, 1, 1)", x -> x.weight(1, 1, 1), Float.floatToIntBits(2.5f));
        is("scent(1, 2, 0)", x -> x.scent(1, 2, 0), Float.floatToIntBits(1.5f));
        is("scent(1, -1, 0)", x -> x.scent(1, -1, 0), Float.floatToIntBits(7.5f));
        is("thousandths(1, 0)", x -> x.thousandths(1, 0), 7500);
        is("leads(1, 0)", x -> x.leads(1, 0), 1);
        is("turn(1, 0)", x -> Math.min(x.turn(1, 0), 0), 0);
        is("faded(1, 500)", x -> Math.min(x.faded(1, 500), 0), 0);
        is("distance(3, 9)", x -> x.distance(3, 9), Float.floatToIntBits(2.0f));
        is("nearer(1, 0)", x -> Math.min(x.nearer(1, 0), 0), 0);
        is("wide(1, 0, 0)", x -> x.wide(1, 0, 0), Double.doubleToLongBits(2.5) >>> 32);
        is("area(1, 0)", x -> x.area(1, 0), Float.floatToIntBits(7.5f));
        is("thin(1)", x -> x.thin(1), 0);
    }

    private static void asksOfTheRest() {
        is("orderOf(0, 0)", x -> x.orderOf(0, 0), 1);
        is("inTurn(0)", x -> x.inTurn(0), 0);
        is("urge(0, 5), as it was", x -> x.urge(0, 5), 5);
        is("limit(2, 500), as it was", x -> x.limit(2, 500), 500);
        is("fill(2, 0)", x -> x.fill(2, 0), 99999);
        is("lacks(9, 1)", x -> x.lacks(9, 1), 1);
        is("most(1)", x -> x.most(1), 35);
        is("book(0, 2)", x -> x.book(0, 2), 1);
        is("get(1, 0)", x -> x.get(1, 0), 333);
        is("judge(1, 0, 1)", x -> x.judge(1, 0, 1), 0);
        is("twin(1, 1)", x -> x.twin(1, 1), 4);
        is("move(1, 0, 1, 0, 4)", x -> x.move(1, 0, 1, 0, 4), 4);
        is("set(0, 1, -7), as it was", x -> x.set(0, 1, -7), 1);
    }

    private static void changes(String said, Call call, long want, String from, String to) {
        PerfumeOrgan x = organ();
        due.is(said, call.on(x), want);
        due.is("the state has that", STATE_AS_SET_UP.contains(from) ? 1 : 0, 1);
        due.is("the state behind " + said, state(x), STATE_AS_SET_UP.replace(from, to));
    }

    // .. changes nothing but THE PAPER, ROWS into which it is LAID; but ROWS by BEYOND, as told
    private static void onlyWhatIsToldChanges() {
        changes("spell(3)", x -> x.spell(3), 3, "a=1;b=2;c=3", "a=1");
        changes("spell(4)", x -> x.spell(4), 0, "a=1;b=2;c=3", "");
        changes("differ(1, 3)", x -> x.differ(1, 3), 7, "a=1;b=2;c=3", "b=0;c=0");
        changes("lay(1, 1, 3)", x -> x.lay(1, 1, 3), 3, "r 100 333 0 0 0 ", "r 100 333 1000 0 0 ");
        changes("lay(1, 3, 3)", x -> x.lay(1, 3, 3), BEYOND, "r 100 333 0 0 0 ", "r 100 333 0 0 1000 ");
        changes("lay(0, 0, 3)", x -> x.lay(0, 0, 3), BEYOND, "r 100 0 -7 ", "r 100 -24 0 ");
        changes("drop(15, 2, 8)", x -> x.drop(15, 2, 8), 0, "| 0 71 0 | 0 0 0 ", "| 0 71 0 | 0 0 8 ");
        changes("copy(16, 4)", x -> x.copy(16, 4), 3, "| 0 0 0 | 0 71 0 ", "| 2 1 0 | 0 71 0 ");
        changes("off(0)", x -> x.off(0), 1, "o 1 2 5 0 ", "o 1 2 5 2 ");
        changes("urge(0, 0)", x -> x.urge(0, 0), 5, "o 1 2 5 0 ", "o 1 2 0 0 ");
        changes("row(3, 2, 1)", x -> x.row(3, 2, 1), 1, "r -11  r -11  ", "r 100 0 r -11  ");
        changes("set(0, 0, 5)", x -> x.set(0, 0, 5), 1, "r 100 0 -7 ", "r 100 5 -7 ");
        changes("lasting(1, 2)", x -> x.lasting(1, 2), 1, "1 250 1 70 ", "1 250 2 70 ");
        changes("fill(1, 9)", x -> x.fill(1, 9), 79, "1 250 1 70 ", "1 250 1 79 ");
        changes("limit(2, 0)", x -> x.limit(2, 0), 500, " 500 ", " 0 ");
        PerfumeOrgan x = organ();
        due.is("serve()", x.serve(), 1);
        due.is("the state behind serve()", state(x), STATE_AS_SET_UP.replace("1 100 9 59 1 250 1 70 2 50 30 99999 ",
            "1 100 9 57 1 250 1 66 2 50 30 99993 ").replace("b 3 1 o 1 2 5 0 ", "b 1 2 b 3 1 o 1 2 5 1 "));
    }
}
