/** Promises 1 to 10: a new object, THE TAPE, notes. */
public final class NotesTest {
    private static final Due due = new Due("NotesTest");

    public static void main(String[] args) {
        promise1();
        promise2();
        promise3();
        promise4();
        promise4Faults();
        promise4Full();
        promise5();
        promise6();
        promise7();
        promise8();
        promise9();
        promise10();
        constants();
        due.end();
    }

    private static void promise1() {
        PerfumeOrgan x = new PerfumeOrgan();
        for (int what = 0; what <= 9; what++) {
            due.is("1 told(" + what + ")", x.told(what), 0);
        }
        due.is("1 of(0, 0)", x.of(0, 0), -1);
        due.is("1 limit(7, 0)", x.limit(7, 0), 1000);
        for (int row = 0; row < 6; row++) {
            due.is("1 set(row, 0, 1)", x.set(row, 0, 1), -11);
        }
        due.is("1 undo()", x.undo(), -3);
        due.is("1 inTurn(0)", x.inTurn(0), -1);
        due.is("1 book(0, 0)", x.book(0, 0), -1);
        due.is("1 paper(0)", x.paper(0), -1);
    }

    private static void promise2() {
        PerfumeOrgan x = new PerfumeOrgan();
        due.is("2 feed(0)", x.feed(0), -2);
        due.is("2 feed(-1)", x.feed(-1), -2);
        due.is("2 feed(128)", x.feed(128), -2);
        due.is("2 feed(353)", x.feed(353), -2);
        due.is("2 told(5)", x.told(5), 0);
        due.is("2 feed(1)", x.feed(1), 1);
        due.is("2 feed(127)", x.feed(127), 2);
        for (int i = 3; i <= 120; i++) {
            due.is("2 feed(97)", x.feed(97), i);
        }
        due.is("2 feed(0), full", x.feed(0), -2);
        due.is("2 feed(97), full", x.feed(97), -4);
        due.is("2 told(5), full", x.told(5), 120);
    }

    private static void promise3() {
        PerfumeOrgan x = new PerfumeOrgan();
        due.is("3 clear(), empty", x.clear(), 0);
        Due.feed(x, "abc");
        due.is("3 clear()", x.clear(), 3);
        due.is("3 told(5)", x.told(5), 0);
        due.is("3 clear() again", x.clear(), 0);
        due.is("3 feed", x.feed('q'), 1);
    }

    private static void promise4() {
        PerfumeOrgan x = new PerfumeOrgan();
        due.is("4 rose", Due.note(x, "rose", 7, 9999, 999), 0);
        due.is("4 the tape behind", x.told(5), 0);
        due.is("4 seven letters", Due.note(x, "jasmine", 0, 1, 1), 1);
        due.is("4 rose again", Due.note(x, "rose", 0, 1, 1), -3);
        due.is("4 the tape behind STATE", x.told(5), 0);
        due.is("4 a beginning of rose", Due.note(x, "ros", 3, 1, 1), 2);
        due.is("4 one letter", Due.note(x, "z", 3, 1, 1), 3);
        Due.feed(x, "new");
        due.is("4 family 8", x.note(8, 1, 1), -1);
        due.is("4 family -1", x.note(-1, 0, 0), -1);
        due.is("4 strength 0", x.note(0, 0, 1), -2);
        due.is("4 strength 10000", x.note(0, 10000, 1), -2);
        due.is("4 lasting 0", x.note(0, 1, 0), -2);
        due.is("4 lasting 1000", x.note(0, 1, 1000), -2);
        due.is("4 the tape stays", x.told(5), 3);
        due.is("4 the notes stay", x.told(0), 4);
        due.is("4 then", x.note(0, 1, 1), 4);
        due.is("4 told(0)", x.told(0), 5);
    }

    private static void promise4Faults() {
        PerfumeOrgan x = new PerfumeOrgan();
        due.is("4 no name", x.note(0, 1, 1), -100);
        due.is("4 eight letters", Due.note(x, "abcdefgh", 0, 1, 1), -107);
        due.is("4 the tape behind a fault", x.told(5), 0);
        due.is("4 twelve letters", Due.note(x, "abcdefghijkl", 0, 1, 1), -107);
        due.is("4 seven and a figure", Due.note(x, "abcdefg1", 0, 1, 1), -107);
        due.is("4 a figure within", Due.note(x, "abc1efgh", 0, 1, 1), -103);
        due.is("4 a capital", Due.note(x, "Rose", 0, 1, 1), -100);
        due.is("4 a blank behind", Due.note(x, "rose ", 0, 1, 1), -104);
        due.is("4 the sign ahead of a", Due.note(x, "`", 0, 1, 1), -100);
        due.is("4 the sign behind z", Due.note(x, "a{", 0, 1, 1), -101);
        due.is("4 a and z", Due.note(x, "az", 0, 1, 1), 0);
        Due.feed(x, "no name");
        due.is("4 NONE is ahead of a fault", x.note(8, 1, 1), -1);
        due.is("4 BAD is ahead of a fault", x.note(0, 0, 1), -2);
        due.is("4 the fault", x.note(0, 1, 1), -102);
        due.is("4 told(0)", x.told(0), 1);
    }

    private static void promise4Full() {
        PerfumeOrgan x = Due.organOf(40);
        due.is("4 told(0), full", x.told(0), 40);
        due.is("4 a fault is ahead of FULL", Due.note(x, "a1", 0, 1, 1), -101);
        due.is("4 STATE is ahead of FULL", Due.note(x, "an", 0, 1, 1), -3);
        due.is("4 FULL", Due.note(x, "new", 0, 1, 1), -4);
        due.is("4 the tape behind FULL", x.told(5), 0);
        due.is("4 told(0), full still", x.told(0), 40);
        due.is("4 the last one", Due.find(x, "an"), 39);
    }

    private static void promise5() {
        PerfumeOrgan x = new PerfumeOrgan();
        Due.note(x, "rose", 2, 250, 20);
        Due.note(x, "oud", 5, 9999, 999);
        Due.note(x, "lemon", 0, 1, 1);
        x.fill(1, 77);
        due.is("5 family", x.of(1, 0), 5);
        due.is("5 hundredths", x.of(1, 1), 9999);
        due.is("5 lasting", x.of(1, 2), 999);
        due.isFloat("5 strength 99.99", x.of(1, 3), 9999.0f / 100.0f);
        due.isFloat("5 strength 2.5", x.of(0, 3), 2.5f);
        due.isFloat("5 strength 0.01", x.of(2, 3), 1.0f / 100.0f);
        due.isFloat("5 keep of 999", x.of(1, 4), 999.0f / 1000.0f);
        due.isFloat("5 keep of 20", x.of(0, 4), 20.0f / 21.0f);
        due.isFloat("5 keep of 1", x.of(2, 4), 0.5f);
        due.is("5 place", x.of(0, 5), 1);
        due.is("5 place, last", x.of(1, 5), 2);
        due.is("5 place, first", x.of(2, 5), 0);
        due.is("5 stock", x.of(1, 6), 77);
        due.is("5 stock, none", x.of(2, 6), 0);
        due.is("5 what 7", x.of(0, 7), -1);
        due.is("5 what -1", x.of(0, -1), -1);
        due.is("5 note 3", x.of(3, 0), -1);
        due.is("5 note -1", x.of(-1, 0), -1);
    }

    private static void promise6() {
        PerfumeOrgan x = Due.organOf(2);
        due.is("6 lasting(1, 999)", x.lasting(1, 999), 9);
        due.is("6 of(1, 2)", x.of(1, 2), 999);
        due.isFloat("6 the keep", x.of(1, 4), 999.0f / 1000.0f);
        due.is("6 the place", x.of(1, 5), 0);
        due.is("6 the other's", x.of(0, 2), 9);
        due.is("6 lasting(1, 1)", x.lasting(1, 1), 999);
        due.is("6 lasting(1, 0)", x.lasting(1, 0), -2);
        due.is("6 lasting(1, 1000)", x.lasting(1, 1000), -2);
        due.is("6 lasting(2, 0)", x.lasting(2, 0), -1);
        due.is("6 lasting(-1, 5)", x.lasting(-1, 5), -1);
        due.is("6 of(1, 2), then", x.of(1, 2), 1);
    }

    private static void promise7() {
        PerfumeOrgan x = new PerfumeOrgan();
        Due.note(x, "zebrano", 0, 1, 1);
        Due.note(x, "a", 0, 1, 1);
        due.is("7 length", x.name(0, -1), 7);
        due.is("7 length of a", x.name(1, -1), 1);
        for (int i = 0; i < 7; i++) {
            due.is("7 letter " + i, x.name(0, i), "zebrano".charAt(i));
        }
        due.is("7 letter 7", x.name(0, 7), -1);
        due.is("7 letter 0 of a", x.name(1, 0), 'a');
        due.is("7 letter 1 of a", x.name(1, 1), -1);
        due.is("7 letter -2", x.name(0, -2), -1);
        due.is("7 note 2", x.name(2, -1), -1);
        due.is("7 note -1", x.name(-1, 0), -1);
    }

    private static void promise8() {
        PerfumeOrgan x = new PerfumeOrgan();
        Due.note(x, "rose", 0, 1, 1);
        Due.note(x, "roses", 0, 1, 1);
        Due.note(x, "jasmine", 0, 1, 1);
        due.is("8 roses", Due.find(x, "roses"), 1);
        due.is("8 the tape behind", x.told(5), 0);
        due.is("8 rose", Due.find(x, "rose"), 0);
        due.is("8 jasmine", Due.find(x, "jasmine"), 2);
        due.is("8 ros", Due.find(x, "ros"), -5);
        due.is("8 nothing", x.find(), -5);
        due.is("8 eight letters", Due.find(x, "jasmines"), -5);
        due.is("8 no name", Due.find(x, "rose;"), -5);
        due.is("8 the tape behind no name", x.told(5), 0);
    }

    private static void promise9() {
        PerfumeOrgan x = new PerfumeOrgan();
        due.is("9 byName(0), no notes", x.byName(0), -1);
        String[] names = {"m", "lz", "ma", "l", "zzzzzzz", "maaaaaa", "a"};
        int[] byName = {6, 3, 1, 0, 2, 5, 4};
        for (int i = 0; i < names.length; i++) {
            Due.note(x, names[i], i % 3, 1, 1 + i);
        }
        for (int i = 0; i < byName.length; i++) {
            due.is("9 byName(" + i + ")", x.byName(i), byName[i]);
        }
        due.is("9 byName(7)", x.byName(7), -1);
        due.is("9 byName(-1)", x.byName(-1), -1);
    }

    private static void promise10() {
        PerfumeOrgan x = new PerfumeOrgan();
        due.is("10 organ(0), no notes", x.organ(0), -1);
        Due.note(x, "b", 7, 1, 500);
        Due.note(x, "a", 7, 1, 500);
        Due.note(x, "ab", 7, 1, 500);
        Due.note(x, "z", 7, 1, 501);
        Due.note(x, "y", 0, 1, 1);
        Due.note(x, "x", 0, 1, 2);
        int[] organ = {5, 4, 3, 1, 2, 0};
        for (int i = 0; i < organ.length; i++) {
            due.is("10 organ(" + i + ")", x.organ(i), organ[i]);
            due.is("10 of(.., 5)", x.of(organ[i], 5), i);
        }
        due.is("10 organ(6)", x.organ(6), -1);
        due.is("10 organ(-1)", x.organ(-1), -1);
        x.lasting(0, 999);
        due.is("10 organ(2) behind lasting", x.organ(2), 0);
        due.is("10 organ(3) behind lasting", x.organ(3), 3);
    }

    private static void constants() {
        due.is("NONE", PerfumeOrgan.NONE, -1);
        due.is("BAD", PerfumeOrgan.BAD, -2);
        due.is("STATE", PerfumeOrgan.STATE, -3);
        due.is("FULL", PerfumeOrgan.FULL, -4);
        due.is("NO", PerfumeOrgan.NO, Long.MIN_VALUE);
    }
}
