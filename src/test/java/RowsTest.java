/** Promises 50 to 58: rows, THE IMAGE. */
public final class RowsTest {
    private static final Due due = new Due("RowsTest");
    private static final long NO = PerfumeOrgan.NO;
    private static final int NOTHING = -11, CAST = -12, BEYOND = -13, BELOW = -14;

    public static void main(String[] args) {
        promise50();
        promise51();
        promise51Floats();
        promise52();
        promise53();
        promise53Beyond();
        promise54();
        promise55();
        promise55Beyond();
        promise56();
        promise57();
        promise58();
        promise58Twice();
        promise58FullBook();
        due.end();
    }

    private static void promise50() {
        PerfumeOrgan x = new PerfumeOrgan();
        due.is("50 row(0, 0, 50)", x.row(0, 0, 50), 1);
        due.is("50 fifty items", Due.row(x, 0).length(), 99);
        due.is("50 row(5, 2, 3)", x.row(5, 2, 3), 1);
        due.is("50 all 0", Due.row(x, 5), "0 0 0");
        x.set(5, 2, 8);
        due.is("50 row(5, 0, 3)", x.row(5, 0, 3), 1);
        due.is("50 all 0 again", Due.row(x, 5), "0 0 0");
        due.is("50 row(1, 1, 0)", x.row(1, 1, 0), 1);
        due.is("50 no items", x.get(1, 0), NO);
        due.is("50 set in an empty row", x.set(1, 0, 1), BEYOND);
        due.is("50 row(6, 0, -1)", x.row(6, 0, -1), -1);
        due.is("50 row(-1, 0, 1)", x.row(-1, 0, 1), -1);
        due.is("50 row(0, 3, 51)", x.row(0, 3, 51), -1);
        due.is("50 row(0, -1, 1)", x.row(0, -1, 1), -1);
        due.is("50 row(0, 0, 51)", x.row(0, 0, 51), -2);
        due.is("50 row(0, 0, -1)", x.row(0, 0, -1), BELOW);
        due.is("50 row(0, 0, least)", x.row(0, 0, Integer.MIN_VALUE), BELOW);
        due.is("50 nothing is changed", Due.row(x, 0).length(), 99);
        due.is("50 row(2, 0, -1)", x.row(2, 0, -1), BELOW);
        due.is("50 no row still", x.set(2, 0, 0), NOTHING);
    }

    private static void promise51() {
        PerfumeOrgan x = new PerfumeOrgan();
        x.row(0, 0, 4);
        x.row(1, 1, 4);
        long[] values = {127, 128, -129, 0x123456789AL};
        long[] bytes = {127, -128, 127, (byte) 0x9A};
        long[] ints = {127, 128, -129, 0x3456789A};
        for (int i = 0; i < 4; i++) {
            due.is("51 set a byte", x.set(0, i, values[i]), 1);
            due.is("51 a byte of " + values[i], x.get(0, i), bytes[i]);
            due.is("51 set an int", x.set(1, i, values[i]), 1);
            due.is("51 an int of " + values[i], x.get(1, i), ints[i]);
        }
        x.set(1, 0, 0x80000000L);
        due.is("51 the least int", x.get(1, 0), Integer.MIN_VALUE);
        due.is("51 set(0, 4, 1)", x.set(0, 4, 1), BEYOND);
        due.is("51 set(0, -1, 1)", x.set(0, -1, 1), BEYOND);
        due.is("51 set(2, 0, 1)", x.set(2, 0, 1), NOTHING);
        due.is("51 set(2, -1, 1)", x.set(2, -1, 1), NOTHING);
        due.is("51 set(6, 0, 1)", x.set(6, 0, 1), -1);
        due.is("51 set(-1, 0, 1)", x.set(-1, 0, 1), -1);
    }

    private static void promise51Floats() {
        PerfumeOrgan x = new PerfumeOrgan();
        x.row(0, 2, 1);
        long[] values = {0, 1, -1, 2, 3, 5, -7, 10, 16777215, 16777216, 16777217, 16777219, -16777219,
            33554433, 1L << 40, (1L << 40) + 1, 0x7FFFFF80L, 0x7FFFFFBFL, 0x7FFFFFC0L, 123456789012345L,
            -123456789012345L, Long.MAX_VALUE, Long.MIN_VALUE, Long.MIN_VALUE + 1, Long.MAX_VALUE / 3};
        for (long value : values) {
            x.set(0, 0, value);
            due.isFloat("51 a float of " + value, x.get(0, 0), (float) value);
        }
    }

    private static void promise52() {
        PerfumeOrgan x = new PerfumeOrgan();
        due.is("52 nothing there", x.get(0, 0), NO);
        x.row(0, 1, 2);
        x.set(0, 1, -6);
        due.is("52 get(0, 1)", x.get(0, 1), -6);
        due.is("52 get(0, 0)", x.get(0, 0), 0);
        due.is("52 get(0, 2)", x.get(0, 2), NO);
        due.is("52 get(0, -1)", x.get(0, -1), NO);
        due.is("52 get(6, 0)", x.get(6, 0), NO);
        due.is("52 get(-1, 0)", x.get(-1, 0), NO);
        x.row(5, 2, 1);
        x.set(5, 0, 3);
        due.isFloat("52 a float", x.get(5, 0), 3.0f);
    }

    private static void number(PerfumeOrgan x, int row, int from, int items) {
        for (int i = 0; i < items; i++) {
            x.set(row, i, from + i);
        }
    }

    private static void promise53() {
        PerfumeOrgan x = new PerfumeOrgan();
        x.row(0, 0, 5);
        x.row(1, 0, 3);
        x.row(2, 1, 5);
        number(x, 0, 1, 5);
        number(x, 1, 11, 3);
        due.is("53 move(0, 3, 1, 0, 2)", x.move(0, 3, 1, 0, 2), 2);
        due.is("53 the other row", Due.row(x, 1), "4 5 13");
        due.is("53 the row", Due.row(x, 0), "1 2 3 4 5");
        due.is("53 in itself, on", x.move(0, 0, 0, 1, 4), 4);
        due.is("53 as they were before", Due.row(x, 0), "1 1 2 3 4");
        due.is("53 in itself, back", x.move(0, 1, 0, 0, 4), 4);
        due.is("53 as they were before, too", Due.row(x, 0), "1 2 3 4 4");
        due.is("53 of unlike sorts", x.move(0, 0, 2, 0, 1), CAST);
        due.is("53 CAST is ahead of BEYOND", x.move(0, 9, 2, -1, -1), CAST);
        due.is("53 nothing here", x.move(3, 9, 0, 0, 1), NOTHING);
        due.is("53 nothing there", x.move(0, 9, 3, 0, 1), NOTHING);
        due.is("53 move(6, ..)", x.move(6, 0, 0, 0, 1), -1);
        due.is("53 move(-1, ..)", x.move(-1, 0, 0, 0, 1), -1);
        due.is("53 move(.., 6, ..)", x.move(3, 0, 6, 0, 1), -1);
        due.is("53 move(.., -1, ..)", x.move(0, 0, -1, 0, 1), -1);
        x.row(4, 2, 1);
        x.row(5, 2, 1);
        x.set(4, 0, 5);
        due.is("53 floats", x.move(4, 0, 5, 0, 1), 1);
        due.isFloat("53 a float", x.get(5, 0), 5.0f);
    }

    private static void promise53Beyond() {
        PerfumeOrgan x = new PerfumeOrgan();
        x.row(0, 0, 5);
        x.row(1, 0, 3);
        number(x, 0, 1, 5);
        int least = Integer.MIN_VALUE;
        int most = Integer.MAX_VALUE;
        int[][] calls = {{4, 0, 2}, {0, 2, 2}, {0, 0, 4}, {-1, 0, 1}, {0, -1, 1}, {0, 0, -1}, {6, 0, 0},
            {0, 4, 0}, {most, 0, 1}, {0, most, 1}, {0, 0, most}, {most, 0, most}, {1, 1, most},
            {least, 0, 0}, {0, least, 0}, {0, 0, least}, {5, 0, 1}, {0, 3, 1}, {-1, 0, 0}, {0, -1, 0}};
        for (int[] call : calls) {
            due.is("53 move(0, " + call[0] + ", 1, " + call[1] + ", " + call[2] + ")",
                x.move(0, call[0], 1, call[1], call[2]), BEYOND);
        }
        due.is("53 nothing is changed", Due.row(x, 1), "0 0 0");
        due.is("53 none, at the ends", x.move(0, 5, 1, 3, 0), 0);
        due.is("53 as many as may be", x.move(0, 2, 1, 0, 3), 3);
        due.is("53 then", Due.row(x, 1), "3 4 5");
    }

    private static void promise54() {
        PerfumeOrgan x = new PerfumeOrgan();
        x.row(0, 2, 3);
        x.set(0, 2, 4);
        x.row(1, 0, 9);
        due.is("54 twin(0, 1)", x.twin(0, 1), 3);
        due.isFloat("54 like it", x.get(1, 2), 4.0f);
        due.is("54 its size", x.get(1, 3), NO);
        x.set(1, 0, 6);
        due.is("54 its own", x.get(0, 0), 0);
        x.set(0, 1, 7);
        due.is("54 its own, too", x.get(1, 1), 0);
        due.is("54 one sort", x.move(0, 0, 1, 0, 3), 3);
        due.is("54 the same", x.twin(0, 0), 3);
        due.isFloat("54 the same as it was", x.get(0, 2), 4.0f);
        due.is("54 nothing", x.twin(5, 0), NOTHING);
        due.isFloat("54 nothing is changed", x.get(0, 2), 4.0f);
        due.is("54 into nothing", x.twin(0, 5), 3);
        due.is("54 twin(6, 0)", x.twin(6, 0), -1);
        due.is("54 twin(-1, 0)", x.twin(-1, 0), -1);
        due.is("54 twin(4, 6)", x.twin(4, 6), -1);
        due.is("54 twin(0, -1)", x.twin(0, -1), -1);
        x.row(2, 1, 0);
        due.is("54 an empty row", x.twin(2, 3), 0);
        due.is("54 an empty row is there", x.set(3, 0, 1), BEYOND);
    }

    private static void promise55() {
        PerfumeOrgan x = Due.organOf(3);
        Due.drop(x, 2, 5, 3, 1);
        x.row(0, 0, 5);
        x.row(1, 1, 5);
        x.row(2, 2, 5);
        number(x, 0, 1, 5);
        due.is("55 bytes", x.lay(0, 1, 2), 3);
        due.is("55 the bytes", Due.row(x, 0), "1 " + (byte) 555 + " " + (byte) 333 + " 111 5");
        due.is("55 ints", x.lay(1, 2, 2), 3);
        due.is("55 the ints", Due.row(x, 1), "0 0 555 333 111");
        due.is("55 floats", x.lay(2, 0, 2), 3);
        due.isFloat("55 a float", x.get(2, 0), 5.0f / 9.0f);
        due.isFloat("55 a float, then", x.get(2, 1), 3.0f / 9.0f);
        due.isFloat("55 a float, last", x.get(2, 2), 1.0f / 9.0f);
        due.is("55 behind them", x.get(2, 3), 0);
        due.is("55 an empty blend", x.lay(1, 2, 3), 3);
        due.is("55 noughts", Due.row(x, 1), "0 0 0 0 0");
        x.drop(4, 0, 1);
        due.is("55 the whole", x.lay(0, 0, 4), 3);
        due.is("55 the whole as a byte", x.get(0, 0), (byte) 1000);
        due.is("55 nothing", x.lay(3, -1, 0), NOTHING);
        due.is("55 lay(6, 0, 0)", x.lay(6, 0, 0), -1);
        due.is("55 lay(-1, 0, 0)", x.lay(-1, 0, 0), -1);
        due.is("55 lay(3, 0, 16)", x.lay(3, 0, 16), -1);
        due.is("55 lay(0, 0, -1)", x.lay(0, 0, -1), -1);
    }

    private static void promise55Beyond() {
        PerfumeOrgan x = Due.organOf(3);
        Due.drop(x, 0, 2, 4, 4);
        x.row(0, 1, 4);
        number(x, 0, 1, 4);
        due.is("55 below", x.lay(0, -1, 0), BEYOND);
        due.is("55 far below", x.lay(0, Integer.MIN_VALUE, 0), BEYOND);
        due.is("55 behind the end", x.lay(0, 4, 0), BEYOND);
        due.is("55 far beyond", x.lay(0, Integer.MAX_VALUE, 0), BEYOND);
        due.is("55 none was laid", Due.row(x, 0), "1 2 3 4");
        due.is("55 two of three", x.lay(0, 2, 0), BEYOND);
        due.is("55 those that had a place", Due.row(x, 0), "1 2 200 400");
        due.is("55 just enough", x.lay(0, 1, 0), 3);
        PerfumeOrgan none = new PerfumeOrgan();
        none.row(0, 1, 0);
        due.is("55 no notes", none.lay(0, 0, 0), 0);
    }

    private static void promise56() {
        PerfumeOrgan x = Due.organOf(3);
        Due.drop(x, 0, 1, 1, 1);
        Due.drop(x, 1, 1, 1, 2);
        for (int sort = 0; sort < 3; sort++) {
            x.row(sort, sort, 4);
            x.lay(sort, 1, 0);
            due.is("56 as it is, sort " + sort, x.judge(sort, 1, 0), -5);
            due.is("56 from elsewhere, sort " + sort, x.judge(sort, 0, 0), 0);
            due.is("56 another blend, sort " + sort, x.judge(sort, 1, 1), 0);
            x.set(sort, 3, 7);
            due.is("56 the last one, sort " + sort, x.judge(sort, 1, 0), 2);
            due.is("56 the row ends, sort " + sort, x.judge(sort, 4, 0), 100);
            due.is("56 far beyond, sort " + sort, x.judge(sort, Integer.MAX_VALUE, 0), 100);
            due.is("56 below, sort " + sort, x.judge(sort, -1, 0), 100);
            due.is("56 far below, sort " + sort, x.judge(sort, Integer.MIN_VALUE, 0), 100);
            x.row(sort, sort, 2);
            due.is("56 unlike ahead of the end, sort " + sort, x.judge(sort, 0, 0), 0);
            due.is("56 two were laid, sort " + sort, x.lay(sort, 0, 0), BEYOND);
            due.is("56 two were looked at, sort " + sort, x.judge(sort, 0, 0), 102);
            due.is("56 one was looked at, sort " + sort, x.judge(sort, 1, 0), 101);
        }
        due.is("56 nothing", x.judge(3, -1, 0), NOTHING);
        due.is("56 judge(6, 0, 0)", x.judge(6, 0, 0), -1);
        due.is("56 judge(-1, 0, 0)", x.judge(-1, 0, 0), -1);
        due.is("56 judge(3, 0, 16)", x.judge(3, 0, 16), -1);
        due.is("56 judge(0, 0, -1)", x.judge(0, 0, -1), -1);
        floatsByTheirBits();
    }

    private static void floatsByTheirBits() {
        PerfumeOrgan x = Due.organOf(2);
        Due.drop(x, 0, 5000, 1);
        Due.drop(x, 1, 4000, 1);
        x.row(0, 2, 2);
        x.row(1, 1, 2);
        x.lay(0, 0, 0);
        x.lay(1, 0, 0);
        due.is("56 alike in thousandths", x.judge(1, 0, 1), -5);
        due.is("56 unlike in bits", x.judge(0, 0, 1), 0);
    }

    private static void promise57() {
        PerfumeOrgan x = new PerfumeOrgan();
        due.is("57 image() of nothing", x.image(), 0);
        Due.note(x, "a", 0, 1, 1);
        due.is("58 undo() to nothing", x.undo(), 0);
        due.is("58 no notes", x.told(0), 0);
        Due.note(x, "b", 3, 1, 1);
        Due.note(x, "c", 4, 1, 1);
        due.is("57 image()", x.image(), 2);
        Due.note(x, "d", 5, 1, 1);
        due.is("58 undo()", x.undo(), 2);
        due.is("58 b is there", Due.find(x, "b"), 0);
        due.is("58 d is not", Due.find(x, "d"), -5);
    }

    private static void promise58() {
        PerfumeOrgan x = Due.organOf(2);
        due.is("58 no image", x.undo(), -3);
        Due.drop(x, 15, 1, 2);
        Due.accord(x, 5, "a=3");
        x.limit(7, 70);
        x.fill(0, 50);
        x.make(15, 0);
        x.drop(0, 0, 1);
        x.make(0, 5);
        x.order(3, 4, 5);
        x.image();
        Due.note(x, "c", 1, 2, 3);
        x.lasting(0, 99);
        x.drop(15, 0, 9);
        x.drop(15, 2, 9);
        Due.accord(x, 5, "b=3");
        x.limit(7, 71);
        x.fill(1, 50);
        x.fill(2, 50);
        x.make(0, 6);
        x.order(1, 1, 1);
        x.urge(0, 9);
        x.off(0);
        x.spell(0);
        x.row(0, 1, 1);
        x.set(0, 0, 8);
        Due.feed(x, "xyz");
        due.is("58 undo()", x.undo(), 2);
        due.is("58 the tape stays", x.told(5), 3);
        due.is("58 the paper stays", Due.paper(x), "a=1");
        due.is("58 rows stay", x.get(0, 0), 8);
        x.clear();
        due.is("58 lasting", x.of(0, 2), 9);
        due.is("58 blends", Due.drops(x, 15), "1 2");
        due.is("58 all", x.blend(15, 0), 3);
        due.is("58 accords", Due.drops(x, 21), "3 0");
        due.is("58 limits", x.limit(7, 70), 70);
        due.is("58 the stock", x.told(4), 45);
        due.is("58 the book", x.told(3), 1);
        due.is("58 its times", x.book(0, 1), 5);
        due.is("58 orders", x.told(8), 1);
        due.is("58 the order is open", x.orderOf(0, 3), 0);
        due.is("58 its urgency", x.orderOf(0, 2), 5);
        due.is("58 a note comes again", Due.note(x, "c", 6, 5, 4), 2);
        due.is("58 without drops", x.drops(15, 2), 0);
        due.is("58 without stock", x.of(2, 6), 0);
        due.is("58 its family", x.of(2, 0), 6);
    }

    private static void promise58Twice() {
        PerfumeOrgan x = Due.organOf(2);
        x.drop(0, 0, 5);
        x.image();
        x.drop(0, 0, 6);
        due.is("58 undo()", x.undo(), 2);
        x.drop(0, 0, 7);
        due.is("58 undo() again", x.undo(), 2);
        due.is("58 as the image", x.drops(0, 0), 5);
        x.drop(0, 0, 8);
        x.image();
        x.drop(0, 0, 9);
        x.undo();
        due.is("58 the latest image", x.drops(0, 0), 8);
    }

    private static void promise58FullBook() {
        PerfumeOrgan x = Due.organOf(1);
        x.fill(0, 9999);
        x.drop(3, 0, 1);
        x.drop(4, 0, 2);
        for (int i = 1; i <= 30; i++) {
            x.make(3, i);
        }
        x.image();
        for (int i = 1; i <= 5; i++) {
            x.make(4, 50 + i);
        }
        x.undo();
        for (int i = 0; i < 30; i++) {
            due.is("58 blend of the book", x.book(i, 0), 3);
            due.is("58 n of the book", x.book(i, 1), 30 - i);
            due.is("58 drops of the book", x.book(i, 2), 30 - i);
        }
    }
}
