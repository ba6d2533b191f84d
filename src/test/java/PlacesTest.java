/** "Terms" 3 on ROWS and THE IMAGE, sentence by sentence: sizes, places, lowest bits, undo(). */
public final class PlacesTest {
    private static final Due due = new Due("PlacesTest");
    private static final long NO = PerfumeOrgan.NO;
    private static final int NOTHING = -11, CAST = -12, BEYOND = -13, BELOW = -14;
    private static final int LEAST = Integer.MIN_VALUE, MOST = Integer.MAX_VALUE;

    public static void main(String[] args) {
        rowsAtFirst();
        sizes();
        placesOfARow();
        lowestBitsOfBytes();
        lowestBitsOfInts();
        floats();
        movedFromPlaceToPlace();
        movedWithin();
        movedBeyond();
        twins();
        laidAtTheEnds();
        laidUntilAPlaceIsntThere();
        laidLowestBits();
        judgedAtTheEnds();
        judgedByBits();
        noNotes();
        noImage();
        imageKeepsAll();
        imageIsItsOwn();
        imageOfFullThings();
        due.end();
    }

    // ROWS 0 .. 5 hold nothing (at first)
    private static void rowsAtFirst() {
        PerfumeOrgan x = Due.organOf(1);
        for (int row = -1; row <= 6; row++) {
            int want = row < 0 || row > 5 ? -1 : NOTHING;
            due.is("set(" + row + ")", x.set(row, 0, 1), want);
            due.is("get(" + row + ")", x.get(row, 0), NO);
            due.is("move(" + row + ")", x.move(row, 0, row, 0, 0), want);
            due.is("twin(" + row + ")", x.twin(row, row), want);
            due.is("lay(" + row + ")", x.lay(row, 0, 0), want);
            due.is("judge(" + row + ")", x.judge(row, 0, 0), want);
        }
    }

    // a row of a sort: 0 bytes, 1 ints, 2 floats; 0 .. 50 of them; BELOW (-14): a size below 0
    private static void sizes() {
        PerfumeOrgan x = new PerfumeOrgan();
        int[][] calls = {{0, 0, 0, 1}, {5, 2, 50, 1}, {1, 1, 1, 1}, {2, 0, 51, -2}, {2, 0, MOST, -2},
            {2, 0, -1, BELOW}, {2, 0, LEAST, BELOW}, {2, -1, 5, -1}, {2, 3, 5, -1}, {2, 3, 51, -1}, {2, -1, -1, -1},
            {-1, 0, 5, -1}, {6, 0, 5, -1}, {6, 3, -1, -1}, {LEAST, 0, 5, -1}, {2, MOST, 5, -1}};
        for (int[] call : calls) {
            due.is("row(" + call[0] + ", " + call[1] + ", " + call[2] + ")", x.row(call[0], call[1], call[2]), call[3]);
        }
        due.is("refused, there is none", x.set(2, 0, 1), NOTHING);
        x.set(1, 0, 77);
        due.is("51 again", x.row(1, 0, 51), -2);
        due.is("below again", x.row(1, 0, -1), BELOW);
        due.is("refused, it stays", x.get(1, 0), 77);
        due.is("an int's sort, too", x.set(1, 0, 300) + x.get(1, 0), 301);
        due.is("made anew", x.row(1, 1, 1), 1);
        due.is("all 0", x.get(1, 0), 0);
    }

    private static void placesOf(int sort, int size) {
        PerfumeOrgan x = new PerfumeOrgan();
        x.row(3, sort, size);
        for (int i : new int[] {LEAST, -1, size, 50, MOST}) {
            due.is("set at " + i + " of " + size, x.set(3, i, 1), BEYOND);
            due.is("get at " + i + " of " + size, x.get(3, i), NO);
        }
        for (int i = 0; i < size; i++) {
            due.is("0 at first", x.get(3, i), 0);
            due.is("set at " + i + " of " + size, x.set(3, i, i + 1), 1);
        }
        for (int i = 0; i < size; i++) {
            due.is("at " + i + " of " + size, x.get(3, i), sort == 2 ? Float.floatToIntBits(i + 1) : i + 1);
        }
    }

    // BEYOND (-13): no such place
    private static void placesOfARow() {
        for (int sort = 0; sort < 3; sort++) {
            placesOf(sort, 0);
            placesOf(sort, 1);
            placesOf(sort, 50);
        }
    }

    // of bytes, ints: lowest bits
    private static void lowestBitsOfBytes() {
        long[][] values = {{0, 0}, {127, 127}, {128, -128}, {255, -1}, {256, 0}, {-1, -1}, {-128, -128},
            {-129, 127}, {0x7FFFFFFFL, -1}, {0x80000000L, 0}, {0x1FF00000080L, -128}, {Long.MAX_VALUE, -1},
            {Long.MIN_VALUE, 0}, {Long.MIN_VALUE + 200, -56}};
        PerfumeOrgan x = new PerfumeOrgan();
        x.row(0, 0, 2);
        for (long[] value : values) {
            due.is("set a byte", x.set(0, 0, value[0]), 1);
            due.is("a byte of " + value[0], x.get(0, 0), value[1]);
        }
        due.is("the place beside", x.get(0, 1), 0);
    }

    private static void lowestBitsOfInts() {
        long[][] values = {{0, 0}, {128, 128}, {-1, -1}, {0x7FFFFFFFL, MOST}, {0x80000000L, LEAST},
            {0xFFFFFFFFL, -1}, {0x100000000L, 0}, {0x1FFFFFFFFL, -1}, {-0x80000001L, MOST},
            {Long.MAX_VALUE, -1}, {Long.MIN_VALUE, 0}, {Long.MIN_VALUE + 7, 7}};
        PerfumeOrgan x = new PerfumeOrgan();
        x.row(0, 1, 2);
        for (long[] value : values) {
            due.is("set an int", x.set(0, 1, value[0]), 1);
            due.is("an int of " + value[0], x.get(0, 1), value[1]);
        }
        due.is("the place beside", x.get(0, 0), 0);
    }

    // of floats: v as a float; a float's bits
    private static void floats() {
        PerfumeOrgan x = new PerfumeOrgan();
        x.row(0, 2, 1);
        for (long value : new long[] {0, 1, -1, 3, -7, 127, 128, 1L << 24, (1L << 24) + 1, (1L << 24) + 3,
            -(1L << 24) - 3, 0x7FFFFFFFL, 0x80000000L, 0xFFFFFFFFL, 0x100000000L, 1L << 62, Long.MAX_VALUE,
            Long.MIN_VALUE}) {
            due.is("set a float", x.set(0, 0, value), 1);
            due.isFloat("a float of " + value, x.get(0, 0), (float) value);
        }
    }

    private static void number(PerfumeOrgan x, int row, int from, int items) {
        for (int i = 0; i < items; i++) {
            x.set(row, i, from + i);
        }
    }

    // n places of a ROW from i on come to another one from j on
    private static void movedFromPlaceToPlace() {
        PerfumeOrgan x = new PerfumeOrgan();
        x.row(0, 1, 50);
        x.row(1, 1, 50);
        x.row(2, 1, 0);
        x.row(3, 0, 0);
        number(x, 0, 1, 50);
        due.is("all fifty", x.move(0, 0, 1, 0, 50), 50);
        due.is("the first", x.get(1, 0), 1);
        due.is("the last", x.get(1, 49), 50);
        due.is("the first to the last place", x.move(0, 0, 1, 49, 1), 1);
        due.is("the last place", x.get(1, 49), 1);
        due.is("the last to the first place", x.move(0, 49, 1, 0, 1), 1);
        due.is("the first place", x.get(1, 0), 50);
        due.is("the place beside", x.get(1, 1), 2);
        due.is("none behind the last", x.move(0, 50, 1, 50, 0), 0);
        due.is("none of none", x.move(2, 0, 2, 0, 0), 0);
        due.is("none to none", x.move(0, 50, 2, 0, 0), 0);
        due.is("one of none", x.move(2, 0, 0, 0, 1), BEYOND);
        due.is("one to none", x.move(0, 0, 2, 0, 1), BEYOND);
        due.is("none of another sort", x.move(3, 0, 2, 0, 0), CAST);
        due.is("the row itself", x.get(0, 0) * 100 + x.get(0, 49), 150);
    }

    // (or the same) .., as they all were before
    private static void movedWithin() {
        for (int sort = 0; sort < 3; sort++) {
            PerfumeOrgan x = new PerfumeOrgan();
            x.row(0, sort, 6);
            number(x, 0, 1, 6);
            due.is("on", x.move(0, 0, 0, 2, 4), 4);
            due.is("nothing by it", x.move(0, 1, 0, 1, 5), 5);
            due.is("back", x.move(0, 3, 0, 1, 3), 3);
            int[] want = {1, 2, 3, 4, 3, 4};
            for (int i = 0; i < 6; i++) {
                due.is("place " + i, x.get(0, i), sort == 2 ? Float.floatToIntBits(want[i]) : want[i]);
            }
        }
    }

    // BEYOND: n, i or j is below 0, or beyond either's end
    private static void movedBeyond() {
        PerfumeOrgan x = new PerfumeOrgan();
        x.row(0, 0, 3);
        x.row(1, 0, 5);
        x.row(2, 2, 3);
        number(x, 0, 1, 3);
        int[][] calls = {{-1, 0, 1}, {0, -1, 1}, {0, 0, -1}, {-1, -1, -1}, {4, 0, 0}, {0, 6, 0}, {3, 0, 1},
            {0, 5, 1}, {0, 0, 4}, {2, 0, 2}, {0, 3, 3}, {LEAST, 0, 1}, {0, LEAST, 1}, {0, 0, LEAST}, {MOST, 0, 1},
            {0, MOST, 1}, {0, 0, MOST}, {MOST, MOST, MOST}, {1, 1, MOST}, {MOST, 0, 0}, {0, MOST, 0}, {-1, 0, 0}};
        for (int[] call : calls) {
            String said = call[0] + ", " + call[1] + ", " + call[2];
            due.is("move " + said, x.move(0, call[0], 1, call[1], call[2]), BEYOND);
            due.is("of unlike sorts " + said, x.move(0, call[0], 2, call[1], call[2]), CAST);
            due.is("nothing here " + said, x.move(3, call[0], 0, call[1], call[2]), NOTHING);
            due.is("nothing there " + said, x.move(0, call[0], 3, call[1], call[2]), NOTHING);
            due.is("no such row " + said, x.move(3, call[0], 6, call[1], call[2]), -1);
        }
        due.is("nothing is changed", Due.row(x, 0) + " " + Due.row(x, 1) + " " + Due.row(x, 2), "1 2 3 0 0 0 0 0 0 0 0");
        due.is("just to both ends", x.move(0, 0, 1, 2, 3), 3);
        due.is("then", Due.row(x, 1), "0 0 1 2 3");
    }

    // Another ROW (or the same) holds one like it, its own
    private static void twins() {
        PerfumeOrgan x = new PerfumeOrgan();
        x.row(0, 1, 50);
        number(x, 0, 1, 50);
        x.row(1, 2, 3);
        due.is("fifty", x.twin(0, 1), 50);
        due.is("the last", x.get(1, 49), 50);
        due.is("of its sort", x.move(0, 0, 1, 0, 50), 50);
        x.set(0, 0, 9);
        x.set(1, 1, 8);
        due.is("each its own", x.get(0, 0) * 1000 + x.get(0, 1) * 100 + x.get(1, 0) * 10 + x.get(1, 1), 9218);
        due.is("the same", x.twin(0, 0), 50);
        due.is("as it was", x.get(0, 0) + x.get(0, 49), 59);
        x.row(2, 0, 0);
        due.is("one of size 0", x.twin(2, 1), 0);
        due.is("it holds no place", x.get(1, 0), NO);
        due.is("but is there", x.set(1, 0, 1), BEYOND);
        due.is("of nothing", x.twin(5, 0), NOTHING);
        due.is("it stays", x.get(0, 49), 50);
        due.is("of nothing to none", x.twin(5, 6), -1);
        due.is("of none", x.twin(6, 0), -1);
    }

    // LAID into a ROW from a place on: SHARES of a BLEND, NOTE by NOTE
    private static void laidAtTheEnds() {
        PerfumeOrgan x = Due.organOf(40);
        for (int i = 0; i < 40; i++) {
            x.drop(0, i, 1);
        }
        x.row(0, 1, 50);
        due.is("from 0", x.lay(0, 0, 0), 40);
        due.is("the last share", x.get(0, 39), 25);
        due.is("none behind it", x.get(0, 40), 0);
        due.is("from 10", x.lay(0, 10, 0), 40);
        due.is("the last place", x.get(0, 49), 25);
        due.is("from 11", x.lay(0, 11, 0), BEYOND);
        x.row(0, 1, 40);
        due.is("just as many places", x.lay(0, 0, 0), 40);
        x.row(0, 1, 39);
        due.is("one too few", x.lay(0, 0, 0), BEYOND);
        due.is("the last of them", x.get(0, 38), 25);
        x.row(0, 1, 0);
        due.is("no places", x.lay(0, 0, 0), BEYOND);
        due.is("an empty blend", x.lay(0, 0, 1), BEYOND);
    }

    // until a place isn't there; those that had a place are there all the same; none, if i is below 0
    private static void laidUntilAPlaceIsntThere() {
        for (int i : new int[] {LEAST, -3, -2, -1, 5, 6, MOST - 1, MOST}) {
            PerfumeOrgan x = Due.organOf(3);
            Due.drop(x, 0, 1, 2, 1);
            x.row(0, 1, 5);
            number(x, 0, 1, 5);
            due.is("from " + i, x.lay(0, i, 0), BEYOND);
            due.is("none was laid from " + i, Due.row(x, 0), "1 2 3 4 5");
        }
        for (int i = 0; i < 5; i++) {
            PerfumeOrgan x = Due.organOf(3);
            Due.drop(x, 0, 1, 2, 1);
            x.row(0, 1, 5);
            number(x, 0, 1, 5);
            String[] rows = {"250 500 250 4 5", "1 250 500 250 5", "1 2 250 500 250", "1 2 3 250 500", "1 2 3 4 250"};
            due.is("from " + i, x.lay(0, i, 0), i < 3 ? 3 : BEYOND);
            due.is("laid from " + i, Due.row(x, 0), rows[i]);
        }
    }

    // into bytes, ints: times 1000.0f, cast to an int, lowest bits
    private static void laidLowestBits() {
        PerfumeOrgan x = Due.organOf(4);
        Due.drop(x, 0, 127, 128, 255, 490);
        for (int sort = 0; sort < 3; sort++) {
            x.row(sort, sort, 4);
            due.is("laid", x.lay(sort, 0, 0), 4);
        }
        for (int i = 0; i < 4; i++) {
            float share = (float) x.drops(0, i) / 1000.0f;
            due.is("byte " + i, x.get(0, i), (byte) (int) (share * 1000.0f));
            due.is("int " + i, x.get(1, i), (int) (share * 1000.0f));
            due.isFloat("float " + i, x.get(2, i), share);
        }
        due.is("a share of 128 as a byte", x.get(0, 1), -128);
        x.drop(1, 3, 5);
        x.lay(0, 0, 1);
        x.lay(1, 0, 1);
        due.is("the whole as a byte", x.get(0, 3), -24);
        due.is("the whole as an int", x.get(1, 3), 1000);
        Due.drop(x, 2, 1, 9999, 0, 0);
        x.lay(1, 0, 2);
        due.is("cut", Due.row(x, 1), "0 999 0 0");
    }

    // JUDGED: the first NOTE .. from a place on; -5: none; 100 and how many were looked at
    private static void judgedAtTheEnds() {
        PerfumeOrgan x = Due.organOf(3);
        Due.drop(x, 0, 1, 2, 1);
        for (int sort = 0; sort < 3; sort++) {
            for (int size = 0; size < 6; size++) {
                x.row(0, sort, size);
                x.lay(0, 0, 0);
                due.is("a row of " + size, x.judge(0, 0, 0), size < 3 ? 100 + size : -5);
                x.row(0, sort, size);
                x.lay(0, 2, 0);
                due.is("from 2 of a row of " + size, x.judge(0, 2, 0), size < 2 ? 100 : size < 5 ? 98 + size : -5);
                for (int i : new int[] {LEAST, -2, -1, size, size + 1, MOST - 1, MOST}) {
                    due.is("from " + i + " of a row of " + size, x.judge(0, i, 0), 100);
                }
            }
            x.row(0, sort, 3);
            for (int note = 2; note >= 0; note--) {
                x.lay(0, 0, 0);
                x.set(0, note, 9);
                due.is("unlike at " + note, x.judge(0, 0, 0), note);
            }
            x.row(0, sort, 2);
            x.lay(0, 0, 0);
            x.set(0, 1, 9);
            due.is("unlike ahead of the end", x.judge(0, 0, 0), 1);
        }
        due.is("an empty blend by noughts", x.row(0, 2, 3) + x.judge(0, 0, 5), -4);
        due.is("NONE is ahead of NOTHING", x.judge(1, -1, 16), -1);
        due.is("NOTHING is ahead of a place below 0", x.judge(1, -1, 0), NOTHING);
    }

    // of floats: by their bits
    private static void judgedByBits() {
        PerfumeOrgan x = Due.organOf(2);
        Due.drop(x, 0, 5000, 5001);
        Due.drop(x, 1, 5000, 5002);
        for (int sort = 0; sort < 3; sort++) {
            x.row(sort, sort, 2);
            x.lay(sort, 0, 0);
            due.is("by itself", x.judge(sort, 0, 0), -5);
            due.is("by one nearly alike", x.judge(sort, 0, 1), sort == 2 ? 0 : -5);
        }
        x.row(0, 0, 2);
        x.row(1, 1, 2);
        Due.drop(x, 2, 256, 744);
        Due.drop(x, 3, 0, 1);
        x.lay(0, 0, 2);
        x.lay(1, 0, 2);
        due.is("256 and 0, 744 and 1000 are two bytes", x.judge(0, 0, 3), -5);
        due.is("but four ints", x.judge(1, 0, 3), 0);
    }

    // No notes: all of none are laid, and none is not as the row has it.
    private static void noNotes() {
        PerfumeOrgan x = new PerfumeOrgan();
        x.row(0, 0, 1);
        due.is("lay", x.lay(0, 0, 0), 0);
        due.is("judge", x.judge(0, 0, 0), -5);
        due.is("lay behind the end", x.lay(0, 1, 0), 0);
        due.is("judge behind the end", x.judge(0, 1, 0), -5);
    }

    // an undo() without THE IMAGE
    private static void noImage() {
        PerfumeOrgan x = Due.organOf(2);
        Due.drop(x, 0, 1, 2);
        x.fill(0, 5);
        x.order(0, 1, 1);
        Due.feed(x, "ab");
        due.is("undo()", x.undo(), -3);
        due.is("undo() again", x.undo(), -3);
        due.is("notes stay", x.told(0), 2);
        due.is("drops stay", Due.drops(x, 0), "1 2");
        due.is("the stock stays", x.told(4), 5);
        due.is("orders stay", x.told(8), 1);
        due.is("the tape stays", x.told(5), 2);
        due.is("image()", x.image(), 2);
        due.is("undo() then", x.undo(), 2);
        due.is("undo() again, too", x.undo(), 2);
        due.is("the tape stays still", x.told(5), 2);
    }

    // THE IMAGE: NOTES, BLENDS, ACCORDS, LIMITS, THE STOCK, THE BOOK, ORDERS
    private static void imageKeepsAll() {
        PerfumeOrgan x = new PerfumeOrgan();
        due.is("of nothing", x.image(), 0);
        due.is("a note", Due.note(x, "a", 6, 7, 8), 0);
        for (int blend = 0; blend < 16; blend++) {
            x.drop(blend, 0, blend + 1);
        }
        for (int accord = 0; accord < 6; accord++) {
            Due.accord(x, accord, "a=" + (accord + 1));
        }
        for (int family = 0; family < 8; family++) {
            x.limit(family, family == 6 ? 1000 : 9);
        }
        x.fill(0, 99999);
        x.make(3, 2);
        x.order(4, 5, 6);
        Due.feed(x, "tape");
        x.spell(5);
        x.row(5, 0, 7);
        due.is("undo()", x.undo(), 0);
        int[] told = {0, 0, 0, 0, 0, 4, 3, 0, 0, 0};
        for (int what = 0; what < 10; what++) {
            due.is("told(" + what + ")", x.told(what), told[what]);
        }
        due.is("the row stays", x.get(5, 6), 0);
        for (int family = 0; family < 8; family++) {
            due.is("limit of " + family, x.limit(family, 5), 1000);
        }
        due.is("no order", x.orderOf(0, 0), -1);
        due.is("nothing made", x.book(0, 0), -1);
        x.clear();
        due.is("a again", Due.note(x, "a", 1, 2, 3), 0);
        for (int mixture = 0; mixture < 22; mixture++) {
            due.is("no drops in " + mixture, x.drops(mixture, 0), 0);
        }
        int[] of = {1, 2, 3};
        for (int what = 0; what < 3; what++) {
            due.is("of(0, " + what + ")", x.of(0, what), of[what]);
        }
        due.is("no stock", x.of(0, 6), 0);
    }

    private static void imageIsItsOwn() {
        PerfumeOrgan x = Due.organOf(2);
        x.fill(1, 50);
        x.drop(0, 1, 2);
        x.order(0, 3, 4);
        x.make(0, 1);
        x.image();
        for (int time = 0; time < 2; time++) {
            due.is("lasting", x.lasting(0, 500 + time), 9);
            due.is("drops", x.drop(0, 1, 7), 2);
            due.is("urgency", x.urge(0, 9), 4);
            due.is("made", x.make(0, 2), 14);
            due.is("off", x.off(0), 1);
            due.is("limit", x.limit(3, 3), 1000);
            due.is("another note", Due.note(x, "c" + (char) ('a' + time), 1, 1, 1), 2);
            due.is("undo()", x.undo(), 2);
            due.is("stock", x.of(1, 6), 48);
            due.is("the book", x.book(0, 2), 2);
            due.is("one line", x.told(3), 1);
            due.is("an open order", x.told(9), 1);
        }
        x.drop(0, 1, 8);
        due.is("another image", x.image(), 2);
        x.drop(0, 1, 9);
        due.is("undo() to it", x.undo(), 2);
        due.is("its drops", x.drops(0, 1), 8);
    }

    private static void imageOfFullThings() {
        PerfumeOrgan x = Due.organOf(40);
        for (int i = 0; i < 30; i++) {
            x.order(i % 16, i + 1, i % 10);
        }
        x.drop(0, 39, 9999);
        x.fill(39, 99999);
        due.is("image()", x.image(), 40);
        x.drop(0, 39, 1);
        for (int i = 0; i < 30; i++) {
            x.off(i);
        }
        x.make(0, 9);
        due.is("undo()", x.undo(), 40);
        due.is("orders", x.told(8), 30);
        due.is("open ones", x.told(9), 30);
        due.is("the last order", x.orderOf(29, 1), 30);
        due.is("the last note", x.drops(0, 39), 9999);
        due.is("its stock", x.of(39, 6), 99999);
        due.is("full still", x.order(0, 1, 1), -4);
        due.is("full of notes still", Due.note(x, "new", 0, 1, 1), -4);
    }
}
