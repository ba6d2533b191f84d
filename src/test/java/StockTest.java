/** Promises 37 to 49: orders, limits, THE STOCK, THE BOOK, what is told. */
public final class StockTest {
    private static final Due due = new Due("StockTest");

    public static void main(String[] args) {
        promise37();
        promise38();
        promise39();
        promise40();
        promise41();
        promise42();
        promise43();
        promise44();
        promise45();
        promise45Limits();
        promise46();
        promise47();
        promise48();
        promise49();
        due.end();
    }

    private static void promise37() {
        PerfumeOrgan x = new PerfumeOrgan();
        due.is("37 order(15, 99, 9)", x.order(15, 99, 9), 0);
        due.is("37 order(0, 1, 0)", x.order(0, 1, 0), 1);
        due.is("37 order(16, 0, 0)", x.order(16, 0, 0), -1);
        due.is("37 order(-1, 1, 0)", x.order(-1, 1, 0), -1);
        due.is("37 order(0, 0, 0)", x.order(0, 0, 0), -2);
        due.is("37 order(0, 100, 0)", x.order(0, 100, 0), -2);
        due.is("37 order(0, 1, 10)", x.order(0, 1, 10), -2);
        due.is("37 order(0, 1, -1)", x.order(0, 1, -1), -2);
        due.is("37 told(8)", x.told(8), 2);
        for (int i = 2; i < 30; i++) {
            due.is("37 another one", x.order(0, 1, 0), i);
        }
        x.off(4);
        due.is("37 full", x.order(0, 1, 0), -4);
        due.is("37 BAD is ahead of FULL", x.order(0, 1, 10), -2);
        due.is("37 NONE is ahead of FULL", x.order(16, 1, 10), -1);
        due.is("37 told(8), full", x.told(8), 30);
    }

    private static void promise38() {
        PerfumeOrgan x = Due.organOf(1);
        x.order(0, 1, 0);
        x.order(1, 1, 0);
        due.is("38 off(0)", x.off(0), 1);
        due.is("38 it is off", x.orderOf(0, 3), 2);
        due.is("38 off(0) again", x.off(0), -3);
        due.is("38 off(2)", x.off(2), -1);
        due.is("38 off(-1)", x.off(-1), -1);
        x.drop(1, 0, 1);
        x.fill(0, 1);
        due.is("42 serve()", x.serve(), 1);
        due.is("38 one that is done", x.off(1), -3);
        due.is("38 it stays done", x.orderOf(1, 3), 1);
    }

    private static void promise39() {
        PerfumeOrgan x = Due.organOf(1);
        x.order(0, 1, 3);
        x.order(1, 1, 4);
        due.is("39 urge(0, 9)", x.urge(0, 9), 3);
        due.is("39 urge(0, 0)", x.urge(0, 0), 9);
        due.is("39 urge(0, 10)", x.urge(0, 10), -2);
        due.is("39 urge(0, -1)", x.urge(0, -1), -2);
        due.is("39 urge(2, 10)", x.urge(2, 10), -1);
        due.is("39 urge(-1, 1)", x.urge(-1, 1), -1);
        due.is("39 the other's", x.orderOf(1, 2), 4);
        x.off(0);
        due.is("39 one that is off", x.urge(0, 5), -3);
        due.is("39 one that is off, bad", x.urge(0, 10), -2);
        due.is("39 its urgency stays", x.orderOf(0, 2), 0);
        x.drop(1, 0, 1);
        x.fill(0, 1);
        x.serve();
        due.is("39 one that is done", x.urge(1, 5), -3);
    }

    private static void promise40() {
        PerfumeOrgan x = new PerfumeOrgan();
        x.order(3, 7, 5);
        x.order(15, 99, 0);
        int[] first = {3, 7, 5, 0};
        int[] second = {15, 99, 0, 0};
        for (int what = 0; what < 4; what++) {
            due.is("40 orderOf(0, " + what + ")", x.orderOf(0, what), first[what]);
            due.is("40 orderOf(1, " + what + ")", x.orderOf(1, what), second[what]);
        }
        due.is("40 orderOf(0, 4)", x.orderOf(0, 4), -1);
        due.is("40 orderOf(0, -1)", x.orderOf(0, -1), -1);
        due.is("40 orderOf(2, 0)", x.orderOf(2, 0), -1);
        due.is("40 orderOf(-1, 0)", x.orderOf(-1, 0), -1);
    }

    private static void promise41() {
        PerfumeOrgan x = new PerfumeOrgan();
        due.is("41 none", x.inTurn(0), -1);
        int[] urgencies = {0, 9, 5, 9, 0, 5};
        for (int urgency : urgencies) {
            x.order(0, 1, urgency);
        }
        int[] turn = {1, 3, 2, 5, 0, 4};
        for (int i = 0; i < 6; i++) {
            due.is("41 inTurn(" + i + ")", x.inTurn(i), turn[i]);
        }
        due.is("41 inTurn(6)", x.inTurn(6), -1);
        due.is("41 inTurn(-1)", x.inTurn(-1), -1);
        x.off(3);
        x.urge(4, 6);
        int[] then = {1, 4, 2, 5, 0};
        for (int i = 0; i < 5; i++) {
            due.is("41 then inTurn(" + i + ")", x.inTurn(i), then[i]);
        }
        due.is("41 then inTurn(5)", x.inTurn(5), -1);
    }

    private static void promise42() {
        PerfumeOrgan x = Due.organOf(2);
        due.is("42 no orders", x.serve(), 0);
        Due.drop(x, 0, 3, 1);
        Due.drop(x, 1, 0, 2);
        x.order(0, 2, 1);
        x.order(0, 1, 1);
        x.order(1, 2, 0);
        x.order(2, 1, 9);
        x.order(0, 3, 8);
        x.order(1, 1, 9);
        x.off(5);
        x.fill(0, 8);
        x.fill(1, 6);
        due.is("42 serve()", x.serve(), 2);
        int[] states = {1, 0, 1, 0, 0, 2};
        for (int i = 0; i < 6; i++) {
            due.is("42 orderOf(" + i + ", 3)", x.orderOf(i, 3), states[i]);
        }
        due.is("42 stock of 0", x.of(0, 6), 2);
        due.is("42 stock of 1", x.of(1, 6), 0);
        due.is("42 the latest made", x.book(0, 0), 1);
        due.is("42 the one ahead", x.book(1, 0), 0);
        due.is("42 made", x.told(3), 2);
        due.is("42 open ones", x.told(9), 3);
        due.is("42 again", x.serve(), 0);
        x.fill(0, 90);
        x.fill(1, 90);
        x.limit(0, 999);
        due.is("42 a limit", x.serve(), 0);
        x.limit(0, 1000);
        due.is("42 then", x.serve(), 2);
        due.is("42 the less urgent last", x.book(0, 1), 1);
        due.is("42 the more urgent first", x.book(1, 1), 3);
        due.is("42 the empty one stays", x.orderOf(3, 3), 0);
    }

    private static void promise43() {
        PerfumeOrgan x = new PerfumeOrgan();
        due.is("43 limit(7, 0)", x.limit(7, 0), 1000);
        due.is("43 limit(7, 1000)", x.limit(7, 1000), 0);
        due.is("43 limit(7, 5)", x.limit(7, 5), 1000);
        due.is("43 limit(0, 6)", x.limit(0, 6), 1000);
        due.is("43 limit(7, 1001)", x.limit(7, 1001), -2);
        due.is("43 limit(7, -1)", x.limit(7, -1), -2);
        due.is("43 limit(8, -1)", x.limit(8, -1), -1);
        due.is("43 limit(-1, 5)", x.limit(-1, 5), -1);
        due.is("43 limit(7, 1)", x.limit(7, 1), 5);
    }

    private static void promise44() {
        PerfumeOrgan x = Due.organOf(2);
        due.is("44 fill(0, 99999)", x.fill(0, 99999), 99999);
        due.is("44 fill(0, 0)", x.fill(0, 0), 99999);
        due.is("44 fill(0, 1)", x.fill(0, 1), -4);
        due.is("44 fill(1, 5)", x.fill(1, 5), 5);
        due.is("44 fill(1, 99994)", x.fill(1, 99994), 99999);
        due.is("44 fill(1, 100000)", x.fill(1, 100000), -2);
        due.is("44 fill(1, -1)", x.fill(1, -1), -2);
        due.is("44 fill(2, -1)", x.fill(2, -1), -1);
        due.is("44 fill(-1, 1)", x.fill(-1, 1), -1);
        due.is("44 told(4)", x.told(4), 199998);
    }

    private static void promise45() {
        PerfumeOrgan x = Due.organOf(3);
        Due.drop(x, 4, 3, 0, 2);
        x.fill(0, 300);
        x.fill(1, 7);
        x.fill(2, 100);
        due.is("45 make(4, 1)", x.make(4, 1), 5);
        due.is("45 make(4, 10)", x.make(4, 10), 50);
        due.is("45 stock of 0", x.of(0, 6), 267);
        due.is("45 stock of 1", x.of(1, 6), 7);
        due.is("45 stock of 2", x.of(2, 6), 78);
        due.is("45 too few", x.make(4, 40), -3);
        due.is("45 nothing is made", x.told(3), 2);
        due.is("45 nothing is taken", x.told(4), 352);
        due.is("45 all there is", x.make(4, 39), 195);
        due.is("45 stock of 2, none", x.of(2, 6), 0);
        due.is("45 an empty one", x.make(0, 1), -3);
        due.is("45 make(4, 0)", x.make(4, 0), -2);
        due.is("45 make(4, 100)", x.make(4, 100), -2);
        due.is("45 make(16, 0)", x.make(16, 0), -1);
        due.is("45 make(-1, 1)", x.make(-1, 1), -1);
        x.drop(5, 0, 1);
        due.is("45 make(5, 99)", x.make(5, 99), 99);
    }

    private static void promise45Limits() {
        PerfumeOrgan x = new PerfumeOrgan();
        Due.note(x, "a", 0, 1, 1);
        Due.note(x, "b", 1, 1, 1);
        x.fill(0, 99);
        x.fill(1, 99);
        Due.drop(x, 0, 1, 3);
        x.limit(1, 749);
        due.is("45 a limit is broken", x.make(0, 1), -3);
        x.limit(1, 750);
        due.is("45 none is", x.make(0, 1), 4);
        x.limit(0, 249);
        due.is("45 another one is", x.make(0, 1), -3);
        due.is("45 made once", x.told(3), 1);
        due.is("46 lacks() asks no limits", x.lacks(0, 1), -5);
    }

    private static void promise46() {
        PerfumeOrgan x = Due.organOf(3);
        Due.drop(x, 4, 0, 2, 2);
        due.is("46 lacks(4, 1)", x.lacks(4, 1), 1);
        x.fill(1, 198);
        due.is("46 the next one", x.lacks(4, 1), 2);
        x.fill(2, 10);
        due.is("46 just enough", x.lacks(4, 5), -5);
        due.is("46 one too few", x.lacks(4, 6), 2);
        x.fill(2, 188);
        due.is("46 lacks(4, 99)", x.lacks(4, 99), -5);
        due.is("46 an empty one", x.lacks(0, 99), -5);
        due.is("46 lacks(4, 0)", x.lacks(4, 0), -2);
        due.is("46 lacks(4, 100)", x.lacks(4, 100), -2);
        due.is("46 lacks(16, 0)", x.lacks(16, 0), -1);
        due.is("46 lacks(-1, 1)", x.lacks(-1, 1), -1);
        due.is("46 nothing is taken", x.told(4), 396);
    }

    private static void promise47() {
        PerfumeOrgan x = Due.organOf(3);
        due.is("47 an empty one", x.most(15), -3);
        Due.drop(x, 4, 0, 2, 3);
        due.is("47 none", x.most(4), 0);
        x.fill(1, 10);
        due.is("47 none still", x.most(4), 0);
        x.fill(2, 17);
        due.is("47 five", x.most(4), 5);
        x.fill(2, 282);
        x.fill(1, 286);
        due.is("47 as many as may be", x.most(4), 99);
        x.drop(4, 1, 3);
        due.is("47 98", x.most(4), 98);
        x.drop(4, 1, 1);
        x.drop(4, 2, 1);
        due.is("47 99 at most", x.most(4), 99);
        due.is("47 most(16)", x.most(16), -1);
        due.is("47 most(-1)", x.most(-1), -1);
    }

    private static void promise48() {
        PerfumeOrgan x = Due.organOf(2);
        x.fill(0, 99999);
        x.drop(3, 0, 2);
        x.drop(5, 0, 1);
        x.make(3, 4);
        due.is("48 book(0, 0)", x.book(0, 0), 3);
        due.is("48 book(0, 1)", x.book(0, 1), 4);
        due.is("48 book(0, 2)", x.book(0, 2), 8);
        due.is("48 book(0, 3)", x.book(0, 3), -1);
        due.is("48 book(0, -1)", x.book(0, -1), -1);
        due.is("48 book(1, 0)", x.book(1, 0), -1);
        due.is("48 book(-1, 0)", x.book(-1, 0), -1);
        for (int i = 1; i <= 29; i++) {
            x.make(5, i);
        }
        due.is("48 thirty", x.told(3), 30);
        due.is("48 the first one", x.book(29, 0), 3);
        x.make(5, 90);
        due.is("48 thirty still", x.told(3), 30);
        due.is("48 the latest", x.book(0, 1), 90);
        due.is("48 the one ahead", x.book(1, 1), 29);
        due.is("48 the earliest now", x.book(29, 1), 1);
        due.is("48 its blend", x.book(29, 0), 5);
        due.is("48 its drops", x.book(29, 2), 1);
        due.is("48 book(30, 0)", x.book(30, 0), -1);
        x.drop(5, 0, 0);
        due.is("48 what is made stays", x.book(0, 2), 90);
        manyLines();
    }

    private static void manyLines() {
        PerfumeOrgan x = Due.organOf(1);
        x.fill(0, 99999);
        for (int blend = 0; blend < 16; blend++) {
            x.drop(blend, 0, blend + 1);
        }
        for (int i = 0; i < 40; i++) {
            x.make(i % 16, i + 1);
        }
        for (int i = 0; i < 30; i++) {
            int line = 39 - i;
            due.is("48 blend of line " + line, x.book(i, 0), line % 16);
            due.is("48 n of line " + line, x.book(i, 1), line + 1);
            due.is("48 drops of line " + line, x.book(i, 2), (line % 16 + 1) * (line + 1));
        }
    }

    private static void promise49() {
        PerfumeOrgan x = Due.organOf(3);
        Due.drop(x, 0, 1, 2, 0);
        Due.drop(x, 1, 2, 4, 0);
        Due.drop(x, 15, 0, 0, 1);
        Due.accord(x, 0, "a=1");
        Due.accord(x, 5, "a=1");
        x.fill(0, 50);
        x.fill(2, 60);
        x.make(15, 3);
        x.order(0, 99, 1);
        x.order(0, 1, 1);
        x.off(0);
        x.spell(0);
        Due.feed(x, "wxyz");
        int[] told = {3, 3, 2, 1, 107, 4, 7, 2, 2, 1};
        for (int what = 0; what < 10; what++) {
            due.is("49 told(" + what + ")", x.told(what), told[what]);
        }
        due.is("49 told(10)", x.told(10), -1);
        due.is("49 told(-1)", x.told(-1), -1);
        PerfumeOrgan full = Due.organOf(40);
        for (int i = 0; i < 40; i++) {
            full.fill(i, 99999);
        }
        due.is("49 a full stock", full.told(4), 3999960);
        for (int i = 0; i < 16; i++) {
            full.drop(i, i % 5, 1 + i);
        }
        due.is("49 five shapes", full.told(7), 5);
        due.is("49 sixteen blends", full.told(1), 16);
    }
}
