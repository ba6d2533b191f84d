/** Promises 11 to 21: blends and accords, recipes as texts, THE PAPER. */
public final class BlendsTest {
    private static final Due due = new Due("BlendsTest");

    public static void main(String[] args) {
        promise11();
        promise11Faults();
        promise11Numbers();
        promise11Accords();
        promise11CannotBe();
        promise11SharedOut();
        promise12();
        promise13();
        promise14();
        promise15();
        promise16();
        promise16Rests();
        promise17();
        promise18();
        promise18Limits();
        promise18Shapes();
        promise18Nearest();
        promise19();
        promise20();
        promise21();
        due.end();
    }

    private static PerfumeOrgan rosePineOud() {
        PerfumeOrgan x = new PerfumeOrgan();
        Due.note(x, "rose", 2, 250, 20);
        Due.note(x, "pine", 0, 900, 3);
        Due.note(x, "oud", 5, 130, 900);
        return x;
    }

    private static void recipe(PerfumeOrgan x, int blend, String text, int want) {
        due.is("11 " + text, Due.recipe(x, blend, text), want);
        due.is("11 the tape behind " + text, x.told(5), 0);
    }

    private static void promise11() {
        PerfumeOrgan x = rosePineOud();
        recipe(x, 3, "rose=10", 10);
        recipe(x, 3, "rose+5;oud=7;pine+1", 23);
        due.is("11 drops", Due.drops(x, 3), "15 1 7");
        recipe(x, 3, "rose-15;pine-1;oud-6", 1);
        due.is("11 drops less", Due.drops(x, 3), "0 0 1");
        recipe(x, 3, "rose=5;rose=0;rose+2;rose+2", 5);
        due.is("11 in turn", Due.drops(x, 3), "4 0 1");
        recipe(x, 3, "%10", 10);
        due.is("11 shared out", Due.drops(x, 3), "8 0 2");
        recipe(x, 3, "%0", 0);
        due.is("11 shared out to nothing", Due.drops(x, 3), "0 0 0");
        recipe(x, 15, "rose=9999;pine=9999;oud=9999", 29997);
        recipe(x, 15, "oud-9999", 19998);
        Due.feed(x, "rose=1");
        due.is("11 blend 16", x.recipe(16), -1);
        due.is("11 blend -1", x.recipe(-1), -1);
        due.is("11 the tape stays", x.told(5), 6);
        due.is("11 then", x.recipe(0), 1);
    }

    private static void promise11Faults() {
        PerfumeOrgan x = rosePineOud();
        recipe(x, 0, "rose=1", 1);
        recipe(x, 0, "", -100);
        recipe(x, 0, ";", -100);
        recipe(x, 0, "=5", -100);
        recipe(x, 0, "ros=5", -100);
        recipe(x, 0, "roses=5", -100);
        recipe(x, 0, "ros", -100);
        recipe(x, 0, "rosepineoud=1", -100);
        recipe(x, 0, "Rose=5", -100);
        recipe(x, 0, "rosE=5", -100);
        recipe(x, 0, "rose", -104);
        recipe(x, 0, "rose*5", -104);
        recipe(x, 0, "rose5", -104);
        recipe(x, 0, "rose=", -105);
        recipe(x, 0, "rose=;", -105);
        recipe(x, 0, "rose==5", -105);
        recipe(x, 0, "rose=-5", -105);
        recipe(x, 0, "rose=5;", -107);
        recipe(x, 0, "rose=5;;", -107);
        recipe(x, 0, "rose=5,oud=1", -106);
        recipe(x, 0, "rose=5 ", -106);
        recipe(x, 0, "rose=5;oak=1", -107);
        recipe(x, 0, "rose=5;oud=1x", -112);
        recipe(x, 0, "oak=1;=", -100);
        recipe(x, 0, "%", -101);
        recipe(x, 0, "%x", -101);
        recipe(x, 0, "%=5", -101);
        recipe(x, 0, "rose=5;%12;rose", -115);
        due.is("11 nothing is done", Due.drops(x, 0), "1 0 0");
        recipe(x, 0, "rose-9;oud=x", -111);
        recipe(x, 0, "rose-9;oud=1", -2000);
        Due.note(x, "jasmine", 0, 1, 1);
        recipe(x, 0, "jasmine+2", 3);
        recipe(x, 0, "jasminee+2", -100);
    }

    private static void promise11Numbers() {
        PerfumeOrgan x = rosePineOud();
        recipe(x, 0, "rose=0007", 7);
        recipe(x, 0, "rose=00007", -109);
        recipe(x, 0, "rose=9999", 9999);
        recipe(x, 0, "rose=10000", -109);
        recipe(x, 0, "rose=12/", -107);
        recipe(x, 0, "rose=12:", -107);
        recipe(x, 0, "rose=/", -105);
        recipe(x, 0, "rose=:", -105);
        recipe(x, 0, "rose=0", 0);
        recipe(x, 0, "rose=9", 9);
        StringBuilder parts = new StringBuilder("%9");
        for (int i = 1; i < 40; i++) {
            parts.append(";%").append(i % 9 + 1);
        }
        recipe(x, 0, parts.toString(), 39 % 9 + 1);
        recipe(x, 0, parts + ";", -100 - 120);
        recipe(x, 0, parts.substring(0, 117) + "a-0", -100 - 117);
    }

    private static void promise11Accords() {
        PerfumeOrgan x = rosePineOud();
        due.is("12 accord 3", Due.accord(x, 3, "rose=2;oud=1"), 3);
        due.is("12 accord 5", Due.accord(x, 5, "pine=1"), 1);
        recipe(x, 4, "@3=7", 7);
        due.is("11 @3=7", Due.drops(x, 4), "5 0 2");
        recipe(x, 4, "@3=1;pine+5;%3", 3);
        due.is("11 @3=1;pine+5;%3", Due.drops(x, 4), "1 1 1");
        recipe(x, 4, "@0003=3", 6);
        recipe(x, 4, "@5=10;@3=0", 16);
        due.is("11 @5=10", Due.drops(x, 4), "3 11 2");
        due.is("12 the accord is as it was", Due.drops(x, 19), "2 0 1");
        recipe(x, 4, "@6=1", -101);
        recipe(x, 4, "@6", -101);
        recipe(x, 4, "@12345", -101);
        recipe(x, 4, "@00003=1", -105);
        recipe(x, 4, "@", -101);
        recipe(x, 4, "@=1", -101);
        recipe(x, 4, "@x=1", -101);
        recipe(x, 4, "@3", -102);
        recipe(x, 4, "@3;", -102);
        recipe(x, 4, "@3+1", -102);
        recipe(x, 4, "@3=", -103);
        recipe(x, 4, "@3=12345", -107);
        recipe(x, 4, "rose=1;@9=1", -108);
        due.is("11 nothing is done", Due.drops(x, 4), "3 11 2");
    }

    private static void promise11CannotBe() {
        PerfumeOrgan x = rosePineOud();
        due.is("12 accord 3", Due.accord(x, 3, "rose=2;oud=1"), 3);
        recipe(x, 0, "rose=5", 5);
        recipe(x, 0, "rose-6", -2000);
        recipe(x, 0, "rose=1;rose-1;rose-1;oud=5", -2002);
        recipe(x, 0, "rose=9999;rose+1", -2001);
        recipe(x, 0, "rose+9995", -2000);
        recipe(x, 0, "rose+9994", 9999);
        recipe(x, 0, "@3=1", -2000);
        recipe(x, 0, "rose=9997;@3=4", -2001);
        recipe(x, 0, "rose=9997;@3=3", 10000);
        due.is("11 drops", Due.drops(x, 0), "9999 0 1");
        recipe(x, 0, "oud=9;@0=1", -2001);
        recipe(x, 0, "oud=9;@0=0", -2001);
        recipe(x, 0, "rose=0;oud=0;%5", -2002);
        recipe(x, 0, "%0;%5", -2001);
        recipe(x, 1, "%5", -2000);
        recipe(x, 1, "%0", -2000);
        recipe(x, 1, "oud=1;%5", 5);
        due.is("11 nothing is done", Due.drops(x, 0), "9999 0 1");
    }

    private static void promise11SharedOut() {
        PerfumeOrgan x = Due.organOf(5);
        recipe(x, 0, "a=1;b=1;c=1;d=1;e=1;%3", 3);
        due.is("11 of several the least", Due.drops(x, 0), "1 1 1 0 0");
        recipe(x, 0, "a=1;b=3;c=3;d=3;%6", 6);
        due.is("11 the greatest rests", Due.drops(x, 0), "0 2 2 2 0");
        recipe(x, 0, "a=3;b=1;c=0;d=3;%6", 6);
        due.is("11 the first of two rests", Due.drops(x, 0), "3 1 0 2 0");
        recipe(x, 0, "a=9999;b=9999;c=9999;d=9999;e=9999;%9999", 9999);
        due.is("11 great ones", Due.drops(x, 0), "2000 2000 2000 2000 1999");
    }

    private static void promise12() {
        PerfumeOrgan x = rosePineOud();
        due.is("12 accord 0", Due.accord(x, 0, "rose=4;oud=2"), 6);
        due.is("12 accord 5", Due.accord(x, 5, "rose+4;rose-1;%9"), 9);
        due.is("12 drops of 0", Due.drops(x, 16), "4 0 2");
        due.is("12 drops of 5", Due.drops(x, 21), "9 0 0");
        due.is("12 an accord of an accord", Due.accord(x, 1, "@0=1"), -100);
        due.is("12 an accord of an accord, behind", Due.accord(x, 1, "rose=1;@0=1"), -107);
        due.is("12 nothing is done", x.told(2), 2);
        due.is("12 a fault", Due.accord(x, 1, "rose"), -104);
        due.is("12 can't be", Due.accord(x, 1, "%1"), -2000);
        due.is("12 can't be, behind", Due.accord(x, 0, "rose+1;oud-3"), -2001);
        due.is("12 drops of 0 still", Due.drops(x, 16), "4 0 2");
        due.is("12 blends stay", x.told(1), 0);
        Due.feed(x, "rose=1");
        due.is("12 accord 6", x.accord(6), -1);
        due.is("12 accord -1", x.accord(-1), -1);
        due.is("12 the tape stays", x.told(5), 6);
        due.is("12 then", x.accord(1), 1);
        due.is("12 the tape behind", x.told(5), 0);
    }

    private static void promise13() {
        PerfumeOrgan x = Due.organOf(2);
        due.is("13 drop(0, 1, 5)", x.drop(0, 1, 5), 0);
        due.is("13 drop(0, 1, 9999)", x.drop(0, 1, 9999), 5);
        due.is("13 drop(0, 1, 10000)", x.drop(0, 1, 10000), -2);
        due.is("13 drop(0, 1, -1)", x.drop(0, 1, -1), -2);
        due.is("13 drop(0, 1, 0)", x.drop(0, 1, 0), 9999);
        due.is("13 drop(15, 0, 3)", x.drop(15, 0, 3), 0);
        due.is("13 drop(16, 0, -1)", x.drop(16, 0, -1), -1);
        due.is("13 drop(-1, 0, 1)", x.drop(-1, 0, 1), -1);
        due.is("13 drop(0, 2, 1)", x.drop(0, 2, 1), -1);
        due.is("13 drop(0, -1, 1)", x.drop(0, -1, 1), -1);
        due.is("13 drops", Due.drops(x, 15), "3 0");
        due.is("13 all", x.blend(15, 0), 3);
    }

    private static void promise14() {
        PerfumeOrgan x = Due.organOf(2);
        x.drop(15, 1, 7);
        Due.accord(x, 0, "a=3");
        Due.accord(x, 5, "b=4");
        due.is("14 drops(15, 1)", x.drops(15, 1), 7);
        due.is("14 drops(15, 0)", x.drops(15, 0), 0);
        due.is("14 drops(16, 0)", x.drops(16, 0), 3);
        due.is("14 drops(21, 1)", x.drops(21, 1), 4);
        due.is("14 drops(22, 0)", x.drops(22, 0), -1);
        due.is("14 drops(-1, 0)", x.drops(-1, 0), -1);
        due.is("14 drops(0, 2)", x.drops(0, 2), -1);
        due.is("14 drops(0, -1)", x.drops(0, -1), -1);
    }

    private static void promise15() {
        PerfumeOrgan x = Due.organOf(3);
        Due.drop(x, 0, 1, 2, 3);
        Due.accord(x, 5, "c=4");
        due.is("15 copy(0, 15)", x.copy(0, 15), 6);
        due.is("15 drops", Due.drops(x, 15), "1 2 3");
        due.is("15 copy(21, 15)", x.copy(21, 15), 4);
        due.is("15 drops of the accord", Due.drops(x, 15), "0 0 4");
        due.is("15 copy(0, 0)", x.copy(0, 0), 6);
        x.drop(15, 0, 9);
        due.is("15 its own", Due.drops(x, 21), "0 0 4");
        due.is("15 copy(1, 0)", x.copy(1, 0), 0);
        due.is("15 drops of none", Due.drops(x, 0), "0 0 0");
        due.is("15 copy(22, 0)", x.copy(22, 0), -1);
        due.is("15 copy(-1, 0)", x.copy(-1, 0), -1);
        due.is("15 copy(15, 16)", x.copy(15, 16), -1);
        due.is("15 copy(15, -1)", x.copy(15, -1), -1);
    }

    private static void promise16() {
        PerfumeOrgan x = Due.organOf(3);
        due.is("16 empty", x.scale(0, 5), -3);
        due.is("16 empty, bad", x.scale(0, 10000), -2);
        Due.drop(x, 0, 5, 3, 2);
        due.is("16 scale(0, 9999)", x.scale(0, 9999), 3);
        due.is("16 drops", Due.drops(x, 0), "4999 3000 2000");
        due.is("16 scale(0, 10)", x.scale(0, 10), 3);
        due.is("16 drops back", Due.drops(x, 0), "5 3 2");
        due.is("16 scale(0, 1)", x.scale(0, 1), 1);
        due.is("16 one", Due.drops(x, 0), "1 0 0");
        due.is("16 scale(0, 10000)", x.scale(0, 10000), -2);
        due.is("16 scale(0, -1)", x.scale(0, -1), -2);
        due.is("16 scale(16, -1)", x.scale(16, -1), -1);
        due.is("16 scale(-1, 1)", x.scale(-1, 1), -1);
        due.is("16 scale(0, 0)", x.scale(0, 0), 0);
        due.is("16 empty then", x.blend(0, 0), 0);
    }

    private static void promise16Rests() {
        PerfumeOrgan x = Due.organOf(40);
        for (int i = 0; i < 40; i++) {
            x.drop(0, i, 9999);
            x.drop(1, i, i + 1);
        }
        due.is("16 forty alike", x.scale(0, 39), 39);
        due.is("16 the last has none", x.drops(0, 39), 0);
        due.is("16 the one ahead has one", x.drops(0, 38), 1);
        // 820 in all: each of the last has a rest of 41 less than its number.
        due.is("16 one to each number", x.scale(1, 20), 20);
        due.is("16 note 19", x.drops(1, 19), 0);
        due.is("16 note 20", x.drops(1, 20), 1);
        due.is("16 note 39", x.drops(1, 39), 1);
    }

    private static void promise17() {
        PerfumeOrgan x = Due.organOf(3);
        Due.drop(x, 0, 1, 2, 0);
        Due.drop(x, 15, 5, 0, 9999);
        due.is("17 mix(0, 15)", x.mix(0, 15), 10007);
        due.is("17 drops", Due.drops(x, 0), "6 2 9999");
        due.is("17 the other's", Due.drops(x, 15), "5 0 9999");
        due.is("17 full", x.mix(0, 15), -4);
        due.is("17 full by itself", x.mix(0, 0), -4);
        due.is("17 nothing is changed", Due.drops(x, 0), "6 2 9999");
        x.drop(0, 2, 0);
        due.is("17 just full", x.mix(0, 15), 10012);
        x.drop(0, 2, 4999);
        due.is("17 itself", x.mix(0, 0), 10024);
        due.is("17 twice", Due.drops(x, 0), "22 4 9998");
        due.is("17 mix(16, 0)", x.mix(16, 0), -1);
        due.is("17 mix(0, 16)", x.mix(0, 16), -1);
        due.is("17 mix(-1, 0)", x.mix(-1, 0), -1);
        due.is("17 mix(0, -1)", x.mix(0, -1), -1);
        due.is("17 two empty ones", x.mix(3, 4), 0);
    }

    private static void promise18() {
        PerfumeOrgan x = new PerfumeOrgan();
        Due.note(x, "a", 7, 1000, 1);
        Due.note(x, "b", 0, 500, 999);
        Due.note(x, "c", 7, 1, 1);
        Due.drop(x, 2, 9, 1, 2);
        due.is("18 all", x.blend(2, 0), 12);
        due.is("18 notes with drops", x.blend(2, 1), 3);
        due.is("18 turns", x.blend(2, 2), 1);
        due.is("18 limits", x.blend(2, 3), 0);
        due.is("18 families", x.blend(2, 4), 129);
        x.drop(2, 1, 0);
        due.is("18 one family", x.blend(2, 4), 128);
        due.is("18 two notes", x.blend(2, 1), 2);
        due.is("18 what 7", x.blend(2, 7), -1);
        due.is("18 what -1", x.blend(2, -1), -1);
        due.is("18 blend 16", x.blend(16, 0), -1);
        due.is("18 blend -1", x.blend(-1, 0), -1);
        int[] empty = {0, 0, 0, 0, 0, 0, 2};
        for (int what = 0; what <= 6; what++) {
            due.is("18 an empty one, " + what, x.blend(3, what), empty[what]);
        }
    }

    private static void promise18Limits() {
        PerfumeOrgan x = new PerfumeOrgan();
        Due.note(x, "a", 7, 1, 1);
        Due.note(x, "b", 3, 1, 1);
        Due.note(x, "c", 7, 1, 1);
        Due.drop(x, 0, 1, 2, 1);
        x.limit(7, 500);
        due.is("18 just as much", x.blend(0, 3), 0);
        x.limit(7, 499);
        due.is("18 more", x.blend(0, 3), 128);
        x.limit(3, 0);
        due.is("18 two broken", x.blend(0, 3), 136);
        x.limit(0, 0);
        due.is("18 a family without drops", x.blend(0, 3), 136);
        due.is("18 an empty one", x.blend(1, 3), 0);
    }

    private static void promise18Shapes() {
        PerfumeOrgan x = Due.organOf(3);
        Due.drop(x, 0, 1, 2, 3);
        Due.drop(x, 1, 3, 6, 9);
        Due.drop(x, 15, 3333, 6666, 9999);
        Due.drop(x, 14, 3332, 6666, 9999);
        Due.drop(x, 2, 1, 2, 4);
        Due.accord(x, 0, "a=1;b=2;c=3");
        due.is("18 shape of 0", x.blend(0, 5), 2 + (1 << 15));
        due.is("18 shape of 1", x.blend(1, 5), 1 + (1 << 15));
        due.is("18 shape of 15", x.blend(15, 5), 3);
        due.is("18 shape of 14", x.blend(14, 5), 0);
        due.is("18 shape of 2", x.blend(2, 5), 0);
        due.is("18 shape of an empty one", x.blend(3, 5), 0);
        PerfumeOrgan full = Due.organOf(40);
        for (int i = 0; i < 40; i++) {
            full.drop(0, i, 9999);
            full.drop(1, i, 5000 + (i == 39 ? 1 : 0));
        }
        due.is("18 great ones", full.blend(0, 5), 0);
        full.drop(1, 39, 5000);
        due.is("18 great ones of one shape", full.blend(0, 5), 2);
    }

    private static void promise18Nearest() {
        PerfumeOrgan x = Due.organOf(3);
        Due.drop(x, 4, 1, 1, 0);
        due.is("18 the only one", x.blend(4, 6), -5);
        due.is("18 nearest to an empty one", x.blend(5, 6), 4);
        Due.drop(x, 9, 0, 0, 5);
        due.is("18 one other", x.blend(4, 6), 9);
        Due.drop(x, 7, 2, 1, 0);
        due.is("18 a nearer one", x.blend(4, 6), 7);
        Due.drop(x, 2, 4, 2, 0);
        due.is("18 of several the least", x.blend(4, 6), 2);
        due.is("18 one as it is", x.blend(7, 6), 2);
    }

    private static void promise19() {
        PerfumeOrgan x = rosePineOud();
        due.is("19 an empty one", x.spell(0), 0);
        due.is("19 an empty paper", Due.paper(x), "");
        Due.drop(x, 0, 10, 9999, 1);
        due.is("19 spell(0)", x.spell(0), 23);
        due.is("19 the paper", Due.paper(x), "pine=9999;rose=10;oud=1");
        due.is("19 told(6)", x.told(6), 23);
        Due.note(x, "amber", 2, 1, 20);
        x.drop(0, 3, 1000);
        x.drop(0, 1, 0);
        due.is("19 spell(0) then", x.spell(0), 24);
        due.is("19 the paper then", Due.paper(x), "amber=1000;rose=10;oud=1");
        due.is("19 spell(16)", x.spell(16), -1);
        due.is("19 spell(-1)", x.spell(-1), -1);
        due.is("19 the paper stays", x.told(6), 24);
        due.is("19 spell(15)", x.spell(15), 0);
        due.is("19 nothing on it", x.paper(0), -1);
        x.spell(0);
        String text = Due.paper(x);
        due.is("19 read again", Due.recipe(x, 7, text), 1011);
        due.is("19 of one shape", x.blend(0, 5), 128);
    }

    private static void promise20() {
        PerfumeOrgan x = rosePineOud();
        Due.drop(x, 0, 10, 5, 1);
        Due.drop(x, 1, 10, 0, 100);
        due.is("20 differ(0, 1)", x.differ(0, 1), 14);
        due.is("20 the paper", Due.paper(x), "pine=0;oud=100");
        due.is("20 differ(1, 0)", x.differ(1, 0), 12);
        due.is("20 the other paper", Due.paper(x), "pine=5;oud=1");
        due.is("20 differ(0, 16)", x.differ(0, 16), -1);
        due.is("20 differ(16, 0)", x.differ(16, 0), -1);
        due.is("20 differ(0, -1)", x.differ(0, -1), -1);
        due.is("20 differ(-1, 0)", x.differ(-1, 0), -1);
        due.is("20 the paper stays", Due.paper(x), "pine=5;oud=1");
        due.is("20 differ(0, 0)", x.differ(0, 0), 0);
        due.is("20 nothing", Due.paper(x), "");
        due.is("20 differ(15, 0)", x.differ(15, 0), 20);
        due.is("20 from an empty one", Due.paper(x), "pine=5;rose=10;oud=1");
    }

    private static void promise21() {
        PerfumeOrgan x = new PerfumeOrgan();
        due.is("21 paper(0), nothing", x.paper(0), -1);
        StringBuilder want = new StringBuilder();
        for (int i = 0; i < 40; i++) {
            String name = "zzzzz" + (char) ('a' + i / 20) + (char) ('a' + i % 20);
            Due.note(x, name, 0, 1, 1);
            x.drop(0, i, 9999);
            want.append(i == 0 ? "" : ";").append(name).append("=9999");
        }
        due.is("21 the longest", x.spell(0), 519);
        due.is("21 paper(518)", x.paper(518), '9');
        due.is("21 paper(519)", x.paper(519), -1);
        due.is("21 paper(-1)", x.paper(-1), -1);
        PerfumeOrgan y = rosePineOud();
        y.drop(0, 0, 203);
        y.spell(0);
        due.is("21 a nought within", Due.paper(y), "rose=203");
        due.is("21 the whole", want.length(), 519);
    }
}
