/** "Terms" 3 on texts, sentence by sentence: THE TAPE, NAMES, numbers, RECIPES, THE PAPER. */
public final class TextsTest {
    private static final Due due = new Due("TextsTest");
    private static final String TEXT = "rose=10;@3=7;%25;oud-1";

    public static void main(String[] args) {
        tape();
        tapeReadWhole();
        names();
        namesInRecipes();
        endsTooEarly();
        goesNoFurther();
        ofAnAccord();
        numbersOfDrops();
        numbersOfAccords();
        firstFault();
        noBlanks();
        dropsCannotBe();
        accordsCannotBe();
        percentCannotBe();
        whichPart();
        nothingIsDone();
        paperHoldsTheLatest();
        spelledInOrder();
        changed();
        due.end();
    }

    private static PerfumeOrgan roseAndOud() {
        PerfumeOrgan x = new PerfumeOrgan();
        Due.note(x, "rose", 2, 250, 20);
        Due.note(x, "oud", 5, 130, 900);
        Due.accord(x, 3, "rose=2;oud=1");
        return x;
    }

    private static void recipe(PerfumeOrgan x, String text, int want) {
        due.is(text, Due.recipe(x, 0, text), want);
        due.is("the tape behind " + text, x.told(5), 0);
    }

    // THE TAPE holds 0 .. 120 bytes
    private static void tape() {
        PerfumeOrgan x = new PerfumeOrgan();
        due.is("nothing", x.clear(), 0);
        due.is("the least byte", x.feed(1), 1);
        due.is("the greatest byte", x.feed(127), 2);
        for (int byteOf : new int[] {0, 128, -1, 256 + 'a', Integer.MIN_VALUE, Integer.MAX_VALUE}) {
            due.is("feed(" + byteOf + ")", x.feed(byteOf), -2);
        }
        for (int i = 3; i <= 120; i++) {
            due.is("byte " + i, x.feed('a'), i);
        }
        due.is("byte 121", x.feed('a'), -4);
        due.is("no byte, full", x.feed(128), -2);
        due.is("full", x.told(5), 120);
        due.is("clear()", x.clear(), 120);
        due.is("empty", x.told(5), 0);
        due.is("from the beginning", x.feed('a'), 1);
    }

    private static PerfumeOrgan withTwoNames() {
        PerfumeOrgan x = new PerfumeOrgan();
        Due.note(x, "a", 0, 1, 1);
        Due.note(x, "bcd", 0, 1, 1);
        return x;
    }

    private static void tapeReadWhole() {
        StringBuilder parts = new StringBuilder();
        for (int i = 0; i < 16; i++) {
            parts.append("a+0001;");
        }
        String[] ends = {"bcd+0009", "bcd+000x", "bcd+09;%", "bcd+009;", "bcd=8;%4", "bcd=9;b="};
        int[] wants = {25, -219, -220, -220, 4, -218};
        for (int i = 0; i < ends.length; i++) {
            due.is("120 bytes", (parts + ends[i]).length(), 120);
            recipe(withTwoNames(), parts + ends[i], wants[i]);
        }
        due.is("too long, the rest isn't there", Due.recipe(withTwoNames(), 0, parts + "bcd+0009x"), 25);
        String[] calls = {"note", "find", "recipe"};
        int[] answers = {-107, -5, -100};
        for (int i = 0; i < calls.length; i++) {
            PerfumeOrgan x = withTwoNames();
            for (int k = 0; k < 120; k++) {
                x.feed('a');
            }
            int got = i == 0 ? x.note(0, 1, 1) : i == 1 ? x.find() : x.recipe(0);
            due.is("120 letters, " + calls[i], got, answers[i]);
            due.is("the tape behind " + calls[i], x.told(5), 0);
        }
    }

    private static void note(PerfumeOrgan x, String name, int want) {
        due.is("the name " + name, Due.note(x, name, 0, 1, 1), want);
        due.is("the tape behind " + name, x.told(5), 0);
    }

    // a NAME (1 to 7 letters a .. z, no two alike); .. of 8 letters: at the eighth
    private static void names() {
        PerfumeOrgan x = new PerfumeOrgan();
        note(x, "", -100);
        note(x, "z", 0);
        note(x, "zzzzzzz", 1);
        note(x, "zzzzzz", 2);
        note(x, "zzzzzzzz", -107);
        note(x, "zzzzzzz=", -107);
        note(x, "zzzzzzzzz", -107);
        note(x, "aaaaaaa", 3);
        note(x, "z", -3);
        note(x, "zzzzzzz", -3);
        note(x, "zzzzzza", 4);
        note(x, "azzzzzz", 5);
        note(x, "Z", -100);
        note(x, "z1", -101);
        note(x, "zzzzzz1", -106);
        note(x, "z z", -101);
        note(x, "`", -100);
        note(x, "{", -100);
        note(x, "" + (char) 1, -100);
        note(x, "q" + (char) 127, -101);
        due.is("find z", Due.find(x, "z"), 0);
        due.is("find zzzzzzz", Due.find(x, "zzzzzzz"), 1);
        due.is("find zzzzz", Due.find(x, "zzzzz"), -5);
        due.is("find 8 letters", Due.find(x, "zzzzzzzz"), -5);
        due.is("find nothing", Due.find(x, ""), -5);
        due.is("find no name", Due.find(x, "z="), -5);
        due.is("find no name, either", Due.find(x, "=z"), -5);
        due.is("notes", x.told(0), 6);
    }

    // of a NAME that no NOTE has .. where it begins; a NAME is as many letters a .. z as stand there
    private static void namesInRecipes() {
        PerfumeOrgan x = roseAndOud();
        Due.note(x, "jasmine", 0, 1, 1);
        recipe(x, "jasmine=1", 1);
        recipe(x, "jasmines=1", -100);
        recipe(x, "jasmin=1", -100);
        recipe(x, "ro=1", -100);
        recipe(x, "oudrose=1", -100);
        recipe(x, "abcdefghijklmnopqrstuvwxyz=1", -100);
        recipe(x, "rose=1;ouds=1", -107);
        recipe(x, "rose=1;ou", -107);
        recipe(x, "rose=1;ou!", -107);
        recipe(x, "rose=1;oud!", -110);
        recipe(x, "rose=1;oud", -110);
        recipe(x, "rose=1;!", -107);
    }

    // the length, if it ends too early
    private static void endsTooEarly() {
        // Of each beginning of TEXT: the place of the fault, -1 if it is a recipe.
        int[] faults = {0, 0, 0, 0, 4, 5, -1, -1, 8, 9, 10, 11, -1, 13, 14, -1, -1, 17, 17, 17, 20, 21, -1};
        for (int length = 0; length <= TEXT.length(); length++) {
            PerfumeOrgan x = roseAndOud();
            int got = Due.recipe(x, 0, TEXT.substring(0, length));
            due.is(TEXT.substring(0, length), Math.min(got, 0), faults[length] < 0 ? 0 : -100 - faults[length]);
        }
        PerfumeOrgan x = roseAndOud();
        recipe(x, TEXT, 24);
        due.is("the drops", Due.drops(x, 0), "22 2");
    }

    // otherwise the place (from 0) of the first byte with which no such text goes on
    private static void goesNoFurther() {
        for (int place = 0; place < TEXT.length(); place++) {
            // A name that is broken off is one that no note has.
            int want = place < 4 ? 0 : place >= 17 && place < 20 ? 17 : place;
            for (char sign : new char[] {'!', ' ', 'R', 1, 127}) {
                PerfumeOrgan x = roseAndOud();
                recipe(x, TEXT.substring(0, place) + sign + TEXT.substring(place + 1), -100 - want);
                due.is("nothing is done", x.blend(0, 0), 0);
            }
        }
        PerfumeOrgan x = roseAndOud();
        recipe(x, TEXT + "x", -122);
        recipe(x, TEXT + "2345", -125);
        recipe(x, TEXT + ";", -123);
    }

    // @k=n (not of an ACCORD)
    private static void ofAnAccord() {
        PerfumeOrgan x = roseAndOud();
        due.is("@ of an accord", Due.accord(x, 0, "@3=7"), -100);
        due.is("@ of an accord, of none", Due.accord(x, 0, "@9"), -100);
        due.is("@ of an accord, behind", Due.accord(x, 0, "rose=1;@3=7"), -107);
        due.is("@ alone", Due.accord(x, 0, "@"), -100);
        due.is("% of an accord", Due.accord(x, 0, "rose=5;oud=5;%4"), 4);
        due.is("=, + and - of an accord", Due.accord(x, 5, "rose=5;rose+4;rose-2"), 7);
        due.is("% of an empty accord", Due.accord(x, 1, "%4"), -2000);
        due.is("below 0", Due.accord(x, 5, "rose-7;rose-1"), -2001);
        due.is("above 9999", Due.accord(x, 5, "rose+9992;rose+1"), -2001);
        due.is("just 9999", Due.accord(x, 5, "rose+9992"), 9999);
        due.is("just 0", Due.accord(x, 5, "rose-9999"), 0);
        due.is("an accord is empty again", x.told(2), 2);
        due.is("a fault of an accord", Due.accord(x, 5, "rose=1;oud="), -111);
        due.is("nothing on the tape", Due.accord(x, 5, ""), -100);
    }

    // numbers have 1 to 4 figures (four at most are taken, and looked at ahead of the byte behind)
    private static void numbersOfDrops() {
        for (String head : new String[] {"rose=", "rose+", "%", "@3=", "rose=1;oud=", "%1;%", "@3=1;@3="}) {
            PerfumeOrgan x = roseAndOud();
            int at = 100 + head.length();
            due.is("one drop", Due.recipe(x, 0, "oud=1"), 1);
            recipe(x, head, -at);
            recipe(x, head + "x", -at);
            recipe(x, head + ";", -at);
            recipe(x, head + "-1", -at);
            recipe(x, head + "/", -at);
            recipe(x, head + ":", -at);
            recipe(x, head + "5x", -at - 1);
            recipe(x, head + "5555x", -at - 4);
            recipe(x, head + "55555", -at - 4);
            recipe(x, head + "00000", -at - 4);
            recipe(x, head + "00001;", -at - 4);
            recipe(x, head + "1234;", -at - 5);
            due.is("one drop still", x.blend(0, 0), 1);
            due.is("four figures, " + head, Math.min(Due.recipe(x, 0, head + "0009"), 0), 0);
            due.is("one figure, " + head, Math.min(Due.recipe(x, 0, head + "0"), 0), 0);
        }
        PerfumeOrgan x = roseAndOud();
        recipe(x, "rose=9999", 9999);
        recipe(x, "rose-9999", 0);
        recipe(x, "rose+9999", 9999);
        recipe(x, "%9999", 9999);
        recipe(x, "rose=0001", 1);
        recipe(x, "rose=10", 10);
        recipe(x, "rose=0", 0);
        recipe(x, "@3=9999", 9999);
        due.is("the drops", Due.drops(x, 0), "6666 3333");
    }

    // a number that may not be, where it begins: ACCORD k (0 .. 5)
    private static void numbersOfAccords() {
        PerfumeOrgan x = roseAndOud();
        Due.accord(x, 0, "oud=1");
        Due.accord(x, 5, "rose=1");
        recipe(x, "@0=1", 1);
        recipe(x, "@5=1", 2);
        recipe(x, "@0005=1", 3);
        recipe(x, "@6=1", -101);
        recipe(x, "@0006=1", -101);
        recipe(x, "@9999=1", -101);
        recipe(x, "@10=1", -101);
        recipe(x, "@6", -101);
        recipe(x, "@6x", -101);
        recipe(x, "@6=", -101);
        recipe(x, "@99999=1", -101);
        recipe(x, "@00005=1", -105);
        recipe(x, "@00006=1", -105);
        recipe(x, "@5", -102);
        recipe(x, "@5x", -102);
        recipe(x, "@5-1", -102);
        recipe(x, "@", -101);
        recipe(x, "@=1", -101);
        recipe(x, "@-1=1", -101);
        recipe(x, "rose=9;@7=1", -108);
        due.is("the drops", Due.drops(x, 0), "2 1");
    }

    // read from the left, the first FAULT that is met is told, ahead of any part that can't be
    private static void firstFault() {
        PerfumeOrgan x = roseAndOud();
        recipe(x, "rose=x;oak=1", -105);
        recipe(x, "oak=1;rose=x", -100);
        recipe(x, "@9=1;oak=1", -101);
        recipe(x, "oak=1;@9=1", -100);
        recipe(x, "rose-1;oak=1", -107);
        recipe(x, "rose-1;rose=", -112);
        recipe(x, "%5;", -103);
        recipe(x, "@0=1;@6=1", -106);
        recipe(x, "rose=9999;rose+1;x", -117);
        recipe(x, "rose-1", -2000);
    }

    // A RECIPE (no blanks): parts, one or more, parted by ;
    private static void noBlanks() {
        PerfumeOrgan x = roseAndOud();
        recipe(x, " rose=1", -100);
        recipe(x, "rose =1", -104);
        recipe(x, "rose= 1", -105);
        recipe(x, "rose=1 ;oud=1", -106);
        recipe(x, "rose=1; oud=1", -107);
        recipe(x, "% 1", -101);
        recipe(x, "@ 3=1", -101);
        recipe(x, "", -100);
        recipe(x, ";", -100);
        recipe(x, ";rose=1", -100);
        recipe(x, "rose=1;", -107);
        recipe(x, "rose=1;;oud=1", -107);
        recipe(x, "rose=1,oud=1", -106);
        recipe(x, "rose=1", 1);
    }

    // One that can't be (DROPS below 0, or above 9999; ..)
    private static void dropsCannotBe() {
        PerfumeOrgan x = roseAndOud();
        recipe(x, "rose-1", -2000);
        recipe(x, "rose-0", 0);
        recipe(x, "rose+1", 1);
        recipe(x, "rose-2", -2000);
        recipe(x, "rose+9999", -2000);
        recipe(x, "rose+9998", 9999);
        recipe(x, "rose+1", -2000);
        recipe(x, "rose+0", 9999);
        recipe(x, "rose-9999;rose-1", -2001);
        recipe(x, "rose-1;rose+2", -2001);
        recipe(x, "oud=9999", 19998);
        recipe(x, "rose-9999;oud-9999", 0);
    }

    // ACCORD k .. EMPTY; n SHARED OUT by its DROPS, comes to it
    private static void accordsCannotBe() {
        PerfumeOrgan x = roseAndOud();
        recipe(x, "@2=1", -2000);
        recipe(x, "@2=0", -2000);
        recipe(x, "@3=0", 0);
        recipe(x, "@3=1", 1);
        due.is("a tie of none, the greatest rest", Due.drops(x, 0), "1 0");
        recipe(x, "@3=2", 3);
        due.is("the rests", Due.drops(x, 0), "2 1");
        recipe(x, "rose=9997;oud=0;@3=3", 10000);
        recipe(x, "@3=1", -2000);
        recipe(x, "rose=9998;@3=3", -2001);
        recipe(x, "rose=9998;@3=2", 10001);
        due.is("at its end", Due.drops(x, 0), "9999 2");
        due.is("the accord stays", Due.drops(x, 19), "2 1");
        Due.accord(x, 3, "%0");
        recipe(x, "rose=0;oud=0;@3=1", -2002);
    }

    // %n: it becomes n SHARED OUT by its own DROPS; .. what % is of, EMPTY
    private static void percentCannotBe() {
        PerfumeOrgan x = roseAndOud();
        recipe(x, "%1", -2000);
        recipe(x, "%0", -2000);
        recipe(x, "rose=1;%3", 3);
        recipe(x, "%0;%1", -2001);
        recipe(x, "%0;%0", -2001);
        recipe(x, "rose-3;%1", -2001);
        recipe(x, "%9999", 9999);
        recipe(x, "oud=9999;%2", 2);
        due.is("a tie", Due.drops(x, 0), "1 1");
        recipe(x, "%1", 1);
        due.is("of two the least", Due.drops(x, 0), "1 0");
        recipe(x, "%0", 0);
        due.is("empty then", x.told(1), 0);
    }

    // -2000 less which part it is (0 the first)
    private static void whichPart() {
        PerfumeOrgan x = Due.organOf(1);
        StringBuilder parts = new StringBuilder("a+1");
        for (int i = 1; i < 29; i++) {
            parts.append(";a+1");
        }
        recipe(x, parts + ";a+1", 30);
        recipe(x, parts + ";a-60", -2029);
        StringBuilder shared = new StringBuilder("%9");
        for (int i = 1; i < 39; i++) {
            shared.append(";%").append(i == 38 ? 0 : 9);
        }
        recipe(x, shared + ";%9", -2039);
        recipe(x, "a-31;a-31", -2000);
        recipe(x, "a-30;a-1;a-1", -2001);
        due.is("thirty still", x.blend(0, 0), 30);
    }

    // nothing of the RECIPE is done; A text with a FAULT does nothing
    private static void nothingIsDone() {
        String[] texts = {"rose=9;oud=9;%9;@3=9;rose-9999", "rose=9;oud=9;%9;@3=9;rose-", "%0;%0", "rose=9;@0=1"};
        int[] wants = {-2004, -126, -2001, -2001};
        for (int i = 0; i < texts.length; i++) {
            PerfumeOrgan x = roseAndOud();
            Due.recipe(x, 0, "rose=3;oud=4");
            recipe(x, texts[i], wants[i]);
            due.is("the blend stays", Due.drops(x, 0), "3 4");
            due.is("its all", x.blend(0, 0), 7);
            due.is("the accord stays", Due.drops(x, 19), "2 1");
        }
        PerfumeOrgan x = roseAndOud();
        due.is("an accord, can't be", Due.accord(x, 3, "rose=9;%0;%1"), -2002);
        due.is("an accord, a fault", Due.accord(x, 3, "rose=9;%0;%"), -111);
        due.is("the accord is as it was", Due.drops(x, 19), "2 1");
    }

    // THE PAPER holds the latest one (nothing at first)
    private static void paperHoldsTheLatest() {
        PerfumeOrgan x = roseAndOud();
        due.is("nothing at first", x.told(6), 0);
        due.is("paper(0)", x.paper(0), -1);
        Due.recipe(x, 0, "rose=10;oud=9999");
        due.is("spell", x.spell(0), 16);
        due.is("spelled", Due.paper(x), "rose=10;oud=9999");
        for (int i : new int[] {-1, 16, Integer.MIN_VALUE, Integer.MAX_VALUE}) {
            due.is("paper(" + i + ")", x.paper(i), -1);
        }
        due.is("paper(15)", x.paper(15), '9');
        x.drop(0, 0, 1);
        due.is("it isn't spelled anew", Due.paper(x), "rose=10;oud=9999");
        due.is("refused", x.spell(16) + x.differ(0, 16) + x.differ(-1, 0), -3);
        due.is("it stays", Due.paper(x), "rose=10;oud=9999");
        due.is("changed", x.differ(0, 1), 12);
        due.is("the latest", Due.paper(x), "rose=0;oud=0");
        due.is("an empty one", x.spell(5), 0);
        due.is("nothing", Due.paper(x), "");
        due.is("told(6)", x.told(6), 0);
    }

    // SPELLED: NAME=n of each NOTE with DROPS, in the order of THE ORGAN, parted by ;
    private static void spelledInOrder() {
        PerfumeOrgan x = new PerfumeOrgan();
        Due.note(x, "d", 1, 1, 5);
        Due.note(x, "zzzzzzz", 0, 1, 5);
        Due.note(x, "c", 1, 1, 5);
        Due.note(x, "b", 1, 1, 6);
        Due.note(x, "a", 1, 1, 4);
        Due.drop(x, 0, 1, 10, 100, 1000, 9999);
        x.spell(0);
        due.is("by the organ", Due.paper(x), "zzzzzzz=10;b=1000;c=100;d=1;a=9999");
        x.drop(0, 1, 0);
        x.drop(0, 4, 0);
        x.spell(0);
        due.is("without the first and the last", Due.paper(x), "b=1000;c=100;d=1");
        x.lasting(0, 999);
        x.spell(0);
        due.is("with another lasting", Due.paper(x), "d=1;b=1000;c=100");
        Due.drop(x, 0, 0, 0, 0, 7, 0);
        x.spell(0);
        due.is("one part", Due.paper(x), "b=7");
    }

    // CHANGED: NAME=n of each NOTE whose DROPS are others there (n: those there)
    private static void changed() {
        PerfumeOrgan x = Due.organOf(3);
        Due.drop(x, 0, 5, 9999, 0);
        Due.drop(x, 15, 5, 0, 9999);
        due.is("to 15", x.differ(0, 15), 10);
        due.is("the paper", Due.paper(x), "b=0;c=9999");
        Due.recipe(x, 0, Due.paper(x));
        due.is("done, it is the other one", Due.drops(x, 0), "5 0 9999");
        due.is("no other drops", x.differ(0, 15), 0);
        due.is("to itself", x.differ(0, 0), 0);
        due.is("two empty ones", x.differ(3, 4), 0);
        due.is("to an empty one", x.differ(0, 3), 7);
        due.is("noughts", Due.paper(x), "a=0;c=0");
    }
}
