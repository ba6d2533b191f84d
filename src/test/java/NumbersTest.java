/** "Terms" 1 and 2, sentence by sentence: the numbers at both ends, ties, and what is EMPTY. */
public final class NumbersTest {
    private static final Due due = new Due("NumbersTest");
    private static final long NO = PerfumeOrgan.NO;

    public static void main(String[] args) {
        notesAsTheyCome();
        numbersOfANote();
        dropsAtFirst();
        emptyAgain();
        hours();
        shareAndDistance();
        leadsAndTurns();
        faded();
        limitsAtTheirEnds();
        limitsExactly();
        sharedOut();
        shapes();
        nearest();
        nearer();
        nearerAtTheEnds();
        stockAtItsEnds();
        bookBehindItsThirtieth();
        ordersAtThirty();
        servedInTurn();
        thinAndSubstitute();
        area();
        ranked();
        accordsAreNoBlends();
        fortyNotes();
        organ();
        due.end();
    }

    /** Each call that takes a note, with one that is there and one that isn't. */
    private static long[] asked(PerfumeOrgan x, int note) {
        return new long[] {x.of(note, 0), x.lasting(note, 9), x.name(note, -1), x.drop(0, note, 0),
            x.drops(0, note), x.replace(0, note, note), x.fill(note, 0), x.substitute(note),
            x.share(0, note), x.weight(0, note, 0)};
    }

    // NOTES 0 .. 39, as they come
    private static void notesAsTheyCome() {
        for (int notes : new int[] {0, 1, 39, 40}) {
            PerfumeOrgan x = Due.organOf(notes);
            due.is("told(0)", x.told(0), notes);
            for (int note : new int[] {-1, notes, 40, Integer.MIN_VALUE, Integer.MAX_VALUE}) {
                long[] answers = asked(x, note);
                for (int i = 0; i < answers.length; i++) {
                    due.is("note " + note + " of " + notes + ", call " + i, answers[i], i < 8 ? -1 : NO);
                }
            }
            for (int note = 0; note < notes; note += 19) {
                long[] want = {0, 9, Due.nameOf(note).length(), 0, 0, 0, 0, notes == 1 ? -5 : note == 0 ? 1 : 0, 0, 0};
                long[] answers = asked(x, note);
                for (int i = 0; i < answers.length; i++) {
                    due.is("note " + note + " of " + notes + ", call " + i, answers[i], want[i]);
                }
            }
        }
        PerfumeOrgan x = Due.organOf(40);
        due.is("the forty-first", Due.note(x, "late", 0, 1, 1), -4);
        due.is("the numbers of the first and the last", Due.find(x, "a") * 100 + Due.find(x, "an"), 39);
    }

    // a FAMILY (0 .. 7), a STRENGTH (1 .. 9999: the float of that by 100.0f), a LASTING (1 .. 999)
    private static void numbersOfANote() {
        int[][] calls = {{0, 1, 1, 0}, {7, 9999, 999, 1}, {-1, 1, 1, -1}, {8, 1, 1, -1}, {0, 0, 1, -2},
            {0, 10000, 1, -2}, {0, -1, 1, -2}, {0, 1, 0, -2}, {0, 1, 1000, -2}, {0, 1, -1, -2},
            {8, 0, 0, -1}, {-1, 10000, 1000, -1}, {3, 5000, 500, 2}};
        PerfumeOrgan x = new PerfumeOrgan();
        int notes = 0;
        for (int[] call : calls) {
            x.clear();
            Due.feed(x, Due.nameOf(notes));
            due.is("note(" + call[0] + ", " + call[1] + ", " + call[2] + ")", x.note(call[0], call[1], call[2]), call[3]);
            due.is("the tape", x.told(5), call[3] < 0 ? 1 : 0);
            notes += call[3] < 0 ? 0 : 1;
            due.is("the notes", x.told(0), notes);
        }
        due.isFloat("the least strength", x.of(0, 3), 1.0f / 100.0f);
        due.isFloat("the greatest strength", x.of(1, 3), 9999.0f / 100.0f);
        due.isFloat("the least keep", x.of(0, 4), 1.0f / 2.0f);
        due.isFloat("the greatest keep", x.of(1, 4), 999.0f / 1000.0f);
        due.is("lasting(0, 999)", x.lasting(0, 999), 1);
        due.is("lasting(0, 1)", x.lasting(0, 1), 999);
        due.is("lasting(0, 1000)", x.lasting(0, 1000), -2);
        due.is("lasting(0, 0)", x.lasting(0, 0), -2);
    }

    // BLENDS 0 .. 15 and ACCORDS 0 .. 5 hold of each NOTE 0 .. 9999 DROPS (0 at first)
    private static void dropsAtFirst() {
        PerfumeOrgan x = Due.organOf(2);
        for (int mixture = -1; mixture <= 22; mixture++) {
            boolean isThere = mixture >= 0 && mixture < 22;
            due.is("drops at first in " + mixture, x.drops(mixture, 1), isThere ? 0 : -1);
            due.is("9999 drops in " + mixture, x.drop(mixture, 1, 9999), mixture >= 0 && mixture < 16 ? 0 : -1);
            due.is("10000 drops in " + mixture, x.drop(mixture, 1, 10000), mixture >= 0 && mixture < 16 ? -2 : -1);
            due.is("-1 drops in " + mixture, x.drop(mixture, 1, -1), mixture >= 0 && mixture < 16 ? -2 : -1);
            due.is("the drops in " + mixture, x.drops(mixture, 1), !isThere ? -1 : mixture < 16 ? 9999 : 0);
        }
        for (int accord = 0; accord < 6; accord++) {
            due.is("accord " + accord, Due.accord(x, accord, "b=9999"), 9999);
            due.is("drops of accord " + accord, x.drops(16 + accord, 1), 9999);
        }
        due.is("a note that comes later", Due.note(x, "c", 0, 1, 1), 2);
        for (int mixture = 0; mixture < 22; mixture++) {
            due.is("its drops in " + mixture, x.drops(mixture, 2), 0);
        }
    }

    private static void isEmpty(String how, PerfumeOrgan x) {
        int[] what = {0, 0, 0, 0, 0, 0, 7};
        for (int i = 0; i < 7; i++) {
            due.is(how + ": blend(0, " + i + ")", x.blend(0, i), what[i]);
        }
        due.is(how + ": leads", x.leads(0, 0), -5);
        due.is(how + ": turn", x.turn(0, 0), -1);
        due.is(how + ": faded", x.faded(0, 1000), -5);
        due.is(how + ": thin", x.thin(0), -5);
        due.is(how + ": scale", x.scale(0, 1), -3);
        due.is(how + ": %", Due.recipe(x, 0, "%1"), -2000);
        due.is(how + ": make", x.make(0, 1), -3);
        due.is(how + ": lacks", x.lacks(0, 99), -5);
        due.is(how + ": most", x.most(0), -3);
        due.is(how + ": share", x.share(0, 0), 0);
        due.is(how + ": scent", x.scent(0, -1, 0), 0);
        due.is(how + ": rank", x.rank(0, 1), -1);
        due.is(how + ": told(1)", x.told(1), 1);
        due.is(how + ": told(7)", x.told(7), 1);
        due.is(how + ": nearest to the other", x.blend(7, 6), -5);
    }

    // ALL of one: its DROPS added up; EMPTY, if that is 0
    private static void emptyAgain() {
        for (int how = 0; how < 7; how++) {
            PerfumeOrgan x = Due.organOf(2);
            x.fill(0, 5);
            x.drop(7, 0, 1);
            x.drop(0, 1, 1);
            due.is("one drop is not empty", x.told(1), 2);
            due.is("a limit of nothing is kept", x.limit(5, 0), 1000);
            int[] answers = {x.drop(0, 1, how == 0 ? 0 : 1), how == 1 ? x.scale(0, 0) : 0,
                how == 2 ? Due.recipe(x, 0, "%0") : 0, how == 3 ? Due.recipe(x, 0, "b=0") : 0,
                how == 4 ? Due.recipe(x, 0, "b-1") : 0, how == 5 ? x.copy(1, 0) : 0, how == 6 ? x.copy(21, 0) : 0};
            due.is("the drops were", answers[0], 1);
            due.is("then none", answers[how], how == 0 ? 1 : 0);
            isEmpty("empty by way " + how, x);
        }
    }

    // WEIGHT of a NOTE in a BLEND at hour t (0 .. 200)
    private static void hours() {
        PerfumeOrgan x = Due.organOf(1);
        x.drop(0, 0, 5);
        due.isFloat("at 0 nothing is kept back", x.weight(0, 0, 0), 5.0f);
        due.isFloat("at 1 once", x.weight(0, 0, 1), 5.0f * (9.0f / 10.0f));
        for (int hour : new int[] {Integer.MIN_VALUE, -1, 201, Integer.MAX_VALUE}) {
            long[] longs = {x.weight(0, 0, hour), x.scent(0, -1, hour), x.scent(0, 0, hour),
                x.thousandths(0, hour), x.wide(0, hour, 0), x.wide(0, hour, 1), x.area(0, hour)};
            for (int i = 0; i < longs.length; i++) {
                due.is("hour " + hour + ", call " + i, longs[i], NO);
            }
            due.is("leads at hour " + hour, x.leads(0, hour), -1);
            due.is("of an empty one, too, " + hour, x.leads(1, hour), -1);
        }
        for (int hour : new int[] {0, 200}) {
            float weight = 5.0f;
            for (int i = 0; i < hour; i++) {
                weight = weight * (9.0f / 10.0f);
            }
            due.isFloat("weight at " + hour, x.weight(0, 0, hour), weight);
            due.isFloat("scent at " + hour, x.scent(0, -1, hour), weight);
            due.isFloat("scent of the family at " + hour, x.scent(0, 0, hour), weight);
            due.is("thousandths at " + hour, x.thousandths(0, hour), (int) (weight * 1000.0f));
            due.is("leads at " + hour, x.leads(0, hour), 0);
        }
        due.is("scent of family -1 and 7", x.scent(0, -1, 0) - x.scent(0, 7, 0), x.weight(0, 0, 0));
        due.is("scent of family -2", x.scent(0, -2, 0), NO);
        due.is("scent of family 8", x.scent(0, 8, 0), NO);
    }

    // SHARE of a NOTE: DROPS by ALL, both as floats (0.0f of an EMPTY one); DISTANCE of two
    private static void shareAndDistance() {
        PerfumeOrgan x = Due.organOf(2);
        due.is("share in an empty one", x.share(15, 1), 0);
        due.is("distance of two empty ones", x.distance(0, 15), 0);
        x.drop(15, 1, 9999);
        due.isFloat("the whole", x.share(15, 1), 1.0f);
        due.is("nothing of it", x.share(15, 0), 0);
        due.isFloat("distance from an empty one", x.distance(0, 15), 1.0f);
        due.isFloat("distance to an empty one", x.distance(15, 0), 1.0f);
        x.drop(0, 0, 1);
        due.isFloat("the greatest distance", x.distance(15, 0), 2.0f);
        due.is("distance to itself", x.distance(15, 15), 0);
    }

    private static PerfumeOrgan quickAndSlow(int quickStrength) {
        PerfumeOrgan x = new PerfumeOrgan();
        Due.note(x, "slow", 3, 100, 999);
        Due.note(x, "quick", 6, quickStrength, 1);
        Due.note(x, "other", 5, 100, 999);
        return x;
    }

    // LEADS at t: .. of several the least; TURN: an hour (1 .. 200) at which another FAMILY LEADS
    private static void leadsAndTurns() {
        PerfumeOrgan x = quickAndSlow(150);
        Due.drop(x, 0, 1, 1, 0);
        due.is("ahead of the turn", x.leads(0, 0), 6);
        due.is("at the turn", x.leads(0, 1), 3);
        due.is("a turn at hour 1", x.turn(0, 0), 1);
        due.is("no other one", x.turn(0, 1), -1);
        due.is("one turn", x.blend(0, 2), 1);
        Due.drop(x, 1, 4, 0, 4);
        due.is("of two the least", x.leads(1, 0), 3);
        due.is("of two the least at the end", x.leads(1, 200), 3);
        due.is("no turn", x.blend(1, 2), 0);
        Due.drop(x, 2, 4, 0, 5);
        due.is("the greater one", x.leads(2, 200), 5);
        PerfumeOrgan tie = quickAndSlow(200);
        Due.note(tie, "late", 7, 100, 1);
        Due.drop(tie, 0, 0, 1, 0, 2);
        due.is("halved alike, the least", tie.leads(0, 100), 6);
        due.is("halved alike, no turn while there is a scent", tie.turn(0, 0), firstHourOfNone(2.0f));
        due.is("then family 0", tie.leads(0, 200), 0);
        due.is("turns of blend 16", tie.turn(16, 0), -1);
    }

    private static int firstHourOfNone(float weight) {
        int hour = 0;
        for (float left = weight; left > 0.0f; left = left * 0.5f) {
            hour++;
        }
        return hour;
    }

    // FADED to p (0 .. 1000): the first hour (0 .. 200) at which SCENT is below ..; -5
    private static void faded() {
        PerfumeOrgan x = Due.organOf(1);
        x.drop(0, 0, 10);
        due.is("to 1000, all of it", x.faded(0, 1000), 1);
        due.is("to 901", x.faded(0, 901), 1);
        due.is("to 899", x.faded(0, 899), 2);
        due.is("to 1", x.faded(0, 1), 66);
        due.is("to 0", x.faded(0, 0), -5);
        for (int p : new int[] {-1, 1001, Integer.MIN_VALUE, Integer.MAX_VALUE}) {
            due.is("to " + p, x.faded(0, p), -2);
            due.is("an empty one to " + p, x.faded(1, p), -2);
            due.is("none to " + p, x.faded(16, p), -1);
        }
    }

    // LIMITS of FAMILIES: 0 .. 1000 (1000 at first)
    private static void limitsAtTheirEnds() {
        PerfumeOrgan x = new PerfumeOrgan();
        for (int family = -1; family <= 8; family++) {
            boolean isThere = family >= 0 && family < 8;
            due.is("limit(" + family + ", 0)", x.limit(family, 0), isThere ? 1000 : -1);
            due.is("limit(" + family + ", 1000)", x.limit(family, 1000), isThere ? 0 : -1);
            due.is("limit(" + family + ", 1001)", x.limit(family, 1001), isThere ? -2 : -1);
            due.is("limit(" + family + ", -1)", x.limit(family, -1), isThere ? -2 : -1);
            due.is("limit(" + family + ", 1000) again", x.limit(family, 1000), isThere ? 1000 : -1);
        }
        Due.note(x, "a", 7, 1, 1);
        x.drop(0, 0, 1);
        due.is("a limit of 1000 is never broken", x.blend(0, 3), 0);
        x.limit(7, 999);
        due.is("one of 999 is by the whole", x.blend(0, 3), 128);
        x.limit(7, 1000);
        for (int family = 0; family < 7; family++) {
            x.limit(family, 0);
        }
        due.is("those of 0 without drops", x.blend(0, 3), 0);
        due.is("an empty one breaks none", x.blend(1, 3), 0);
    }

    // BROKEN by a BLEND: LIMITS of FAMILIES whose DROPS times 1000 are more than the LIMIT times ALL
    private static void limitsExactly() {
        PerfumeOrgan x = new PerfumeOrgan();
        for (int i = 0; i < 40; i++) {
            Due.note(x, Due.nameOf(i), i == 0 ? 4 : 7, 1, 1);
            x.drop(0, i, i == 0 ? 1 : 9999);
        }
        due.is("great numbers", x.blend(0, 3), 0);
        x.limit(4, 0);
        due.is("one drop of 389962", x.blend(0, 3), 16);
        x.limit(7, 999);
        due.is("all but one drop", x.blend(0, 3), 144);
        x.limit(4, 1);
        x.limit(7, 1000);
        due.is("less than a thousandth", x.blend(0, 3), 0);
    }

    private static void scaled(String drops, int n, String want, int... had) {
        PerfumeOrgan x = Due.organOf(had.length);
        Due.drop(x, 0, had);
        Due.drop(x, 1, had);
        int notes = 0;
        for (String part : want.split(" ")) {
            notes += part.equals("0") ? 0 : 1;
        }
        due.is("scale, " + drops, x.scale(0, n), notes);
        due.is("scaled, " + drops, Due.drops(x, 0), want);
        due.is("%, " + drops, Due.recipe(x, 1, "%" + n), n);
        due.is("by %, " + drops, Due.drops(x, 1), want);
    }

    // SHARED OUT, n by DROPS: .. cut; what is left goes, 1 to each, to those with the greatest rests
    private static void sharedOut() {
        scaled("n 0", 0, "0 0 0", 3, 2, 1);
        scaled("n 1, a tie", 1, "1 0 0", 5, 5, 5);
        scaled("n 2, a tie", 2, "1 1 0", 5, 5, 5);
        scaled("a tie behind one without drops", 1, "0 1 0", 0, 5, 5);
        scaled("the greatest rest behind", 1, "0 0 1", 1, 1, 2);
        scaled("the rests, not the shares", 4, "3 1 0", 5, 2, 1);
        scaled("no rests", 6, "3 2 1", 6, 4, 2);
        scaled("as many as there are", 9, "4 3 2", 4, 3, 2);
        scaled("one note", 9999, "0 9999", 0, 1);
        scaled("three great ones", 9999, "3333 3333 3333", 9999, 9999, 9999);
        scaled("a tie of two rests behind a greater one", 5, "2 1 2", 7, 5, 8);
        PerfumeOrgan x = Due.organOf(1);
        due.is("an empty one, n 0", x.scale(0, 0), -3);
        due.is("an empty one, n 10000", x.scale(0, 10000), -2);
        x.drop(0, 0, 1);
        due.is("n 10000", x.scale(0, 10000), -2);
        due.is("n -1", x.scale(0, -1), -2);
    }

    // SHAPE: .. if neither is EMPTY and the DROPS of each NOTE in one times ALL of the other are ..
    private static void shapes() {
        PerfumeOrgan x = Due.organOf(2);
        due.is("empty ones have no shape", x.told(7), 0);
        due.is("an empty one is not of their shape", x.blend(0, 5), 0);
        x.drop(0, 0, 1);
        due.is("one shape", x.told(7), 1);
        due.is("itself is not told", x.blend(0, 5), 0);
        x.drop(15, 0, 9999);
        due.is("one shape still", x.told(7), 1);
        due.is("of the shape of 0", x.blend(0, 5), 1 << 15);
        due.is("of the shape of 15", x.blend(15, 5), 1);
        x.drop(15, 1, 1);
        due.is("nearly is not", x.blend(0, 5), 0);
        due.is("two shapes", x.told(7), 2);
        for (int blend = 1; blend < 15; blend++) {
            Due.drop(x, blend, blend, blend);
        }
        due.is("three shapes", x.told(7), 3);
        due.is("of the shape of 7", x.blend(7, 5), 0x7FFE - (1 << 7));
        x.scale(0, 0);
        due.is("without the empty one", x.told(7), 2);
    }

    // NEAREST to a BLEND: of the others that aren't EMPTY that with the least DISTANCE; -5
    private static void nearest() {
        PerfumeOrgan x = Due.organOf(3);
        due.is("none but empty ones", x.blend(5, 6), -5);
        x.drop(5, 0, 1);
        due.is("no other one", x.blend(5, 6), -5);
        x.drop(0, 2, 1);
        due.is("the only other one", x.blend(5, 6), 0);
        due.is("the other way", x.blend(0, 6), 5);
        x.drop(15, 1, 1);
        due.is("of two as far the least", x.blend(5, 6), 0);
        Due.drop(x, 3, 1, 1, 0);
        due.is("a nearer one", x.blend(5, 6), 3);
        Due.drop(x, 4, 2, 1, 0);
        due.is("one nearer still", x.blend(5, 6), 4);
        Due.drop(x, 8, 3, 2, 0);
        due.is("one less near behind", x.blend(5, 6), 4);
        Due.drop(x, 9, 4, 2, 0);
        due.is("one as near behind", x.blend(5, 6), 4);
        due.is("nearest to an empty one", x.blend(7, 6), 0);
    }

    // COMING NEARER to another BLEND: of all NOTES, and n 1 .. 20, .. of several the least NOTE, then n
    private static void nearer() {
        PerfumeOrgan x = Due.organOf(40);
        Due.drop(x, 0, 20, 20);
        Due.drop(x, 1, 20, 21);
        due.is("n 1", x.nearer(0, 1), 101);
        Due.drop(x, 1, 20, 40);
        due.is("n 20", x.nearer(0, 1), 120);
        Due.drop(x, 1, 20, 41);
        due.is("not n 21", x.nearer(0, 1), 120);
        Due.drop(x, 1, 21, 20);
        due.is("note 0", x.nearer(0, 1), 1);
        x.copy(0, 1);
        x.drop(1, 39, 3);
        due.is("note 39", x.nearer(0, 1), 3903);
        x.copy(0, 1);
        due.is("as it is", x.nearer(0, 1), -5);
        due.is("to itself", x.nearer(0, 0), -5);
        due.is("both empty", x.nearer(2, 3), -5);
        due.is("to an empty one", x.nearer(0, 3), -5);
        x.drop(2, 5, 7);
        due.is("the least n of an empty one", x.nearer(3, 2), 501);
        due.is("a greater share of the only note", x.nearer(2, 2), -5);
    }

    // the BLEND with n DROPS more of the NOTE (not above 9999)
    private static void nearerAtTheEnds() {
        PerfumeOrgan x = Due.organOf(2);
        for (int had : new int[] {9978, 9979, 9980, 9998}) {
            Due.drop(x, 0, had, 9999);
            Due.drop(x, 1, 9999, 5000);
            due.is("with " + had, x.nearer(0, 1), Math.min(20, 9999 - had));
        }
        Due.drop(x, 0, 9999, 9999);
        due.is("with 9999", x.nearer(0, 1), -5);
        due.is("nothing is changed", Due.drops(x, 0), "9999 9999");
    }

    // THE STOCK has of each NOTE 0 .. 99999 DROPS (0 at first)
    private static void stockAtItsEnds() {
        PerfumeOrgan x = Due.organOf(2);
        due.is("at first", x.of(1, 6), 0);
        due.is("nothing comes", x.fill(1, 0), 0);
        due.is("too few", x.fill(1, -1), -2);
        due.is("too many", x.fill(1, 100000), -2);
        due.is("the most at once", x.fill(1, 99999), 99999);
        due.is("one more", x.fill(1, 1), -4);
        due.is("the most once more", x.fill(1, 99999), -4);
        due.is("too many is ahead of FULL", x.fill(1, 100000), -2);
        due.is("nothing comes to all", x.fill(1, 0), 99999);
        x.drop(0, 1, 1010);
        due.is("most of 99999 by 1010", x.most(0), 99);
        due.is("lacks 99 times", x.lacks(0, 99), -5);
        x.drop(0, 1, 1011);
        due.is("most of 99999 by 1011", x.most(0), 98);
        due.is("lacks 99 times 1011", x.lacks(0, 99), 1);
        due.is("make 99 times 1011", x.make(0, 99), -3);
        due.is("make 98 times 1011", x.make(0, 98), 99078);
        due.is("what is left", x.of(1, 6), 921);
        x.drop(0, 1, 921);
        due.is("the last of it", x.make(0, 1), 921);
        due.is("nothing is left", x.of(1, 6), 0);
        due.is("most of nothing", x.most(0), 0);
        due.is("make of nothing", x.make(0, 1), -3);
        x.drop(1, 0, 1);
        due.is("lacks note 0", x.lacks(1, 1), 0);
        due.is("most without note 0", x.most(1), 0);
    }

    // THE BOOK has what was MADE, one behind the other (the latest 30)
    private static void bookBehindItsThirtieth() {
        PerfumeOrgan x = Due.organOf(1);
        x.fill(0, 99999);
        x.drop(2, 0, 1);
        for (int i = 1; i <= 33; i++) {
            due.is("book(0, 1) ahead of " + i, x.book(0, 1), i == 1 ? -1 : i - 1);
            due.is("make", x.make(2, i), i);
            due.is("told(3)", x.told(3), Math.min(i, 30));
            due.is("the latest", x.book(0, 1), i);
            due.is("the earliest", x.book(Math.min(i, 30) - 1, 1), Math.max(1, i - 29));
            due.is("none behind it", x.book(Math.min(i, 30), 1), -1);
        }
        due.is("refused", x.make(1, 1), -3);
        due.is("what was refused is not in it", x.book(0, 0), 2);
    }

    // ORDERS 0 .. 29, as they come: a BLEND, n (1 .. 99), an URGENCY (0 .. 9)
    private static void ordersAtThirty() {
        PerfumeOrgan x = new PerfumeOrgan();
        int[][] calls = {{0, 1, 0, 0}, {15, 99, 9, 1}, {-1, 1, 0, -1}, {16, 0, 10, -1}, {0, 0, 0, -2},
            {0, 100, 0, -2}, {0, -1, 0, -2}, {0, 1, -1, -2}, {0, 1, 10, -2}};
        for (int[] call : calls) {
            due.is("order(" + call[0] + ", " + call[1] + ", " + call[2] + ")", x.order(call[0], call[1], call[2]), call[3]);
        }
        for (int i = 2; i < 30; i++) {
            due.is("orders", x.told(8), i);
            due.is("order " + i, x.order(i % 16, i, 3), i);
        }
        x.off(29);
        for (int[] call : calls) {
            due.is("full: order(" + call[0] + ", " + call[1] + ", " + call[2] + ")",
                x.order(call[0], call[1], call[2]), call[3] < 0 ? call[3] : -4);
        }
        due.is("thirty", x.told(8), 30);
        due.is("open ones", x.told(9), 29);
        due.is("the last in turn", x.inTurn(28), 0);
        due.is("none behind", x.inTurn(29), -1);
        due.is("the last order", x.orderOf(29, 1), 29);
        due.is("none behind it", x.orderOf(30, 1), -1);
    }

    // SERVED: IN TURN each OPEN one is MADE, if it can be (as make() would), and is DONE
    private static void servedInTurn() {
        PerfumeOrgan x = new PerfumeOrgan();
        Due.note(x, "a", 0, 1, 1);
        Due.note(x, "b", 1, 1, 1);
        x.fill(0, 20);
        Due.drop(x, 0, 10, 0);
        Due.drop(x, 1, 6, 0);
        Due.drop(x, 2, 1, 1);
        Due.drop(x, 3, 4, 0);
        x.order(0, 1, 0);
        x.order(3, 1, 0);
        x.order(1, 1, 9);
        x.order(2, 1, 5);
        x.order(1, 2, 9);
        x.order(9, 1, 9);
        due.is("two that still can be", x.serve(), 2);
        // 6 of the 20 go first, 12 of what is left then: 2 are left, too few for the others.
        int[] states = {0, 0, 1, 0, 1, 0};
        for (int i = 0; i < 6; i++) {
            due.is("order " + i, x.orderOf(i, 3), states[i]);
        }
        due.is("what is left", x.told(4), 2);
        due.is("the latest", x.book(0, 1), 2);
        x.fill(0, 98);
        x.fill(1, 100);
        x.limit(1, 499);
        due.is("but the one that breaks a limit, and the empty one", x.serve(), 2);
        due.is("it stays open", x.orderOf(3, 3), 0);
        due.is("in turn", x.inTurn(0) * 10 + x.inTurn(1), 53);
        x.limit(1, 500);
        due.is("a limit that isn't broken", x.serve(), 1);
        due.is("the empty one stays", x.told(9), 1);
        due.is("none can be", x.serve(), 0);
    }

    // THIN: .. -5: there are fewer than 2. SUBSTITUTE: .. of several the least; -5
    private static void thinAndSubstitute() {
        PerfumeOrgan x = Due.organOf(3);
        due.is("thin of none", x.thin(0), -5);
        Due.drop(x, 0, 1, 0, 0);
        due.is("thin of one", x.thin(0), -5);
        Due.drop(x, 0, 1, 0, 1);
        due.is("thin of two alike", x.thin(0), 0);
        Due.drop(x, 0, 1, 0, 3);
        due.is("thin of two, the first", x.thin(0), 0);
        Due.drop(x, 0, 3, 0, 1);
        due.is("thin of two, the second", x.thin(0), 2);
        Due.drop(x, 0, 9999, 1, 9999);
        due.is("one drop among many", x.thin(0), 1);
        PerfumeOrgan y = new PerfumeOrgan();
        Due.note(y, "a", 7, 1, 999);
        due.is("the only note", y.substitute(0), -5);
        Due.note(y, "b", 0, 1, 999);
        due.is("no other one of its family", y.substitute(0), -5);
        Due.note(y, "c", 7, 1, 1);
        due.is("far, but the only one", y.substitute(0), 2);
        due.is("the other way", y.substitute(2), 0);
        Due.note(y, "d", 7, 1, 998);
        Due.note(y, "e", 7, 1, 998);
        due.is("of two the least", y.substitute(0), 3);
        due.is("one with the same keep", y.substitute(3), 4);
        y.lasting(0, 998);
        due.is("of two with the same keep the least", y.substitute(4), 0);
    }

    // AREA to an hour h: 0.0f and SCENT at 0, 1, .., h, added one by one
    private static void area() {
        PerfumeOrgan x = Due.organOf(1);
        x.drop(0, 0, 7);
        due.is("to 0, as the scent there", x.area(0, 0), x.scent(0, -1, 0));
        due.isFloat("to 1", x.area(0, 1), 7.0f + 7.0f * 0.9f);
        float area = 0.0f;
        float weight = 7.0f;
        for (int hour = 0; hour <= 200; hour++) {
            area = area + weight;
            weight = weight * (9.0f / 10.0f);
        }
        due.isFloat("to 200", x.area(0, 200), area);
        due.is("to 201", x.area(0, 201), NO);
        due.is("of an empty one", x.area(1, 200), 0);
    }

    // Of BLENDS that aren't EMPTY, those first in which the DROPS of a FAMILY are the greater part of ALL
    private static void ranked() {
        PerfumeOrgan x = new PerfumeOrgan();
        Due.note(x, "a", 7, 1, 1);
        Due.note(x, "b", 2, 1, 1);
        due.is("empty ones", x.rank(7, 0), -1);
        x.drop(15, 0, 1);
        due.is("one drop", x.rank(7, 0), 15);
        due.is("without drops of the family", x.rank(2, 0), 15);
        due.is("none behind it", x.rank(7, 1), -1);
        x.drop(0, 1, 1);
        due.is("the greater part first", x.rank(7, 0) * 100 + x.rank(7, 1), 1500);
        due.is("the other family", x.rank(2, 0) * 100 + x.rank(2, 1), 15);
        due.is("of two the least", x.rank(5, 0) * 100 + x.rank(5, 1), 15);
        Due.drop(x, 4, 9999, 9998);
        Due.drop(x, 3, 9998, 9997);
        Due.drop(x, 2, 1, 1);
        // 9998 of 19995 are a little more than 9999 of 19997, and both a little more than a half.
        int[] rank = {15, 3, 4, 2, 0};
        for (int i = 0; i < 5; i++) {
            due.is("exactly, " + i, x.rank(7, i), rank[i]);
            due.is("exactly, the other family, " + i, x.rank(2, i), rank[4 - i]);
        }
        for (int i : new int[] {-1, 5, Integer.MIN_VALUE, Integer.MAX_VALUE}) {
            due.is("rank(7, " + i + ")", x.rank(7, i), -1);
        }
        due.is("rank(8, 0)", x.rank(8, 0), -1);
        due.is("rank(-1, 0)", x.rank(-1, 0), -1);
    }

    private static void accordsAreNoBlends() {
        PerfumeOrgan x = Due.organOf(2);
        for (int accord = 0; accord < 6; accord++) {
            Due.accord(x, accord, "a=2;b=1");
        }
        due.is("accords", x.told(2), 6);
        due.is("no blends", x.told(1), 0);
        due.is("no shapes", x.told(7), 0);
        due.is("none is ranked", x.rank(0, 0), -1);
        Due.drop(x, 3, 2, 1);
        due.is("one blend", x.told(1), 1);
        due.is("one shape", x.told(7), 1);
        due.is("one is ranked", x.rank(0, 1), -1);
        due.is("none is nearest", x.blend(3, 6), -5);
        due.is("none is of its shape", x.blend(3, 5), 0);
        due.is("drops(16, 0)", x.drops(16, 0), 2);
        long[] refused = {x.drop(16, 0, 1), x.mix(3, 16), x.mix(16, 3), x.blend(16, 0), x.spell(16), x.differ(3, 16),
            x.leads(16, 0), x.thin(16), x.nearer(3, 16), x.order(16, 1, 1), x.make(16, 1), x.most(16), x.scale(16, 1),
            x.copy(3, 16)};
        for (int i = 0; i < refused.length; i++) {
            due.is("call " + i + " of an accord", refused[i], -1);
        }
        due.is("share of an accord", x.share(16, 0), NO);
        due.is("distance to an accord", x.distance(3, 16), NO);
        PerfumeOrgan y = Due.organOf(1);
        Due.note(y, "z", 7, 1, 1);
        Due.accord(y, 0, "a=1");
        Due.accord(y, 5, "z=1");
        Due.drop(y, 15, 1, 1);
        due.is("no accord is ranked ahead", y.rank(0, 0) + y.rank(7, 0), 30);
    }

    private static void fortyNotes() {
        PerfumeOrgan x = new PerfumeOrgan();
        float[] scents = new float[9];
        float area = 0.0f;
        for (int i = 0; i < 40; i++) {
            Due.note(x, Due.nameOf(i), i / 5, 100 + i, 1 + i);
            x.drop(0, i, 2 * i + 1);
            x.fill(i, 99);
        }
        for (int hour = 0; hour < 3; hour++) {
            scents = new float[9];
            for (int i = 0; i < 40; i++) {
                float weight = (float) (2 * i + 1) * ((float) (100 + i) / 100.0f);
                for (int k = 0; k < hour; k++) {
                    weight = weight * ((float) (1 + i) / (float) (2 + i));
                }
                due.isFloat("weight of " + i, x.weight(0, i, hour), weight);
                scents[i / 5] = scents[i / 5] + weight;
                scents[8] = scents[8] + weight;
            }
            area = area + scents[8];
            for (int family = 0; family < 8; family++) {
                due.isFloat("scent of family " + family, x.scent(0, family, hour), scents[family]);
            }
            due.isFloat("scent", x.scent(0, -1, hour), scents[8]);
            due.is("thousandths", x.thousandths(0, hour), (int) (scents[8] * 1000.0f));
            due.isFloat("area", x.area(0, hour), area);
            due.is("leads", x.leads(0, hour), 7);
        }
        int[] blend = {1600, 40, 0, 0, 255, 0, -5};
        for (int what = 0; what < 7; what++) {
            due.is("blend(0, " + what + ")", x.blend(0, what), blend[what]);
        }
        due.is("thin", x.thin(0), 0);
        due.is("substitute of the last", x.substitute(39), 38);
        due.is("most", x.most(0), 1);
        due.is("lacks", x.lacks(0, 2), 25);
        due.is("make", x.make(0, 1), 1600);
        due.is("the last of the organ", x.organ(39), 35);
        due.is("the first of the organ", x.organ(0), 4);
        due.is("the place of the last", x.of(39, 5), 35);
        x.scale(0, 1);
        due.is("the greatest rest", x.drops(0, 39), 1);
        due.is("the last family alone", x.blend(0, 4), 128);
        x.replace(0, 39, 0);
        due.is("the first family alone", x.blend(0, 4), 1);
        due.is("faded, halved at once", x.faded(0, 501), 1);
    }

    // THE ORGAN: by FAMILIES, .. the greater LASTING first, then by NAMES (as words stand in a book)
    private static void organ() {
        PerfumeOrgan x = new PerfumeOrgan();
        String[] names = {"b", "aaaaaaa", "aa", "a", "zzzzzzz", "ab", "z"};
        for (int i = 0; i < names.length; i++) {
            due.is(names[i], Due.note(x, names[i], 3, 1, 5), i);
        }
        int[] byName = {3, 2, 1, 5, 0, 6, 4};
        for (int i = 0; i < 7; i++) {
            due.is("by name " + i, x.byName(i), byName[i]);
            due.is("of one family and lasting, " + i, x.organ(i), byName[i]);
            due.is("its place", x.of(byName[i], 5), i);
        }
        x.lasting(6, 6);
        x.lasting(3, 4);
        due.is("the greater lasting first", x.organ(0), 6);
        due.is("the lesser last", x.organ(6), 3);
        Due.note(x, "y", 2, 1, 1);
        Due.note(x, "x", 4, 1, 999);
        due.is("a lesser family ahead", x.organ(0), 7);
        due.is("a greater one behind", x.organ(8), 8);
        due.is("by name it is all the same", x.byName(0), 3);
        for (int i : new int[] {-1, 9, Integer.MIN_VALUE, Integer.MAX_VALUE}) {
            due.is("organ(" + i + ")", x.organ(i), -1);
            due.is("byName(" + i + ")", x.byName(i), -1);
        }
    }
}
