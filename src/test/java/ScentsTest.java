/** Promises 22 to 36: shares, scents, distances. */
public final class ScentsTest {
    private static final Due due = new Due("ScentsTest");
    private static final long NO = PerfumeOrgan.NO;

    public static void main(String[] args) {
        promise22();
        promise23();
        promise24();
        promise24Tiny();
        promise25();
        promise26();
        promise27();
        promise28();
        promise29();
        promise30();
        promise30Ties();
        promise31();
        promise32();
        promise33();
        promise34();
        promise35();
        promise36();
        due.end();
    }

    private static PerfumeOrgan rosePineOud() {
        PerfumeOrgan x = new PerfumeOrgan();
        Due.note(x, "rose", 2, 250, 20);
        Due.note(x, "pine", 0, 900, 3);
        Due.note(x, "oud", 2, 133, 900);
        Due.drop(x, 1, 10, 20, 3);
        return x;
    }

    /** A weight, worked out as told. */
    private static float weight(int drops, int hundredths, int lasting, int hour) {
        float weight = (float) drops * ((float) hundredths / 100.0f);
        float keep = (float) lasting / ((float) lasting + 1.0f);
        for (int i = 0; i < hour; i++) {
            weight = weight * keep;
        }
        return weight;
    }

    private static float rose(int hour) {
        return weight(10, 250, 20, hour);
    }

    private static float pine(int hour) {
        return weight(20, 900, 3, hour);
    }

    private static float oud(int hour) {
        return weight(3, 133, 900, hour);
    }

    private static float all(int hour) {
        return 0.0f + rose(hour) + pine(hour) + oud(hour);
    }

    private static void promise22() {
        PerfumeOrgan x = rosePineOud();
        due.isFloat("22 share(1, 0)", x.share(1, 0), 10.0f / 33.0f);
        due.isFloat("22 share(1, 1)", x.share(1, 1), 20.0f / 33.0f);
        due.isFloat("22 share(1, 2)", x.share(1, 2), 3.0f / 33.0f);
        due.is("22 an empty one", x.share(0, 0), 0);
        x.drop(2, 0, 5);
        due.isFloat("22 the whole", x.share(2, 0), 1.0f);
        due.is("22 none of it", x.share(2, 1), 0);
        due.is("22 share(16, 0)", x.share(16, 0), NO);
        due.is("22 share(-1, 0)", x.share(-1, 0), NO);
        due.is("22 share(1, 3)", x.share(1, 3), NO);
        due.is("22 share(1, -1)", x.share(1, -1), NO);
        PerfumeOrgan full = Due.organOf(40);
        for (int i = 0; i < 40; i++) {
            full.drop(0, i, i == 0 ? 1 : 9999);
        }
        due.isFloat("22 the least share", full.share(0, 0), 1.0f / 389962.0f);
    }

    private static void promise23() {
        PerfumeOrgan x = rosePineOud();
        for (int hour : new int[] {0, 1, 2, 3, 10, 77, 199, 200}) {
            due.isFloat("23 weight(1, 0, " + hour + ")", x.weight(1, 0, hour), rose(hour));
            due.isFloat("23 weight(1, 1, " + hour + ")", x.weight(1, 1, hour), pine(hour));
            due.isFloat("23 weight(1, 2, " + hour + ")", x.weight(1, 2, hour), oud(hour));
            due.is("23 weight(0, 2, " + hour + ")", x.weight(0, 2, hour), 0);
        }
        due.is("23 weight(16, 0, 0)", x.weight(16, 0, 0), NO);
        due.is("23 weight(-1, 0, 0)", x.weight(-1, 0, 0), NO);
        due.is("23 weight(1, 3, 0)", x.weight(1, 3, 0), NO);
        due.is("23 weight(1, -1, 0)", x.weight(1, -1, 0), NO);
        due.is("23 weight(1, 0, 201)", x.weight(1, 0, 201), NO);
        due.is("23 weight(1, 0, -1)", x.weight(1, 0, -1), NO);
    }

    private static void promise24() {
        PerfumeOrgan x = rosePineOud();
        for (int hour : new int[] {0, 1, 5, 50, 200}) {
            due.isFloat("24 scent(1, -1, " + hour + ")", x.scent(1, -1, hour), all(hour));
            due.isFloat("24 scent(1, 2, " + hour + ")", x.scent(1, 2, hour), 0.0f + rose(hour) + oud(hour));
            due.isFloat("24 scent(1, 0, " + hour + ")", x.scent(1, 0, hour), pine(hour));
            due.is("24 scent(1, 7, " + hour + ")", x.scent(1, 7, hour), 0);
            due.is("24 scent(0, -1, " + hour + ")", x.scent(0, -1, hour), 0);
        }
        due.is("24 scent(16, -1, 0)", x.scent(16, -1, 0), NO);
        due.is("24 scent(-1, -1, 0)", x.scent(-1, -1, 0), NO);
        due.is("24 scent(1, 8, 0)", x.scent(1, 8, 0), NO);
        due.is("24 scent(1, -2, 0)", x.scent(1, -2, 0), NO);
        due.is("24 scent(1, -1, 201)", x.scent(1, -1, 201), NO);
        due.is("24 scent(1, -1, -1)", x.scent(1, -1, -1), NO);
        x.lasting(1, 999);
        due.isFloat("24 another lasting", x.scent(1, 0, 9), weight(20, 900, 999, 9));
    }

    private static void promise24Tiny() {
        PerfumeOrgan x = new PerfumeOrgan();
        Due.note(x, "a", 4, 1, 1);
        Due.note(x, "b", 4, 9999, 2);
        x.drop(0, 0, 1);
        x.drop(1, 0, 9999);
        x.drop(2, 1, 7);
        for (int hour = 100; hour <= 200; hour++) {
            due.isFloat("24 halved to " + hour, x.scent(0, 4, hour), weight(1, 1, 1, hour));
            due.isFloat("24 much, halved to " + hour, x.scent(1, -1, hour), weight(9999, 1, 1, hour));
            due.isFloat("24 by two thirds to " + hour, x.scent(2, -1, hour), weight(7, 9999, 2, hour));
        }
        due.is("24 nothing is left", x.scent(0, -1, 200), 0);
        PerfumeOrgan full = new PerfumeOrgan();
        float sum = 0.0f;
        for (int i = 0; i < 40; i++) {
            Due.note(full, Due.nameOf(i), 1, 9999, 999);
            full.drop(0, i, 9999);
            sum = sum + 9999.0f * (9999.0f / 100.0f);
        }
        due.isFloat("24 the most", full.scent(0, -1, 0), sum);
        due.is("25 the most", full.thousandths(0, 0), Integer.MAX_VALUE);
    }

    private static void promise25() {
        PerfumeOrgan x = rosePineOud();
        for (int hour : new int[] {0, 1, 7, 100, 200}) {
            due.is("25 thousandths(1, " + hour + ")", x.thousandths(1, hour), (int) (all(hour) * 1000.0f));
        }
        due.is("25 an empty one", x.thousandths(0, 0), 0);
        due.is("25 thousandths(16, 0)", x.thousandths(16, 0), NO);
        due.is("25 thousandths(-1, 0)", x.thousandths(-1, 0), NO);
        due.is("25 thousandths(1, 201)", x.thousandths(1, 201), NO);
        due.is("25 thousandths(1, -1)", x.thousandths(1, -1), NO);
    }

    private static void promise26() {
        PerfumeOrgan x = new PerfumeOrgan();
        Due.note(x, "quick", 6, 1000, 1);
        Due.note(x, "slow", 3, 200, 999);
        Due.note(x, "slower", 3, 200, 999);
        Due.drop(x, 0, 1, 1, 1);
        due.is("26 leads(0, 0)", x.leads(0, 0), 6);
        due.is("26 leads(0, 1)", x.leads(0, 1), 6);
        due.is("26 leads(0, 2)", x.leads(0, 2), 3);
        due.is("26 leads(0, 200)", x.leads(0, 200), 3);
        due.is("26 an empty one", x.leads(1, 0), -5);
        Due.drop(x, 2, 2, 5, 5);
        due.is("26 of several the least", x.leads(2, 0), 3);
        x.drop(3, 0, 1);
        due.is("26 alone", x.leads(3, 100), 6);
        due.is("26 nothing is left", x.leads(3, 200), 0);
        due.is("26 leads(16, 0)", x.leads(16, 0), -1);
        due.is("26 leads(-1, 0)", x.leads(-1, 0), -1);
        due.is("26 leads(1, 201)", x.leads(1, 201), -1);
        due.is("26 leads(1, -1)", x.leads(1, -1), -1);
    }

    private static void promise27() {
        PerfumeOrgan x = new PerfumeOrgan();
        Due.note(x, "quick", 6, 1000, 1);
        Due.note(x, "middle", 1, 600, 4);
        Due.note(x, "slow", 3, 100, 999);
        Due.drop(x, 0, 1, 1, 1);
        due.is("27 turn(0, 0)", x.turn(0, 0), 2);
        due.is("27 turn(0, 1)", x.turn(0, 1), 9);
        due.is("27 turn(0, 2)", x.turn(0, 2), -1);
        due.is("27 turn(0, -1)", x.turn(0, -1), -1);
        due.is("27 how many", x.blend(0, 2), 2);
        for (int hour = 0; hour <= 200; hour++) {
            due.is("27 leads(0, " + hour + ")", x.leads(0, hour), hour < 2 ? 6 : hour < 9 ? 1 : 3);
        }
        due.is("27 an empty one", x.turn(1, 0), -1);
        due.is("27 turn(16, 0)", x.turn(16, 0), -1);
        due.is("27 turn(-1, 0)", x.turn(-1, 0), -1);
        x.drop(2, 2, 1);
        due.is("27 never", x.turn(2, 0), -1);
        x.drop(3, 0, 1);
        due.is("27 when nothing is left", x.turn(3, 0), 153);
        due.is("27 leads(3, 152)", x.leads(3, 152), 6);
        atTheLastHour();
    }

    private static void atTheLastHour() {
        PerfumeOrgan x = new PerfumeOrgan();
        Due.note(x, "quick", 0, 606, 99);
        Due.note(x, "slow", 1, 100, 999);
        Due.drop(x, 0, 1, 1);
        due.is("27 at the last hour", x.turn(0, 0), 200);
        due.is("27 the hour ahead", x.leads(0, 199), 0);
        due.is("27 once", x.blend(0, 2), 1);
        x.drop(0, 0, 2);
        due.is("27 too late", x.turn(0, 0), -1);
    }

    private static void promise28() {
        PerfumeOrgan x = new PerfumeOrgan();
        Due.note(x, "a", 0, 100, 1);
        Due.note(x, "b", 0, 100, 999);
        x.drop(0, 0, 8);
        x.drop(1, 1, 8);
        due.is("28 just a half is not below", x.faded(0, 500), 2);
        due.is("28 below all", x.faded(0, 1000), 1);
        due.is("28 a little below", x.faded(0, 501), 1);
        due.is("28 a thousandth", x.faded(0, 1), 10);
        due.is("28 to nothing", x.faded(0, 0), -5);
        due.is("28 slow", x.faded(1, 900), 106);
        due.is("28 at the last hour", x.faded(1, 819), 200);
        due.is("28 never", x.faded(1, 818), -5);
        due.is("28 an empty one", x.faded(2, 1000), -5);
        due.is("28 faded(0, 1001)", x.faded(0, 1001), -2);
        due.is("28 faded(0, -1)", x.faded(0, -1), -2);
        due.is("28 faded(16, -1)", x.faded(16, -1), -1);
        due.is("28 faded(-1, 5)", x.faded(-1, 5), -1);
        PerfumeOrgan three = rosePineOud();
        for (int p = 0; p <= 1000; p += 25) {
            due.is("28 three notes to " + p, three.faded(1, p), firstHourBelow(all(0) * ((float) p / 1000.0f)));
        }
    }

    private static int firstHourBelow(float bound) {
        for (int hour = 0; hour <= 200; hour++) {
            if (all(hour) < bound) {
                return hour;
            }
        }
        return -5;
    }

    private static void promise29() {
        PerfumeOrgan x = Due.organOf(3);
        Due.drop(x, 0, 1, 2, 4);
        Due.drop(x, 15, 3, 0, 1);
        float a = 3.0f / 4.0f - 1.0f / 7.0f;
        float b = 2.0f / 7.0f;
        float c = 4.0f / 7.0f - 1.0f / 4.0f;
        due.isFloat("29 distance(0, 15)", x.distance(0, 15), 0.0f + a + b + c);
        due.isFloat("29 distance(15, 0)", x.distance(15, 0), 0.0f + a + b + c);
        due.is("29 itself", x.distance(0, 0), 0);
        due.isFloat("29 an empty one", x.distance(0, 1), 0.0f + 1.0f / 7.0f + 2.0f / 7.0f + 4.0f / 7.0f);
        due.is("29 two empty ones", x.distance(1, 2), 0);
        Due.drop(x, 3, 3, 6, 12);
        due.is("29 of one shape", x.distance(0, 3), 0);
        due.is("29 distance(16, 0)", x.distance(16, 0), NO);
        due.is("29 distance(0, 16)", x.distance(0, 16), NO);
        due.is("29 distance(-1, 0)", x.distance(-1, 0), NO);
        due.is("29 distance(0, -1)", x.distance(0, -1), NO);
    }

    private static void promise30() {
        PerfumeOrgan x = Due.organOf(3);
        Due.drop(x, 0, 10, 10, 0);
        Due.drop(x, 1, 10, 17, 0);
        due.is("30 to as it is", x.nearer(0, 1), 107);
        Due.drop(x, 2, 10, 10, 90);
        due.is("30 the most at once", x.nearer(0, 2), 220);
        due.is("30 itself", x.nearer(0, 0), -5);
        Due.drop(x, 3, 1, 1, 0);
        due.is("30 of one shape", x.nearer(0, 3), -5);
        due.is("30 from an empty one", x.nearer(4, 3), -5);
        x.drop(5, 2, 3);
        due.is("30 from an empty one to a single note", x.nearer(4, 5), 201);
        due.is("30 to an empty one", x.nearer(5, 4), -5);
        due.is("30 nearer(16, 0)", x.nearer(16, 0), -1);
        due.is("30 nearer(0, 16)", x.nearer(0, 16), -1);
        due.is("30 nearer(-1, 0)", x.nearer(-1, 0), -1);
        due.is("30 nearer(0, -1)", x.nearer(0, -1), -1);
        due.is("30 nothing is changed", Due.drops(x, 0), "10 10 0");
    }

    private static void promise30Ties() {
        PerfumeOrgan x = Due.organOf(3);
        Due.drop(x, 0, 9997, 0, 0);
        Due.drop(x, 1, 9999, 1, 0);
        x.drop(0, 1, 4);
        due.is("30 not above 9999", x.nearer(0, 1), 2);
        x.drop(0, 0, 9999);
        due.is("30 none may come", x.nearer(0, 1), -5);
        Due.drop(x, 2, 0, 0, 1);
        Due.drop(x, 3, 1, 1, 1);
        due.is("30 of several the least note", x.nearer(2, 3), 1);
        Due.drop(x, 4, 0, 1, 0);
        x.drop(5, 1, 1);
        x.drop(5, 2, 1);
        due.is("30 the last note", x.nearer(4, 5), 201);
    }

    private static void promise31() {
        PerfumeOrgan x = rosePineOud();
        x.drop(3, 0, 4);
        for (int hour = 0; hour <= 200; hour += 8) {
            long bits = Double.doubleToLongBits((double) all(hour) / 3.0);
            due.is("31 wide(1, " + hour + ", 0)", x.wide(1, hour, 0), bits >>> 32);
            due.is("31 wide(1, " + hour + ", 1)", x.wide(1, hour, 1), bits & 0xFFFFFFFFL);
        }
        due.is("31 a third of 10, higher", x.wide(3, 0, 0), Double.doubleToLongBits(10.0 / 3.0) >>> 32);
        due.is("31 a third of 10, lower", x.wide(3, 0, 1), 0xAAAAAAABL);
        due.is("31 an empty one, higher", x.wide(0, 0, 0), 0);
        due.is("31 an empty one, lower", x.wide(0, 0, 1), 0);
        due.is("31 wide(16, 0, 0)", x.wide(16, 0, 0), NO);
        due.is("31 wide(-1, 0, 0)", x.wide(-1, 0, 0), NO);
        due.is("31 wide(1, 201, 0)", x.wide(1, 201, 0), NO);
        due.is("31 wide(1, -1, 0)", x.wide(1, -1, 0), NO);
        due.is("31 wide(1, 0, 2)", x.wide(1, 0, 2), NO);
        due.is("31 wide(1, 0, -1)", x.wide(1, 0, -1), NO);
        PerfumeOrgan tiny = new PerfumeOrgan();
        Due.note(tiny, "a", 0, 1, 1);
        tiny.drop(0, 0, 1);
        for (int hour = 110; hour <= 150; hour++) {
            long bits = Double.doubleToLongBits((double) weight(1, 1, 1, hour) / 3.0);
            due.is("31 tiny, higher, " + hour, tiny.wide(0, hour, 0), bits >>> 32);
            due.is("31 tiny, lower, " + hour, tiny.wide(0, hour, 1), bits & 0xFFFFFFFFL);
        }
    }

    private static void promise32() {
        PerfumeOrgan x = rosePineOud();
        float sum = 0.0f;
        for (int hour = 0; hour <= 200; hour++) {
            sum = sum + all(hour);
            due.isFloat("32 area(1, " + hour + ")", x.area(1, hour), sum);
        }
        due.is("32 an empty one", x.area(0, 200), 0);
        due.is("32 area(16, 0)", x.area(16, 0), NO);
        due.is("32 area(-1, 0)", x.area(-1, 0), NO);
        due.is("32 area(1, 201)", x.area(1, 201), NO);
        due.is("32 area(1, -1)", x.area(1, -1), NO);
    }

    private static void promise33() {
        PerfumeOrgan x = Due.organOf(4);
        due.is("33 an empty one", x.thin(0), -5);
        x.drop(0, 2, 9);
        due.is("33 one note", x.thin(0), -5);
        Due.drop(x, 0, 0, 5, 4, 9);
        due.is("33 the least is least missed", x.thin(0), 2);
        Due.drop(x, 0, 0, 5, 5, 5);
        due.is("33 of several the least", x.thin(0), 1);
        due.is("33 nothing is changed", Due.drops(x, 0), "0 5 5 5");
        due.is("33 thin(16)", x.thin(16), -1);
        due.is("33 thin(-1)", x.thin(-1), -1);
        PerfumeOrgan y = Due.organOf(6);
        for (int more = 0; more < 40; more++) {
            int[] drops = {7, 7, 7 + more / 20, 7, 7 + more % 3, 7 + more};
            Due.drop(y, 0, drops);
            due.is("33 by rounded floats, " + more, y.thin(0), leastMissed(drops));
        }
    }

    private static float far(int[] one, int allOfOne, int[] other, int allOfOther) {
        float far = 0.0f;
        for (int i = 0; i < one.length; i++) {
            far = far + Math.abs((float) one[i] / (float) allOfOne - (float) other[i] / (float) allOfOther);
        }
        return far;
    }

    private static int leastMissed(int[] drops) {
        int all = 0;
        for (int n : drops) {
            all += n;
        }
        int best = 0;
        float least = 9.0f;
        for (int note = 0; note < drops.length; note++) {
            int[] without = drops.clone();
            without[note] = 0;
            float far = far(without, all - drops[note], drops, all);
            if (far < least) {
                least = far;
                best = note;
            }
        }
        return best;
    }

    private static void promise34() {
        PerfumeOrgan x = new PerfumeOrgan();
        Due.note(x, "a", 1, 1, 10);
        due.is("34 the only one", x.substitute(0), -5);
        Due.note(x, "b", 2, 1, 10);
        due.is("34 of another family", x.substitute(0), -5);
        Due.note(x, "c", 1, 1, 30);
        due.is("34 one other", x.substitute(0), 2);
        Due.note(x, "d", 1, 1, 6);
        due.is("34 by keep", x.substitute(0), 3);
        Due.note(x, "e", 1, 1, 5);
        due.is("34 the nearer", x.substitute(0), 3);
        Due.note(x, "f", 1, 1, 6);
        due.is("34 of several the least", x.substitute(0), 3);
        due.is("34 one alike", x.substitute(5), 3);
        due.is("34 10 to 30 is nearer by keep than 6 to 10", x.substitute(2), 0);
        due.is("34 substitute(6)", x.substitute(6), -1);
        due.is("34 substitute(-1)", x.substitute(-1), -1);
    }

    private static void promise35() {
        PerfumeOrgan x = Due.organOf(3);
        Due.drop(x, 0, 4, 5, 9990);
        due.is("35 replace(0, 0, 1)", x.replace(0, 0, 1), 9999);
        due.is("35 drops", Due.drops(x, 0), "0 9 9990");
        due.is("35 just full", x.replace(0, 1, 2), 9999);
        due.is("35 drops, full", Due.drops(x, 0), "0 0 9999");
        x.drop(0, 0, 1);
        due.is("35 full", x.replace(0, 0, 2), -4);
        due.is("35 full, the other way", x.replace(0, 2, 0), -4);
        due.is("35 to itself", x.replace(0, 2, 2), 10000);
        due.is("35 nothing is changed", Due.drops(x, 0), "1 0 9999");
        due.is("35 an empty one", x.replace(1, 0, 1), 0);
        due.is("35 replace(16, 0, 1)", x.replace(16, 0, 1), -1);
        due.is("35 replace(-1, 0, 1)", x.replace(-1, 0, 1), -1);
        due.is("35 replace(0, 3, 1)", x.replace(0, 3, 1), -1);
        due.is("35 replace(0, -1, 1)", x.replace(0, -1, 1), -1);
        due.is("35 replace(0, 0, 3)", x.replace(0, 0, 3), -1);
        due.is("35 replace(0, 0, -1)", x.replace(0, 0, -1), -1);
        due.is("35 replace(0, 3, 3)", x.replace(0, 3, 3), -1);
    }

    private static void promise36() {
        PerfumeOrgan x = new PerfumeOrgan();
        Due.note(x, "a", 0, 1, 1);
        Due.note(x, "b", 7, 1, 1);
        Due.note(x, "c", 0, 1, 1);
        due.is("36 no blends", x.rank(0, 0), -1);
        Due.drop(x, 2, 1, 1, 1);
        Due.drop(x, 5, 1, 2, 0);
        Due.drop(x, 9, 2, 4, 2);
        Due.drop(x, 15, 9998, 4998, 0);
        int[] byFamily0 = {15, 2, 9, 5};
        int[] byFamily7 = {5, 9, 2, 15};
        int[] byFamily1 = {2, 5, 9, 15};
        for (int i = 0; i < 4; i++) {
            due.is("36 rank(0, " + i + ")", x.rank(0, i), byFamily0[i]);
            due.is("36 rank(7, " + i + ")", x.rank(7, i), byFamily7[i]);
            due.is("36 rank(1, " + i + ")", x.rank(1, i), byFamily1[i]);
        }
        due.is("36 rank(0, 4)", x.rank(0, 4), -1);
        due.is("36 rank(0, -1)", x.rank(0, -1), -1);
        due.is("36 rank(8, 0)", x.rank(8, 0), -1);
        due.is("36 rank(-1, 0)", x.rank(-1, 0), -1);
    }
}
