import java.util.Arrays;

public final class PerfumeOrgan {
    public static final int NONE = -1, BAD = -2, STATE = -3, FULL = -4;
    public static final long NO = Long.MIN_VALUE;

    private static final int NOT_FOUND = -5;
    private static final int NOTHING = -11, CAST = -12, BEYOND = -13, BELOW = -14;
    private static final int FAULT = -100, PART_FAILED = -2000;

    private static final int NOTES = 40, FAMILIES = 8, NAME_LETTERS = 7;
    private static final int MOST_STRENGTH = 9999, MOST_LASTING = 999;
    private static final int BLENDS = 16, ACCORDS = 6, MIXTURES = BLENDS + ACCORDS;
    private static final int MOST_DROPS = 9999, MOST_STOCK = 99999;
    private static final int MOST_TIMES = 99, MOST_LIMIT = 1000;
    private static final int LAST_HOUR = 200, MOST_FADING = 1000;
    private static final int BOOK = 30, ORDERS = 30, MOST_URGENCY = 9;
    private static final int OPEN = 0, DONE = 1, OFF = 2;
    private static final int MOST_MORE = 20;
    private static final int TAPE = 120, FIGURES = 4;
    // A part has two bytes at least, so no tape has more parts than this.
    private static final int PARTS = TAPE / 2;
    // Of each note its name, a sign, four figures and what parts it from the next.
    private static final int PAPER = NOTES * (NAME_LETTERS + 1 + FIGURES + 1);
    private static final int ROWS = 6, ROW_ITEMS = 50;
    private static final int BYTES = 0, INTS = 1, FLOATS = 2;
    private static final int LETTER_BITS = 5, LETTER_MASK = 31;
    private static final int FLOAT_BIAS = 127, FLOAT_WIDTH = 23;
    private static final int DOUBLE_BIAS = 1023, DOUBLE_WIDTH = 52;

    private final Holdings now = new Holdings();
    private final Holdings kept = new Holdings();
    private boolean isKept;
    private final Text tape = new Text(TAPE);
    private final Text sheet = new Text(PAPER);
    private final Recipe reader = new Recipe(tape, now.notes);
    private final Mixer mixer = new Mixer();
    private final Nose nose = new Nose();
    private final Air air = new Air();
    private final Row[] rows = new Row[ROWS];
    private final int[] turnHours = new int[LAST_HOUR];

    public PerfumeOrgan() {
        for (int i = 0; i < ROWS; i++) {
            rows[i] = new Row();
        }
    }

    // ---- notes

    public int feed(int letter) {
        if (!isWithin(letter, 1, 127)) {
            return BAD;
        }
        if (tape.size >= TAPE) {
            return FULL;
        }
        tape.append(letter);
        return tape.size;
    }

    public int clear() {
        return tape.empty();
    }

    public int note(int family, int strength, int lasting) {
        if (!isFamily(family)) {
            return NONE;
        }
        if (!isWithin(strength, 1, MOST_STRENGTH) || !isWithin(lasting, 1, MOST_LASTING)) {
            return BAD;
        }
        int fault = tape.faultAsName();
        int length = tape.empty();
        if (fault >= 0) {
            return FAULT - fault;
        }
        long word = tape.wordAt(0, length);
        if (now.notes.withName(word) >= 0) {
            return STATE;
        }
        if (now.notes.count >= NOTES) {
            return FULL;
        }
        return now.notes.append(word, family, strength, lasting);
    }

    public int of(int note, int what) {
        if (!isNote(note)) {
            return NONE;
        }
        switch (what) {
            case 0:
                return now.notes.families[note];
            case 1:
                return now.notes.hundredths[note];
            case 2:
                return now.notes.lastings[note];
            case 3:
                return bitsOf(now.notes.strengthOf(note));
            case 4:
                return bitsOf(now.notes.keepOf(note));
            case 5:
                return now.notes.placeInOrgan(note);
            case 6:
                return now.store.stock[note];
            default:
                return NONE;
        }
    }

    public int lasting(int note, int lasting) {
        if (!isNote(note)) {
            return NONE;
        }
        if (!isWithin(lasting, 1, MOST_LASTING)) {
            return BAD;
        }
        int was = now.notes.lastings[note];
        now.notes.lastings[note] = lasting;
        return was;
    }

    public int name(int note, int i) {
        if (!isNote(note)) {
            return NONE;
        }
        int length = now.notes.lettersOf(note);
        if (i == -1) {
            return length;
        }
        return isWithin(i, 0, length - 1) ? now.notes.letterOf(note, i) : NONE;
    }

    public int find() {
        boolean isName = tape.faultAsName() < 0;
        int length = tape.empty();
        return isName ? now.notes.withName(tape.wordAt(0, length)) : NOT_FOUND;
    }

    public int byName(int i) {
        return now.notes.atPlaceByName(i);
    }

    public int organ(int i) {
        if (!isWithin(i, 0, now.notes.count - 1)) {
            return NONE;
        }
        now.notes.listOrgan();
        return now.notes.inOrgan[i];
    }

    // ---- blends and accords

    public int recipe(int blend) {
        return isBlend(blend) ? follow(now.mixtures[blend], true) : NONE;
    }

    public int accord(int accord) {
        return isWithin(accord, 0, ACCORDS - 1) ? follow(now.mixtures[BLENDS + accord], false) : NONE;
    }

    private int follow(Mixture target, boolean accordsToo) {
        boolean isRecipe = reader.read(accordsToo);
        tape.empty();
        if (!isRecipe) {
            return FAULT - reader.at;
        }
        int failed = mixer.doRecipe(reader, target, now.mixtures);
        return failed >= 0 ? PART_FAILED - failed : target.all;
    }

    public int drop(int blend, int note, int n) {
        if (!isBlend(blend) || !isNote(note)) {
            return NONE;
        }
        if (!isWithin(n, 0, MOST_DROPS)) {
            return BAD;
        }
        int was = now.mixtures[blend].drops[note];
        now.mixtures[blend].put(note, n);
        return was;
    }

    public int drops(int blend, int note) {
        if (!isWithin(blend, 0, MIXTURES - 1) || !isNote(note)) {
            return NONE;
        }
        return now.mixtures[blend].drops[note];
    }

    public int copy(int from, int blend) {
        if (!isWithin(from, 0, MIXTURES - 1) || !isBlend(blend)) {
            return NONE;
        }
        now.mixtures[blend].takeFrom(now.mixtures[from]);
        return now.mixtures[blend].all;
    }

    public int scale(int blend, int n) {
        if (!isBlend(blend)) {
            return NONE;
        }
        if (!isWithin(n, 0, MOST_DROPS)) {
            return BAD;
        }
        Mixture mixture = now.mixtures[blend];
        return mixer.shareOut(mixture, n, mixture) ? mixture.notesWithDrops() : STATE;
    }

    public int mix(int blend, int other) {
        if (!isBlend(blend) || !isBlend(other)) {
            return NONE;
        }
        return mixer.addAll(now.mixtures[blend], now.mixtures[other]) ? now.mixtures[blend].all : FULL;
    }

    public int blend(int blend, int what) {
        if (!isBlend(blend)) {
            return NONE;
        }
        Mixture mixture = now.mixtures[blend];
        switch (what) {
            case 0:
                return mixture.all;
            case 1:
                return mixture.notesWithDrops();
            case 2:
                return listTurns(mixture);
            case 3:
                return now.brokenBy(mixture);
            case 4:
                return mixture.familiesWithDrops(now.notes);
            case 5:
                return now.othersOfShape(blend);
            case 6:
                return nose.nearestTo(now.mixtures, blend);
            default:
                return NONE;
        }
    }

    public int spell(int blend) {
        if (!isBlend(blend)) {
            return NONE;
        }
        Mixture mixture = now.mixtures[blend];
        sheet.empty();
        now.notes.listOrgan();
        for (int i = 0; i < now.notes.count; i++) {
            int note = now.notes.inOrgan[i];
            if (mixture.drops[note] > 0) {
                writePart(note, mixture.drops[note]);
            }
        }
        return sheet.size;
    }

    public int differ(int blend, int other) {
        if (!isBlend(blend) || !isBlend(other)) {
            return NONE;
        }
        Mixture from = now.mixtures[blend];
        Mixture to = now.mixtures[other];
        sheet.empty();
        now.notes.listOrgan();
        for (int i = 0; i < now.notes.count; i++) {
            int note = now.notes.inOrgan[i];
            if (from.drops[note] != to.drops[note]) {
                writePart(note, to.drops[note]);
            }
        }
        return sheet.size;
    }

    private void writePart(int note, int n) {
        if (sheet.size > 0) {
            sheet.append(';');
        }
        int length = now.notes.lettersOf(note);
        for (int i = 0; i < length; i++) {
            sheet.append(now.notes.letterOf(note, i));
        }
        sheet.append('=');
        sheet.appendNumber(n);
    }

    public int paper(int i) {
        return isWithin(i, 0, sheet.size - 1) ? sheet.at(i) : NONE;
    }

    // ---- scents

    public long share(int blend, int note) {
        if (!isBlend(blend) || !isNote(note)) {
            return NO;
        }
        return bitsOf(now.mixtures[blend].shareOf(note));
    }

    public long weight(int blend, int note, int hour) {
        if (!isBlend(blend) || !isNote(note) || !isHour(hour)) {
            return NO;
        }
        air.openAt(now.notes, now.mixtures[blend], hour);
        return bitsOf(air.weights[note]);
    }

    public long scent(int blend, int family, int hour) {
        if (!isBlend(blend) || !isWithin(family, -1, FAMILIES - 1) || !isHour(hour)) {
            return NO;
        }
        air.openAt(now.notes, now.mixtures[blend], hour);
        return bitsOf(family < 0 ? air.scentOfAll() : air.scentOfFamily(family));
    }

    public long thousandths(int blend, int hour) {
        if (!isBlend(blend) || !isHour(hour)) {
            return NO;
        }
        air.openAt(now.notes, now.mixtures[blend], hour);
        return (int) (air.scentOfAll() * 1000.0f);
    }

    public int leads(int blend, int hour) {
        if (!isBlend(blend) || !isHour(hour)) {
            return NONE;
        }
        Mixture mixture = now.mixtures[blend];
        if (mixture.all == 0) {
            return NOT_FOUND;
        }
        air.openAt(now.notes, mixture, hour);
        return air.leader();
    }

    public int turn(int blend, int i) {
        if (!isBlend(blend)) {
            return NONE;
        }
        int turns = listTurns(now.mixtures[blend]);
        return isWithin(i, 0, turns - 1) ? turnHours[i] : NONE;
    }

    private int listTurns(Mixture mixture) {
        if (mixture.all == 0) {
            return 0;
        }
        int turns = 0;
        air.openAt(now.notes, mixture, 0);
        int led = air.leader();
        for (int hour = 1; hour <= LAST_HOUR; hour++) {
            air.passHour();
            int leads = air.leader();
            if (leads != led) {
                turnHours[turns] = hour;
                turns++;
            }
            led = leads;
        }
        return turns;
    }

    public int faded(int blend, int p) {
        if (!isBlend(blend)) {
            return NONE;
        }
        if (!isWithin(p, 0, MOST_FADING)) {
            return BAD;
        }
        air.openAt(now.notes, now.mixtures[blend], 0);
        float bound = air.scentOfAll() * ((float) p / 1000.0f);
        for (int hour = 0; hour <= LAST_HOUR; hour++) {
            if (air.scentOfAll() < bound) {
                return hour;
            }
            air.passHour();
        }
        return NOT_FOUND;
    }

    public long distance(int blend, int other) {
        if (!isBlend(blend) || !isBlend(other)) {
            return NO;
        }
        return bitsOf(now.mixtures[blend].distanceTo(now.mixtures[other]));
    }

    public int nearer(int blend, int other) {
        if (!isBlend(blend) || !isBlend(other)) {
            return NONE;
        }
        return nose.bestMore(now.mixtures[blend], now.mixtures[other], now.notes.count);
    }

    public long wide(int blend, int hour, int part) {
        if (!isBlend(blend) || !isHour(hour) || !isWithin(part, 0, 1)) {
            return NO;
        }
        air.openAt(now.notes, now.mixtures[blend], hour);
        long bits = magnitudeBits((double) air.scentOfAll() / 3.0, DOUBLE_BIAS, DOUBLE_WIDTH);
        return part == 0 ? bits >>> 32 : bits & 0xFFFFFFFFL;
    }

    public long area(int blend, int hour) {
        if (!isBlend(blend) || !isHour(hour)) {
            return NO;
        }
        air.openAt(now.notes, now.mixtures[blend], 0);
        float sum = 0.0f + air.scentOfAll();
        for (int i = 1; i <= hour; i++) {
            air.passHour();
            sum = sum + air.scentOfAll();
        }
        return bitsOf(sum);
    }

    public int thin(int blend) {
        return isBlend(blend) ? nose.leastMissed(now.mixtures[blend]) : NONE;
    }

    public int substitute(int note) {
        return isNote(note) ? now.notes.nearestKeep(note) : NONE;
    }

    public int replace(int blend, int note, int other) {
        if (!isBlend(blend) || !isNote(note) || !isNote(other)) {
            return NONE;
        }
        Mixture mixture = now.mixtures[blend];
        if (note == other) {
            return mixture.all;
        }
        int sum = mixture.drops[note] + mixture.drops[other];
        if (sum > MOST_DROPS) {
            return FULL;
        }
        mixture.put(note, 0);
        mixture.put(other, sum);
        return mixture.all;
    }

    public int rank(int family, int i) {
        return isFamily(family) ? now.atRank(family, i) : NONE;
    }

    // ---- orders

    public int order(int blend, int n, int urgency) {
        if (!isBlend(blend)) {
            return NONE;
        }
        if (!isWithin(n, 1, MOST_TIMES) || !isWithin(urgency, 0, MOST_URGENCY)) {
            return BAD;
        }
        if (now.orders.count >= ORDERS) {
            return FULL;
        }
        return now.orders.append(blend, n, urgency);
    }

    public int off(int order) {
        if (!now.orders.has(order)) {
            return NONE;
        }
        if (now.orders.states[order] != OPEN) {
            return STATE;
        }
        now.orders.states[order] = OFF;
        return 1;
    }

    public int urge(int order, int urgency) {
        if (!now.orders.has(order)) {
            return NONE;
        }
        if (!isWithin(urgency, 0, MOST_URGENCY)) {
            return BAD;
        }
        if (now.orders.states[order] != OPEN) {
            return STATE;
        }
        int was = now.orders.urgencies[order];
        now.orders.urgencies[order] = urgency;
        return was;
    }

    public int orderOf(int order, int what) {
        if (!now.orders.has(order)) {
            return NONE;
        }
        switch (what) {
            case 0:
                return now.orders.blends[order];
            case 1:
                return now.orders.times[order];
            case 2:
                return now.orders.urgencies[order];
            case 3:
                return now.orders.states[order];
            default:
                return NONE;
        }
    }

    public int inTurn(int i) {
        return isWithin(i, 0, now.orders.listInTurn() - 1) ? now.orders.turns[i] : NONE;
    }

    public int serve() {
        return now.serveOrders();
    }

    // ---- limits, the stock, the book

    public int limit(int family, int n) {
        if (!isFamily(family)) {
            return NONE;
        }
        if (!isWithin(n, 0, MOST_LIMIT)) {
            return BAD;
        }
        int was = now.store.limits[family];
        now.store.limits[family] = n;
        return was;
    }

    public int fill(int note, int n) {
        if (!isNote(note)) {
            return NONE;
        }
        if (!isWithin(n, 0, MOST_STOCK)) {
            return BAD;
        }
        int sum = now.store.stock[note] + n;
        if (sum > MOST_STOCK) {
            return FULL;
        }
        now.store.stock[note] = sum;
        return sum;
    }

    public int make(int blend, int n) {
        if (!isBlend(blend)) {
            return NONE;
        }
        if (!isWithin(n, 1, MOST_TIMES)) {
            return BAD;
        }
        return now.canMake(blend, n) ? now.store.take(blend, n, now.mixtures[blend]) : STATE;
    }

    public int lacks(int blend, int n) {
        if (!isBlend(blend)) {
            return NONE;
        }
        if (!isWithin(n, 1, MOST_TIMES)) {
            return BAD;
        }
        return now.store.firstLacking(now.mixtures[blend], n);
    }

    public int most(int blend) {
        if (!isBlend(blend)) {
            return NONE;
        }
        Mixture mixture = now.mixtures[blend];
        return mixture.all == 0 ? STATE : now.store.timesEnough(mixture);
    }

    public int book(int i, int what) {
        if (!isWithin(i, 0, now.store.made - 1)) {
            return NONE;
        }
        int line = now.store.made - 1 - i;
        switch (what) {
            case 0:
                return now.store.madeBlends[line];
            case 1:
                return now.store.madeTimes[line];
            case 2:
                return now.store.madeDrops[line];
            default:
                return NONE;
        }
    }

    public int told(int what) {
        switch (what) {
            case 0:
                return now.notes.count;
            case 1:
                return now.countFull(0, BLENDS);
            case 2:
                return now.countFull(BLENDS, MIXTURES);
            case 3:
                return now.store.made;
            case 4:
                return now.store.stockOfAll();
            case 5:
                return tape.size;
            case 6:
                return sheet.size;
            case 7:
                return now.countShapes();
            case 8:
                return now.orders.count;
            case 9:
                return now.orders.listInTurn();
            default:
                return NONE;
        }
    }

    // ---- rows, the image

    public int row(int row, int sort, int n) {
        if (!isRow(row) || !isWithin(sort, BYTES, FLOATS)) {
            return NONE;
        }
        if (n > ROW_ITEMS) {
            return BAD;
        }
        if (n < 0) {
            return BELOW;
        }
        rows[row].become(sort, n);
        return 1;
    }

    public int set(int row, int i, long v) {
        if (!isRow(row)) {
            return NONE;
        }
        if (!rows[row].isThere) {
            return NOTHING;
        }
        if (!rows[row].hasPlace(i)) {
            return BEYOND;
        }
        rows[row].items[i] = rows[row].itemOfNumber(v);
        return 1;
    }

    public long get(int row, int i) {
        if (!isRow(row) || !rows[row].isThere || !rows[row].hasPlace(i)) {
            return NO;
        }
        return rows[row].items[i];
    }

    public int move(int row, int i, int other, int j, int n) {
        if (!isRow(row) || !isRow(other)) {
            return NONE;
        }
        Row from = rows[row];
        Row to = rows[other];
        if (!from.isThere || !to.isThere) {
            return NOTHING;
        }
        if (from.sort != to.sort) {
            return CAST;
        }
        if (!from.hasPlaces(i, n) || !to.hasPlaces(j, n)) {
            return BEYOND;
        }
        System.arraycopy(from.items, i, to.items, j, n);
        return n;
    }

    public int twin(int row, int other) {
        if (!isRow(row) || !isRow(other)) {
            return NONE;
        }
        if (!rows[row].isThere) {
            return NOTHING;
        }
        rows[other].takeFrom(rows[row]);
        return rows[other].size;
    }

    public int lay(int row, int i, int blend) {
        if (!isRow(row) || !isBlend(blend)) {
            return NONE;
        }
        Row to = rows[row];
        if (!to.isThere) {
            return NOTHING;
        }
        for (int note = 0; note < now.notes.count; note++) {
            if (!to.hasPlaceFrom(i, note)) {
                return BEYOND;
            }
            to.items[i + note] = to.itemOfShare(now.mixtures[blend].shareOf(note));
        }
        return now.notes.count;
    }

    public int judge(int row, int i, int blend) {
        if (!isRow(row) || !isBlend(blend)) {
            return NONE;
        }
        Row by = rows[row];
        if (!by.isThere) {
            return NOTHING;
        }
        for (int note = 0; note < now.notes.count; note++) {
            if (!by.hasPlaceFrom(i, note)) {
                return 100 + note;
            }
            if (by.items[i + note] != by.itemOfShare(now.mixtures[blend].shareOf(note))) {
                return note;
            }
        }
        return NOT_FOUND;
    }

    public int image() {
        kept.takeFrom(now);
        isKept = true;
        return now.notes.count;
    }

    public int undo() {
        if (!isKept) {
            return STATE;
        }
        now.takeFrom(kept);
        return now.notes.count;
    }

    // ---- what may be asked for

    private static boolean isWithin(int n, int least, int most) {
        return n >= least && n <= most;
    }

    private static boolean isFamily(int family) {
        return isWithin(family, 0, FAMILIES - 1);
    }

    private static boolean isBlend(int blend) {
        return isWithin(blend, 0, BLENDS - 1);
    }

    private static boolean isHour(int hour) {
        return isWithin(hour, 0, LAST_HOUR);
    }

    private static boolean isRow(int row) {
        return isWithin(row, 0, ROWS - 1);
    }

    private boolean isNote(int note) {
        return isWithin(note, 0, now.notes.count - 1);
    }

    private static boolean isLetter(int sign) {
        return sign >= 'a' && sign <= 'z';
    }

    private static boolean isFigure(int sign) {
        return sign >= '0' && sign <= '9';
    }

    // ---- the bits of floats, worked out, as LANGUAGE.md lists no call for them

    private static int bitsOf(float f) {
        if (f < 0.0f) {
            return (int) magnitudeBits(0.0 - (double) f, FLOAT_BIAS, FLOAT_WIDTH) | Integer.MIN_VALUE;
        }
        return (int) magnitudeBits((double) f, FLOAT_BIAS, FLOAT_WIDTH);
    }

    // A float as a double is never too small for an exponent of its own, and doubling and
    // halving lose nothing, so the fraction that is left has just the bits of the number.
    private static long magnitudeBits(double size, int bias, int width) {
        if (size == 0.0) {
            return 0L;
        }
        double fraction = size;
        int exponent = bias;
        for (; fraction >= 2.0 && exponent < 2 * bias; exponent++) {
            fraction = fraction / 2.0;
        }
        for (; fraction < 1.0 && exponent > 1; exponent--) {
            fraction = fraction * 2.0;
        }
        double units = (double) (1L << width);
        if (fraction < 1.0) {
            return (long) (fraction * units);
        }
        return (long) exponent << width | (long) ((fraction - 1.0) * units);
    }

    private static float amountBetween(float one, float other) {
        return one >= other ? one - other : other - one;
    }

    // ---- the parts

    private static final class Text {
        final byte[] bytes;
        int size;

        Text(int room) {
            bytes = new byte[room < 0 ? 0 : room];
        }

        // 0 behind the end: no byte of a text is 0.
        int at(int place) {
            return place >= 0 && place < size ? bytes[place] : 0;
        }

        void append(int sign) {
            if (size < bytes.length) {
                bytes[size] = (byte) sign;
                size++;
            }
        }

        void appendNumber(int n) {
            for (int unit = 1000; unit > 0; unit = unit / 10) {
                if (n >= unit || unit == 1) {
                    append('0' + n / unit % 10);
                }
            }
        }

        // The bytes stay, so that a name can still be read behind this.
        int empty() {
            int had = size;
            size = 0;
            return had;
        }

        int faultAsName() {
            for (int i = 0; i < size; i++) {
                if (i >= NAME_LETTERS || !isLetter(at(i))) {
                    return i;
                }
            }
            return size > 0 ? NOT_FOUND : 0;
        }

        // The first letter highest, and 0 behind the last one: so words stand as in a book.
        long wordAt(int from, int length) {
            long word = 0L;
            for (int i = 0; i < NAME_LETTERS; i++) {
                int place = from + i;
                boolean isPart = i < length && place >= 0 && place < bytes.length;
                word = word << LETTER_BITS | (isPart ? bytes[place] - 'a' + 1 : 0);
            }
            return word;
        }
    }

    private static final class Notes {
        final long[] names = new long[NOTES];
        final int[] families = new int[NOTES];
        final int[] hundredths = new int[NOTES];
        final int[] lastings = new int[NOTES];
        final int[] inOrgan = new int[NOTES];
        int count;

        int append(long name, int family, int strength, int lasting) {
            int note = count;
            names[note] = name;
            families[note] = family;
            hundredths[note] = strength;
            lastings[note] = lasting;
            count++;
            return note;
        }

        int withName(long name) {
            for (int i = 0; i < count; i++) {
                if (names[i] == name) {
                    return i;
                }
            }
            return NOT_FOUND;
        }

        float strengthOf(int note) {
            return (float) hundredths[note] / 100.0f;
        }

        float keepOf(int note) {
            return (float) lastings[note] / (float) (lastings[note] + 1);
        }

        int lettersOf(int note) {
            int letters = 0;
            while (letters < NAME_LETTERS && codeOf(note, letters) > 0) {
                letters++;
            }
            return letters;
        }

        int letterOf(int note, int i) {
            return 'a' - 1 + codeOf(note, i);
        }

        private int codeOf(int note, int i) {
            return (int) (names[note] >> LETTER_BITS * (NAME_LETTERS - 1 - i)) & LETTER_MASK;
        }

        boolean isAheadInOrgan(int note, int other) {
            if (families[note] != families[other]) {
                return families[note] < families[other];
            }
            if (lastings[note] != lastings[other]) {
                return lastings[note] > lastings[other];
            }
            return names[note] < names[other];
        }

        int placeInOrgan(int note) {
            int place = 0;
            for (int i = 0; i < count; i++) {
                place += isAheadInOrgan(i, note) ? 1 : 0;
            }
            return place;
        }

        // No two notes have one place, as no two have one name.
        void listOrgan() {
            for (int i = 0; i < count; i++) {
                inOrgan[placeInOrgan(i)] = i;
            }
        }

        int placeByName(int note) {
            int place = 0;
            for (int i = 0; i < count; i++) {
                place += names[i] < names[note] ? 1 : 0;
            }
            return place;
        }

        int atPlaceByName(int place) {
            for (int i = 0; i < count; i++) {
                if (placeByName(i) == place) {
                    return i;
                }
            }
            return NONE;
        }

        int nearestKeep(int note) {
            int best = NOT_FOUND;
            float least = 0.0f;
            for (int i = 0; i < count; i++) {
                if (i != note && families[i] == families[note]) {
                    float amount = amountBetween(keepOf(i), keepOf(note));
                    if (best < 0 || amount < least) {
                        best = i;
                        least = amount;
                    }
                }
            }
            return best;
        }

        void takeFrom(Notes other) {
            System.arraycopy(other.names, 0, names, 0, NOTES);
            System.arraycopy(other.families, 0, families, 0, NOTES);
            System.arraycopy(other.hundredths, 0, hundredths, 0, NOTES);
            System.arraycopy(other.lastings, 0, lastings, 0, NOTES);
            count = other.count;
        }
    }

    private static final class Mixture {
        final int[] drops = new int[NOTES];
        int all;

        void put(int note, int n) {
            all += n - drops[note];
            drops[note] = n;
        }

        void takeFrom(Mixture other) {
            System.arraycopy(other.drops, 0, drops, 0, NOTES);
            all = other.all;
        }

        int notesWithDrops() {
            int notes = 0;
            for (int i = 0; i < NOTES; i++) {
                notes += drops[i] > 0 ? 1 : 0;
            }
            return notes;
        }

        int familiesWithDrops(Notes notes) {
            int bits = 0;
            for (int i = 0; i < notes.count; i++) {
                bits |= drops[i] > 0 ? 1 << notes.families[i] : 0;
            }
            return bits;
        }

        int dropsOfFamily(int family, Notes notes) {
            int sum = 0;
            for (int i = 0; i < notes.count; i++) {
                sum += notes.families[i] == family ? drops[i] : 0;
            }
            return sum;
        }

        float shareOf(int note) {
            return all == 0 ? 0.0f : (float) drops[note] / (float) all;
        }

        float distanceTo(Mixture other) {
            float sum = 0.0f;
            for (int i = 0; i < NOTES; i++) {
                sum = sum + amountBetween(shareOf(i), other.shareOf(i));
            }
            return sum;
        }

        boolean isOfShape(Mixture other) {
            if (all == 0 || other.all == 0) {
                return false;
            }
            for (int i = 0; i < NOTES; i++) {
                if ((long) drops[i] * other.all != (long) other.drops[i] * all) {
                    return false;
                }
            }
            return true;
        }
    }

    private static final class Mixer {
        final Mixture work = new Mixture();
        final Mixture portion = new Mixture();
        final int[] rests = new int[NOTES];

        // False: the source is empty. Source and target may be the same, as each note is read
        // before it is written.
        boolean shareOut(Mixture source, int n, Mixture target) {
            int all = source.all;
            if (all <= 0) {
                return false;
            }
            int left = n;
            for (int i = 0; i < NOTES; i++) {
                int product = source.drops[i] * n;
                rests[i] = product % all;
                target.put(i, product / all);
                left -= product / all;
            }
            for (int i = 0; i < left && i < NOTES; i++) {
                giveToGreatestRest(target);
            }
            return true;
        }

        private void giveToGreatestRest(Mixture target) {
            int best = 0;
            for (int i = 1; i < NOTES; i++) {
                if (rests[i] > rests[best]) {
                    best = i;
                }
            }
            target.put(best, target.drops[best] + 1);
            rests[best] = -1;
        }

        boolean addAll(Mixture target, Mixture more) {
            for (int i = 0; i < NOTES; i++) {
                if (target.drops[i] + more.drops[i] > MOST_DROPS) {
                    return false;
                }
            }
            for (int i = 0; i < NOTES; i++) {
                target.put(i, target.drops[i] + more.drops[i]);
            }
            return true;
        }

        // Which part can't be done; NOT_FOUND: all were.
        int doRecipe(Recipe recipe, Mixture target, Mixture[] mixtures) {
            work.takeFrom(target);
            for (int i = 0; i < recipe.parts && i < PARTS; i++) {
                if (!doPart(recipe.signs[i], recipe.whose[i], recipe.amounts[i], mixtures)) {
                    return i;
                }
            }
            target.takeFrom(work);
            return NOT_FOUND;
        }

        private boolean doPart(int sign, int whose, int n, Mixture[] mixtures) {
            switch (sign) {
                case '=':
                    return become(whose, n);
                case '+':
                    return become(whose, work.drops[whose] + n);
                case '-':
                    return become(whose, work.drops[whose] - n);
                case '@':
                    return shareOut(mixtures[BLENDS + whose], n, portion) && addAll(work, portion);
                default:
                    return shareOut(work, n, work);
            }
        }

        private boolean become(int note, int n) {
            if (!isWithin(n, 0, MOST_DROPS)) {
                return false;
            }
            work.put(note, n);
            return true;
        }
    }

    // Reads THE TAPE as a recipe. Where a function answers false, "at" is the place of the fault.
    private static final class Recipe {
        final int[] signs = new int[PARTS];
        final int[] whose = new int[PARTS];
        final int[] amounts = new int[PARTS];
        final Text text;
        final Notes notes;
        int parts;
        int at;
        private int number;

        Recipe(Text text, Notes notes) {
            this.text = text;
            this.notes = notes;
        }

        boolean read(boolean accordsToo) {
            at = 0;
            parts = 0;
            while (parts < PARTS) {
                if (!readHead(accordsToo) || !readNumber()) {
                    return false;
                }
                amounts[parts] = number;
                parts++;
                if (at >= text.size) {
                    return true;
                }
                if (text.at(at) != ';') {
                    return false;
                }
                at++;
            }
            return false;
        }

        // What stands ahead of a part's amount.
        private boolean readHead(boolean accordsToo) {
            int sign = text.at(at);
            if (sign == '%') {
                at++;
                return keepHead('%', 0);
            }
            if (sign == '@' && accordsToo) {
                at++;
                return readAccord();
            }
            return isLetter(sign) && readNote();
        }

        private boolean readAccord() {
            int begin = at;
            if (!readNumber()) {
                return false;
            }
            if (number >= ACCORDS) {
                at = begin;
                return false;
            }
            if (text.at(at) != '=') {
                return false;
            }
            at++;
            return keepHead('@', number);
        }

        private boolean readNote() {
            int begin = at;
            while (at < text.size && isLetter(text.at(at))) {
                at++;
            }
            int length = at - begin;
            int note = length > NAME_LETTERS ? NOT_FOUND : notes.withName(text.wordAt(begin, length));
            if (note < 0) {
                at = begin;
                return false;
            }
            int sign = text.at(at);
            if (sign != '=' && sign != '+' && sign != '-') {
                return false;
            }
            at++;
            return keepHead(sign, note);
        }

        private boolean keepHead(int sign, int noteOrAccord) {
            signs[parts] = sign;
            whose[parts] = noteOrAccord;
            return true;
        }

        private boolean readNumber() {
            int figures = 0;
            number = 0;
            while (figures < FIGURES && isFigure(text.at(at))) {
                number = number * 10 + text.at(at) - '0';
                figures++;
                at++;
            }
            return figures > 0;
        }
    }

    // The weights of one mixture's notes, hour by hour. Those of notes without drops are 0.0f,
    // which changes no sum.
    private static final class Air {
        final float[] weights = new float[NOTES];
        final float[] keeps = new float[NOTES];
        final int[] families = new int[NOTES];
        final float[] scents = new float[FAMILIES];
        int count;

        void openAt(Notes notes, Mixture mixture, int hour) {
            count = notes.count;
            for (int i = 0; i < count; i++) {
                weights[i] = (float) mixture.drops[i] * notes.strengthOf(i);
                keeps[i] = notes.keepOf(i);
                families[i] = notes.families[i];
            }
            for (int i = 0; i < hour; i++) {
                passHour();
            }
        }

        void passHour() {
            for (int i = 0; i < count; i++) {
                weights[i] = weights[i] * keeps[i];
            }
        }

        float scentOfAll() {
            float sum = 0.0f;
            for (int i = 0; i < count; i++) {
                sum = sum + weights[i];
            }
            return sum;
        }

        float scentOfFamily(int family) {
            listScents();
            return scents[family];
        }

        int leader() {
            listScents();
            int best = 0;
            for (int i = 1; i < FAMILIES; i++) {
                if (scents[i] > scents[best]) {
                    best = i;
                }
            }
            return best;
        }

        private void listScents() {
            Arrays.fill(scents, 0.0f);
            for (int i = 0; i < count; i++) {
                scents[families[i]] = scents[families[i]] + weights[i];
            }
        }
    }

    // Looks for what is least far away.
    private static final class Nose {
        final Mixture trial = new Mixture();

        int nearestTo(Mixture[] mixtures, int blend) {
            int best = NOT_FOUND;
            float least = 0.0f;
            for (int i = 0; i < BLENDS; i++) {
                if (i != blend && mixtures[i].all > 0) {
                    float far = mixtures[blend].distanceTo(mixtures[i]);
                    if (best < 0 || far < least) {
                        best = i;
                        least = far;
                    }
                }
            }
            return best;
        }

        int bestMore(Mixture mixture, Mixture other, int notes) {
            int best = NOT_FOUND;
            float least = mixture.distanceTo(other);
            trial.takeFrom(mixture);
            for (int note = 0; note < notes; note++) {
                int had = mixture.drops[note];
                for (int n = 1; n <= MOST_MORE && had + n <= MOST_DROPS; n++) {
                    trial.put(note, had + n);
                    float far = trial.distanceTo(other);
                    if (far < least) {
                        best = 100 * note + n;
                        least = far;
                    }
                }
                trial.put(note, had);
            }
            return best;
        }

        int leastMissed(Mixture mixture) {
            if (mixture.notesWithDrops() < 2) {
                return NOT_FOUND;
            }
            int best = NOT_FOUND;
            float least = 0.0f;
            trial.takeFrom(mixture);
            for (int note = 0; note < NOTES; note++) {
                if (mixture.drops[note] > 0) {
                    trial.put(note, 0);
                    float far = trial.distanceTo(mixture);
                    if (best < 0 || far < least) {
                        best = note;
                        least = far;
                    }
                    trial.put(note, mixture.drops[note]);
                }
            }
            return best;
        }
    }

    private static final class Store {
        final int[] limits = new int[FAMILIES];
        final int[] stock = new int[NOTES];
        final int[] madeBlends = new int[BOOK];
        final int[] madeTimes = new int[BOOK];
        final int[] madeDrops = new int[BOOK];
        int made;

        Store() {
            Arrays.fill(limits, MOST_LIMIT);
        }

        int stockOfAll() {
            int sum = 0;
            for (int i = 0; i < NOTES; i++) {
                sum += stock[i];
            }
            return sum;
        }

        int firstLacking(Mixture mixture, int n) {
            for (int i = 0; i < NOTES; i++) {
                if (stock[i] < n * mixture.drops[i]) {
                    return i;
                }
            }
            return NOT_FOUND;
        }

        int timesEnough(Mixture mixture) {
            int times = MOST_TIMES;
            for (int i = 0; i < NOTES; i++) {
                if (mixture.drops[i] > 0) {
                    times = Math.min(times, stock[i] / mixture.drops[i]);
                }
            }
            return times;
        }

        int take(int blend, int n, Mixture mixture) {
            for (int i = 0; i < NOTES; i++) {
                stock[i] -= n * mixture.drops[i];
            }
            write(blend, n, n * mixture.all);
            return n * mixture.all;
        }

        private void write(int blend, int n, int drops) {
            if (made >= BOOK) {
                System.arraycopy(madeBlends, 1, madeBlends, 0, BOOK - 1);
                System.arraycopy(madeTimes, 1, madeTimes, 0, BOOK - 1);
                System.arraycopy(madeDrops, 1, madeDrops, 0, BOOK - 1);
                made = BOOK - 1;
            }
            madeBlends[made] = blend;
            madeTimes[made] = n;
            madeDrops[made] = drops;
            made++;
        }

        void takeFrom(Store other) {
            System.arraycopy(other.limits, 0, limits, 0, FAMILIES);
            System.arraycopy(other.stock, 0, stock, 0, NOTES);
            System.arraycopy(other.madeBlends, 0, madeBlends, 0, BOOK);
            System.arraycopy(other.madeTimes, 0, madeTimes, 0, BOOK);
            System.arraycopy(other.madeDrops, 0, madeDrops, 0, BOOK);
            made = other.made;
        }
    }

    private static final class Orders {
        final int[] blends = new int[ORDERS];
        final int[] times = new int[ORDERS];
        final int[] urgencies = new int[ORDERS];
        final int[] states = new int[ORDERS];
        final int[] turns = new int[ORDERS];
        int count;

        boolean has(int order) {
            return isWithin(order, 0, count - 1);
        }

        int append(int blend, int n, int urgency) {
            int order = count;
            blends[order] = blend;
            times[order] = n;
            urgencies[order] = urgency;
            states[order] = OPEN;
            count++;
            return order;
        }

        // "turns" has them then; the answer is how many there are.
        int listInTurn() {
            int open = 0;
            for (int urgency = MOST_URGENCY; urgency >= 0; urgency--) {
                for (int i = 0; i < count; i++) {
                    if (states[i] == OPEN && urgencies[i] == urgency) {
                        turns[open] = i;
                        open++;
                    }
                }
            }
            return open;
        }

        void takeFrom(Orders other) {
            System.arraycopy(other.blends, 0, blends, 0, ORDERS);
            System.arraycopy(other.times, 0, times, 0, ORDERS);
            System.arraycopy(other.urgencies, 0, urgencies, 0, ORDERS);
            System.arraycopy(other.states, 0, states, 0, ORDERS);
            count = other.count;
        }
    }

    // All that THE IMAGE keeps.
    private static final class Holdings {
        final Notes notes = new Notes();
        final Mixture[] mixtures = new Mixture[MIXTURES];
        final Store store = new Store();
        final Orders orders = new Orders();

        Holdings() {
            for (int i = 0; i < MIXTURES; i++) {
                mixtures[i] = new Mixture();
            }
        }

        void takeFrom(Holdings other) {
            notes.takeFrom(other.notes);
            for (int i = 0; i < MIXTURES; i++) {
                mixtures[i].takeFrom(other.mixtures[i]);
            }
            store.takeFrom(other.store);
            orders.takeFrom(other.orders);
        }

        int brokenBy(Mixture mixture) {
            int bits = 0;
            for (int i = 0; i < FAMILIES; i++) {
                boolean isBroken = mixture.dropsOfFamily(i, notes) * 1000 > store.limits[i] * mixture.all;
                bits |= isBroken ? 1 << i : 0;
            }
            return bits;
        }

        boolean canMake(int blend, int n) {
            Mixture mixture = mixtures[blend];
            return mixture.all > 0 && brokenBy(mixture) == 0 && store.firstLacking(mixture, n) < 0;
        }

        int serveOrders() {
            int served = 0;
            int open = orders.listInTurn();
            for (int i = 0; i < open; i++) {
                int order = orders.turns[i];
                int blend = orders.blends[order];
                if (canMake(blend, orders.times[order])) {
                    store.take(blend, orders.times[order], mixtures[blend]);
                    orders.states[order] = DONE;
                    served++;
                }
            }
            return served;
        }

        int othersOfShape(int blend) {
            int bits = 0;
            for (int i = 0; i < BLENDS; i++) {
                bits |= i != blend && mixtures[i].isOfShape(mixtures[blend]) ? 1 << i : 0;
            }
            return bits;
        }

        // Each shape is counted at the least of its blends.
        int countShapes() {
            int shapes = 0;
            for (int i = 0; i < BLENDS; i++) {
                int lesser = othersOfShape(i) & ((1 << i) - 1);
                shapes += mixtures[i].all > 0 && lesser == 0 ? 1 : 0;
            }
            return shapes;
        }

        int countFull(int from, int end) {
            int full = 0;
            for (int i = from; i < end; i++) {
                full += mixtures[i].all > 0 ? 1 : 0;
            }
            return full;
        }

        int atRank(int family, int rank) {
            for (int i = 0; i < BLENDS; i++) {
                if (mixtures[i].all > 0 && rankOf(i, family) == rank) {
                    return i;
                }
            }
            return NONE;
        }

        private int rankOf(int blend, int family) {
            int rank = 0;
            for (int i = 0; i < BLENDS; i++) {
                rank += mixtures[i].all > 0 && isRankedAhead(i, blend, family) ? 1 : 0;
            }
            return rank;
        }

        private boolean isRankedAhead(int blend, int other, int family) {
            Mixture one = mixtures[blend];
            Mixture two = mixtures[other];
            long left = (long) one.dropsOfFamily(family, notes) * two.all;
            long right = (long) two.dropsOfFamily(family, notes) * one.all;
            return left > right || left == right && blend < other;
        }
    }

    private static final class Row {
        // Each item as it is told: a byte or an int as it is, a float by its bits.
        final int[] items = new int[ROW_ITEMS];
        boolean isThere;
        int sort;
        int size;

        void become(int newSort, int n) {
            Arrays.fill(items, 0);
            isThere = true;
            sort = newSort;
            size = n;
        }

        void takeFrom(Row other) {
            System.arraycopy(other.items, 0, items, 0, ROW_ITEMS);
            isThere = other.isThere;
            sort = other.sort;
            size = other.size;
        }

        boolean hasPlace(int i) {
            return i >= 0 && i < size;
        }

        // The sum is never worked out where it could wrap around.
        boolean hasPlaceFrom(int i, int more) {
            return i >= 0 && more >= 0 && i < size - more;
        }

        boolean hasPlaces(int i, int n) {
            return i >= 0 && n >= 0 && n <= size && i <= size - n;
        }

        int itemOfNumber(long v) {
            switch (sort) {
                case BYTES:
                    return (byte) v;
                case INTS:
                    return (int) v;
                default:
                    return bitsOf((float) v);
            }
        }

        int itemOfShare(float share) {
            int thousandths = (int) (share * 1000.0f);
            switch (sort) {
                case BYTES:
                    return (byte) thousandths;
                case INTS:
                    return thousandths;
                default:
                    return bitsOf(share);
            }
        }
    }
}
