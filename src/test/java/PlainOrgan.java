import java.math.BigInteger;
import java.util.ArrayList;
import java.util.Arrays;
import java.util.Collections;
import java.util.Comparator;
import java.util.List;
import java.util.regex.Matcher;
import java.util.regex.Pattern;

/**
 * A second organ, written from the document with all of the Java library and no care for speed,
 * so that ModelTest can compare the two answer by answer.
 */
final class PlainOrgan {
    private static final long NO = Long.MIN_VALUE;

    private static final class Note {
        final String name;
        final int family;
        final int hundredths;
        int lasting;

        Note(String name, int family, int hundredths, int lasting) {
            this.name = name;
            this.family = family;
            this.hundredths = hundredths;
            this.lasting = lasting;
        }

        float strength() {
            return (float) hundredths / 100.0f;
        }

        float keep() {
            return (float) lasting / ((float) lasting + 1.0f);
        }
    }

    private static final class Things {
        final List<Note> notes = new ArrayList<>();
        int[][] mixtures = new int[22][40];
        int[] limits = new int[8];
        int[] stock = new int[40];
        final List<int[]> book = new ArrayList<>();
        final List<int[]> orders = new ArrayList<>();

        Things() {
            Arrays.fill(limits, 1000);
        }

        Things twin() {
            Things twin = new Things();
            for (Note note : notes) {
                twin.notes.add(new Note(note.name, note.family, note.hundredths, note.lasting));
            }
            for (int i = 0; i < 22; i++) {
                twin.mixtures[i] = mixtures[i].clone();
            }
            twin.limits = limits.clone();
            twin.stock = stock.clone();
            for (int[] line : book) {
                twin.book.add(line.clone());
            }
            for (int[] order : orders) {
                twin.orders.add(order.clone());
            }
            return twin;
        }
    }

    private static final class CannotBe extends Exception {
        private static final long serialVersionUID = 1L;
    }

    private static final class Fault extends Exception {
        private static final long serialVersionUID = 1L;
        final int place;

        Fault(int place) {
            this.place = place;
        }
    }

    private Things now = new Things();
    private Things kept;
    private String tape = "";
    private String paper = "";
    private final Object[] rows = new Object[6];

    private boolean no(int n, int from, int end) {
        return n < from || n >= end;
    }

    private boolean noNote(int note) {
        return no(note, 0, now.notes.size());
    }

    private static int bits(float f) {
        return Float.floatToIntBits(f);
    }

    private String takeTape() {
        String text = tape;
        tape = "";
        return text;
    }

    private int named(String name) {
        for (int i = 0; i < now.notes.size(); i++) {
            if (now.notes.get(i).name.equals(name)) {
                return i;
            }
        }
        return -5;
    }

    // ---- notes

    int feed(int letter) {
        if (no(letter, 1, 128)) {
            return -2;
        }
        if (tape.length() == 120) {
            return -4;
        }
        tape += (char) letter;
        return tape.length();
    }

    int clear() {
        return takeTape().length();
    }

    int note(int family, int strength, int lasting) {
        if (no(family, 0, 8)) {
            return -1;
        }
        if (no(strength, 1, 10000) || no(lasting, 1, 1000)) {
            return -2;
        }
        String text = takeTape();
        Matcher begin = Pattern.compile("[a-z]{0,7}").matcher(text);
        begin.lookingAt();
        if (text.isEmpty() || begin.end() < text.length()) {
            return -100 - begin.end();
        }
        if (named(text) >= 0) {
            return -3;
        }
        if (now.notes.size() == 40) {
            return -4;
        }
        now.notes.add(new Note(text, family, strength, lasting));
        return now.notes.size() - 1;
    }

    int of(int note, int what) {
        if (noNote(note) || no(what, 0, 7)) {
            return -1;
        }
        Note n = now.notes.get(note);
        return new int[] {n.family, n.hundredths, n.lasting, bits(n.strength()), bits(n.keep()),
            organ().indexOf(note), now.stock[note]}[what];
    }

    int lasting(int note, int lasting) {
        if (noNote(note)) {
            return -1;
        }
        if (no(lasting, 1, 1000)) {
            return -2;
        }
        int was = now.notes.get(note).lasting;
        now.notes.get(note).lasting = lasting;
        return was;
    }

    int name(int note, int i) {
        if (noNote(note)) {
            return -1;
        }
        String name = now.notes.get(note).name;
        return i == -1 ? name.length() : no(i, 0, name.length()) ? -1 : name.charAt(i);
    }

    int find() {
        return named(takeTape());
    }

    private List<Integer> sorted(Comparator<Integer> order) {
        List<Integer> all = new ArrayList<>();
        for (int i = 0; i < now.notes.size(); i++) {
            all.add(i);
        }
        all.sort(order);
        return all;
    }

    private List<Integer> organ() {
        return sorted(Comparator.<Integer>comparingInt(i -> now.notes.get(i).family)
            .thenComparingInt(i -> -now.notes.get(i).lasting)
            .thenComparing(i -> now.notes.get(i).name));
    }

    private static int at(List<Integer> all, int i) {
        return i < 0 || i >= all.size() ? -1 : all.get(i);
    }

    int byName(int i) {
        return at(sorted(Comparator.comparing(k -> now.notes.get(k).name)), i);
    }

    int organ(int i) {
        return at(organ(), i);
    }

    // ---- blends and accords

    private static int all(int[] drops) {
        return Arrays.stream(drops).sum();
    }

    private int all(int blend) {
        return all(now.mixtures[blend]);
    }

    private static int[] sharedOut(int[] drops, int n) throws CannotBe {
        int all = all(drops);
        if (all == 0) {
            throw new CannotBe();
        }
        int[] shared = new int[40];
        long[] rests = new long[40];
        List<Integer> byRest = new ArrayList<>();
        for (int i = 0; i < 40; i++) {
            shared[i] = (int) ((long) drops[i] * n / all);
            rests[i] = (long) drops[i] * n % all;
            byRest.add(i);
        }
        byRest.sort((a, b) -> rests[a] == rests[b] ? a - b : Long.compare(rests[b], rests[a]));
        int left = n - all(shared);
        for (int i = 0; i < left; i++) {
            shared[byRest.get(i)]++;
        }
        return shared;
    }

    private static int within(int n) throws CannotBe {
        if (n < 0 || n > 9999) {
            throw new CannotBe();
        }
        return n;
    }

    private static int[] sum(int[] one, int[] other) throws CannotBe {
        int[] sum = new int[40];
        for (int i = 0; i < 40; i++) {
            sum[i] = within(one[i] + other[i]);
        }
        return sum;
    }

    /** What stands at a place, as far as the pattern takes it. */
    private static String taken(String text, int at, String pattern) {
        Matcher matcher = Pattern.compile(pattern).matcher(text).region(at, text.length());
        return matcher.lookingAt() ? matcher.group() : "";
    }

    private static int need(String text, int at, String pattern) throws Fault {
        String taken = taken(text, at, pattern);
        if (taken.isEmpty()) {
            throw new Fault(at);
        }
        return at + taken.length();
    }

    /** Parts as kind, note or accord, n. */
    private List<int[]> parts(String text, boolean ofBlend) throws Fault {
        List<int[]> parts = new ArrayList<>();
        int at = 0;
        do {
            int kind = '%';
            int whose = 0;
            int begin = at;
            if (!taken(text, at, "%").isEmpty()) {
                at++;
            } else if (ofBlend && !taken(text, at, "@").isEmpty()) {
                kind = '@';
                at = need(text, at + 1, "[0-9]{1,4}");
                whose = Integer.parseInt(text.substring(begin + 1, at));
                if (whose > 5) {
                    throw new Fault(begin + 1);
                }
                at = need(text, at, "=");
            } else {
                at = need(text, at, "[a-z]+");
                whose = named(text.substring(begin, at));
                if (whose < 0) {
                    throw new Fault(begin);
                }
                at = need(text, at, "[-+=]");
                kind = text.charAt(at - 1);
            }
            int number = at;
            at = need(text, at, "[0-9]{1,4}");
            parts.add(new int[] {kind, whose, Integer.parseInt(text.substring(number, at))});
            if (at == text.length()) {
                return parts;
            }
            at = need(text, at, ";");
        } while (true);
    }

    private int[] done(int[] part, int[] drops) throws CannotBe {
        int[] then = drops.clone();
        switch (part[0]) {
            case '=':
                then[part[1]] = within(part[2]);
                return then;
            case '+':
                then[part[1]] = within(then[part[1]] + part[2]);
                return then;
            case '-':
                then[part[1]] = within(then[part[1]] - part[2]);
                return then;
            case '@':
                return sum(drops, sharedOut(now.mixtures[16 + part[1]], part[2]));
            default:
                return sharedOut(drops, part[2]);
        }
    }

    private int follow(int mixture, boolean ofBlend) {
        try {
            List<int[]> parts = parts(takeTape(), ofBlend);
            int[] drops = now.mixtures[mixture];
            for (int i = 0; i < parts.size(); i++) {
                try {
                    drops = done(parts.get(i), drops);
                } catch (CannotBe e) {
                    return -2000 - i;
                }
            }
            now.mixtures[mixture] = drops.clone();
            return all(mixture);
        } catch (Fault e) {
            return -100 - e.place;
        }
    }

    int recipe(int blend) {
        return no(blend, 0, 16) ? -1 : follow(blend, true);
    }

    int accord(int accord) {
        return no(accord, 0, 6) ? -1 : follow(16 + accord, false);
    }

    int drop(int blend, int note, int n) {
        if (no(blend, 0, 16) || noNote(note)) {
            return -1;
        }
        if (no(n, 0, 10000)) {
            return -2;
        }
        int was = now.mixtures[blend][note];
        now.mixtures[blend][note] = n;
        return was;
    }

    int drops(int blend, int note) {
        return no(blend, 0, 22) || noNote(note) ? -1 : now.mixtures[blend][note];
    }

    int copy(int from, int blend) {
        if (no(from, 0, 22) || no(blend, 0, 16)) {
            return -1;
        }
        now.mixtures[blend] = now.mixtures[from].clone();
        return all(blend);
    }

    int scale(int blend, int n) {
        if (no(blend, 0, 16)) {
            return -1;
        }
        if (no(n, 0, 10000)) {
            return -2;
        }
        try {
            now.mixtures[blend] = sharedOut(now.mixtures[blend], n);
            return blend(blend, 1);
        } catch (CannotBe e) {
            return -3;
        }
    }

    int mix(int blend, int other) {
        if (no(blend, 0, 16) || no(other, 0, 16)) {
            return -1;
        }
        try {
            now.mixtures[blend] = sum(now.mixtures[blend], now.mixtures[other]);
            return all(blend);
        } catch (CannotBe e) {
            return -4;
        }
    }

    private int broken(int blend) {
        int bits = 0;
        for (int family = 0; family < 8; family++) {
            long limit = (long) now.limits[family] * all(blend);
            bits |= 1000L * ofFamily(blend, family) > limit ? 1 << family : 0;
        }
        return bits;
    }

    private int ofFamily(int blend, int family) {
        int drops = 0;
        for (int i = 0; i < now.notes.size(); i++) {
            drops += now.notes.get(i).family == family ? now.mixtures[blend][i] : 0;
        }
        return drops;
    }

    private boolean oneShape(int blend, int other) {
        if (all(blend) == 0 || all(other) == 0) {
            return false;
        }
        for (int i = 0; i < 40; i++) {
            long left = (long) now.mixtures[blend][i] * all(other);
            if (left != (long) now.mixtures[other][i] * all(blend)) {
                return false;
            }
        }
        return true;
    }

    int blend(int blend, int what) {
        if (no(blend, 0, 16) || no(what, 0, 7)) {
            return -1;
        }
        int notes = 0;
        int families = 0;
        int shapes = 0;
        for (int i = 0; i < now.notes.size(); i++) {
            if (now.mixtures[blend][i] > 0) {
                notes++;
                families |= 1 << now.notes.get(i).family;
            }
        }
        for (int i = 0; i < 16; i++) {
            shapes |= i != blend && oneShape(blend, i) ? 1 << i : 0;
        }
        return new int[] {all(blend), notes, turns(blend).size(), broken(blend), families, shapes,
            nearest(blend)}[what];
    }

    private int nearest(int blend) {
        int best = -5;
        for (int i = 15; i >= 0; i--) {
            boolean counts = i != blend && all(i) > 0;
            if (counts && (best < 0 || far(blend, i) <= far(blend, best))) {
                best = i;
            }
        }
        return best;
    }

    private int write(int blend, boolean[] told) {
        List<String> parts = new ArrayList<>();
        for (int note : organ()) {
            if (told[note]) {
                parts.add(now.notes.get(note).name + "=" + now.mixtures[blend][note]);
            }
        }
        paper = String.join(";", parts);
        return paper.length();
    }

    int spell(int blend) {
        if (no(blend, 0, 16)) {
            return -1;
        }
        boolean[] told = new boolean[40];
        for (int i = 0; i < 40; i++) {
            told[i] = now.mixtures[blend][i] != 0;
        }
        return write(blend, told);
    }

    int differ(int blend, int other) {
        if (no(blend, 0, 16) || no(other, 0, 16)) {
            return -1;
        }
        boolean[] told = new boolean[40];
        for (int i = 0; i < 40; i++) {
            told[i] = now.mixtures[blend][i] != now.mixtures[other][i];
        }
        return write(other, told);
    }

    int paper(int i) {
        return no(i, 0, paper.length()) ? -1 : paper.charAt(i);
    }

    // ---- scents

    private static float shareIn(int[] drops, int note) {
        return all(drops) == 0 ? 0.0f : (float) drops[note] / (float) all(drops);
    }

    private float weightAt(int blend, int note, int hour) {
        float weight = (float) now.mixtures[blend][note] * now.notes.get(note).strength();
        for (int i = 0; i < hour; i++) {
            weight = weight * now.notes.get(note).keep();
        }
        return weight;
    }

    private float scentAt(int blend, int family, int hour) {
        float scent = 0.0f;
        for (int i = 0; i < now.notes.size(); i++) {
            boolean counts = family == -1 || now.notes.get(i).family == family;
            if (counts && now.mixtures[blend][i] > 0) {
                scent = scent + weightAt(blend, i, hour);
            }
        }
        return scent;
    }

    private static float far(int[] one, int[] other) {
        float far = 0.0f;
        for (int i = 0; i < 40; i++) {
            far = far + Math.abs(shareIn(one, i) - shareIn(other, i));
        }
        return far;
    }

    private float far(int blend, int other) {
        return far(now.mixtures[blend], now.mixtures[other]);
    }

    private int leader(int blend, int hour) {
        int best = -5;
        for (int family = 7; family >= 0 && all(blend) > 0; family--) {
            if (best < 0 || scentAt(blend, family, hour) >= scentAt(blend, best, hour)) {
                best = family;
            }
        }
        return best;
    }

    private List<Integer> turns(int blend) {
        List<Integer> turns = new ArrayList<>();
        for (int hour = 1; hour <= 200; hour++) {
            if (leader(blend, hour) != leader(blend, hour - 1)) {
                turns.add(hour);
            }
        }
        return turns;
    }

    long share(int blend, int note) {
        return no(blend, 0, 16) || noNote(note) ? NO : bits(shareIn(now.mixtures[blend], note));
    }

    long weight(int blend, int note, int hour) {
        return no(blend, 0, 16) || noNote(note) || no(hour, 0, 201) ? NO : bits(weightAt(blend, note, hour));
    }

    long scent(int blend, int family, int hour) {
        boolean isNo = no(blend, 0, 16) || no(family, -1, 8) || no(hour, 0, 201);
        return isNo ? NO : bits(scentAt(blend, family, hour));
    }

    long thousandths(int blend, int hour) {
        return no(blend, 0, 16) || no(hour, 0, 201) ? NO : (int) (scentAt(blend, -1, hour) * 1000.0f);
    }

    int leads(int blend, int hour) {
        return no(blend, 0, 16) || no(hour, 0, 201) ? -1 : leader(blend, hour);
    }

    int turn(int blend, int i) {
        return no(blend, 0, 16) ? -1 : at(turns(blend), i);
    }

    int faded(int blend, int p) {
        if (no(blend, 0, 16)) {
            return -1;
        }
        if (no(p, 0, 1001)) {
            return -2;
        }
        for (int hour = 0; hour <= 200; hour++) {
            if (scentAt(blend, -1, hour) < scentAt(blend, -1, 0) * ((float) p / 1000.0f)) {
                return hour;
            }
        }
        return -5;
    }

    long distance(int blend, int other) {
        return no(blend, 0, 16) || no(other, 0, 16) ? NO : bits(far(blend, other));
    }

    int nearer(int blend, int other) {
        if (no(blend, 0, 16) || no(other, 0, 16)) {
            return -1;
        }
        float least = far(blend, other);
        int best = -5;
        for (int note = 0; note < now.notes.size(); note++) {
            for (int n = 1; n <= 20; n++) {
                int[] more = now.mixtures[blend].clone();
                more[note] += n;
                if (more[note] <= 9999 && far(more, now.mixtures[other]) < least) {
                    least = far(more, now.mixtures[other]);
                    best = 100 * note + n;
                }
            }
        }
        return best;
    }

    long wide(int blend, int hour, int part) {
        if (no(blend, 0, 16) || no(hour, 0, 201) || no(part, 0, 2)) {
            return NO;
        }
        long bits = Double.doubleToLongBits((double) scentAt(blend, -1, hour) / 3.0);
        return Long.parseLong(String.format("%016x", bits).substring(8 * part, 8 * part + 8), 16);
    }

    long area(int blend, int hour) {
        if (no(blend, 0, 16) || no(hour, 0, 201)) {
            return NO;
        }
        float area = 0.0f;
        for (int i = 0; i <= hour; i++) {
            area = area + scentAt(blend, -1, i);
        }
        return bits(area);
    }

    int thin(int blend) {
        if (no(blend, 0, 16)) {
            return -1;
        }
        int[] drops = now.mixtures[blend];
        int best = -5;
        float least = 99.0f;
        for (int note = 0; note < 40 && blend(blend, 1) >= 2; note++) {
            int[] without = drops.clone();
            without[note] = 0;
            if (drops[note] > 0 && far(without, drops) < least) {
                least = far(without, drops);
                best = note;
            }
        }
        return best;
    }

    int substitute(int note) {
        if (noNote(note)) {
            return -1;
        }
        Note whose = now.notes.get(note);
        int best = -5;
        float least = 99.0f;
        for (int i = 0; i < now.notes.size(); i++) {
            Note other = now.notes.get(i);
            float amount = Math.abs(other.keep() - whose.keep());
            if (i != note && other.family == whose.family && amount < least) {
                least = amount;
                best = i;
            }
        }
        return best;
    }

    int replace(int blend, int note, int other) {
        if (no(blend, 0, 16) || noNote(note) || noNote(other)) {
            return -1;
        }
        int[] drops = now.mixtures[blend];
        if (note != other) {
            if (drops[note] + drops[other] > 9999) {
                return -4;
            }
            drops[other] += drops[note];
            drops[note] = 0;
        }
        return all(blend);
    }

    int rank(int family, int i) {
        if (no(family, 0, 8)) {
            return -1;
        }
        List<Integer> blends = new ArrayList<>();
        for (int blend = 0; blend < 16; blend++) {
            if (all(blend) > 0) {
                blends.add(blend);
            }
        }
        blends.sort((a, b) -> {
            BigInteger left = BigInteger.valueOf(ofFamily(a, family)).multiply(BigInteger.valueOf(all(b)));
            BigInteger right = BigInteger.valueOf(ofFamily(b, family)).multiply(BigInteger.valueOf(all(a)));
            return right.compareTo(left) != 0 ? right.compareTo(left) : a - b;
        });
        return at(blends, i);
    }

    // ---- orders: blend, n, urgency, what it is

    int order(int blend, int n, int urgency) {
        if (no(blend, 0, 16)) {
            return -1;
        }
        if (no(n, 1, 100) || no(urgency, 0, 10)) {
            return -2;
        }
        if (now.orders.size() == 30) {
            return -4;
        }
        now.orders.add(new int[] {blend, n, urgency, 0});
        return now.orders.size() - 1;
    }

    int off(int order) {
        if (no(order, 0, now.orders.size())) {
            return -1;
        }
        if (now.orders.get(order)[3] != 0) {
            return -3;
        }
        now.orders.get(order)[3] = 2;
        return 1;
    }

    int urge(int order, int urgency) {
        if (no(order, 0, now.orders.size())) {
            return -1;
        }
        if (no(urgency, 0, 10)) {
            return -2;
        }
        if (now.orders.get(order)[3] != 0) {
            return -3;
        }
        int was = now.orders.get(order)[2];
        now.orders.get(order)[2] = urgency;
        return was;
    }

    int orderOf(int order, int what) {
        return no(order, 0, now.orders.size()) || no(what, 0, 4) ? -1 : now.orders.get(order)[what];
    }

    private List<Integer> inTurn() {
        List<Integer> open = new ArrayList<>();
        for (int i = 0; i < now.orders.size(); i++) {
            if (now.orders.get(i)[3] == 0) {
                open.add(i);
            }
        }
        open.sort((a, b) -> now.orders.get(b)[2] - now.orders.get(a)[2]);
        return open;
    }

    int inTurn(int i) {
        return at(inTurn(), i);
    }

    int serve() {
        int done = 0;
        for (int order : inTurn()) {
            if (make(now.orders.get(order)[0], now.orders.get(order)[1]) >= 0) {
                now.orders.get(order)[3] = 1;
                done++;
            }
        }
        return done;
    }

    // ---- limits, the stock, the book

    int limit(int family, int n) {
        if (no(family, 0, 8)) {
            return -1;
        }
        if (no(n, 0, 1001)) {
            return -2;
        }
        int was = now.limits[family];
        now.limits[family] = n;
        return was;
    }

    int fill(int note, int n) {
        if (noNote(note)) {
            return -1;
        }
        if (no(n, 0, 100000)) {
            return -2;
        }
        if (now.stock[note] + n > 99999) {
            return -4;
        }
        now.stock[note] += n;
        return now.stock[note];
    }

    int make(int blend, int n) {
        int lacks = lacks(blend, n);
        if (lacks == -1 || lacks == -2) {
            return lacks;
        }
        if (all(blend) == 0 || broken(blend) != 0 || lacks != -5) {
            return -3;
        }
        for (int i = 0; i < 40; i++) {
            now.stock[i] -= n * now.mixtures[blend][i];
        }
        now.book.add(0, new int[] {blend, n, n * all(blend)});
        if (now.book.size() > 30) {
            now.book.remove(30);
        }
        return n * all(blend);
    }

    int lacks(int blend, int n) {
        if (no(blend, 0, 16)) {
            return -1;
        }
        if (no(n, 1, 100)) {
            return -2;
        }
        for (int i = 0; i < 40; i++) {
            if (now.stock[i] < n * now.mixtures[blend][i]) {
                return i;
            }
        }
        return -5;
    }

    int most(int blend) {
        if (no(blend, 0, 16)) {
            return -1;
        }
        if (all(blend) == 0) {
            return -3;
        }
        int most = 0;
        while (most < 99 && lacks(blend, most + 1) == -5) {
            most++;
        }
        return most;
    }

    int book(int i, int what) {
        return no(i, 0, now.book.size()) || no(what, 0, 3) ? -1 : now.book.get(i)[what];
    }

    private int full(int from, int end) {
        int full = 0;
        for (int i = from; i < end; i++) {
            full += all(i) > 0 ? 1 : 0;
        }
        return full;
    }

    private int shapes() {
        List<Integer> shapes = new ArrayList<>();
        for (int i = 0; i < 16; i++) {
            int blend = i;
            if (all(i) > 0 && shapes.stream().noneMatch(other -> oneShape(blend, other))) {
                shapes.add(i);
            }
        }
        return shapes.size();
    }

    int told(int what) {
        return no(what, 0, 10) ? -1 : new int[] {now.notes.size(), full(0, 16), full(16, 22), now.book.size(),
            all(now.stock), tape.length(), paper.length(), shapes(), now.orders.size(), inTurn().size()}[what];
    }

    // ---- rows: a byte[], an int[] or a float[]

    private static int length(Object row) {
        return java.lang.reflect.Array.getLength(row);
    }

    private static boolean put(Object row, int i, long v) {
        try {
            if (row instanceof byte[]) {
                ((byte[]) row)[i] = (byte) v;
            } else if (row instanceof int[]) {
                ((int[]) row)[i] = (int) v;
            } else {
                ((float[]) row)[i] = (float) v;
            }
            return true;
        } catch (ArrayIndexOutOfBoundsException e) {
            return false;
        }
    }

    private static long item(Object row, int i) {
        if (i < 0 || i >= length(row)) {
            return NO;
        }
        return row instanceof byte[] ? ((byte[]) row)[i] : row instanceof int[] ? ((int[]) row)[i]
            : bits(((float[]) row)[i]);
    }

    int row(int row, int sort, int n) {
        if (no(row, 0, 6) || no(sort, 0, 3)) {
            return -1;
        }
        if (n > 50) {
            return -2;
        }
        if (n < 0) {
            return -14;
        }
        rows[row] = sort == 0 ? new byte[n] : sort == 1 ? new int[n] : new float[n];
        return 1;
    }

    int set(int row, int i, long v) {
        if (no(row, 0, 6)) {
            return -1;
        }
        if (rows[row] == null) {
            return -11;
        }
        return put(rows[row], i, v) ? 1 : -13;
    }

    long get(int row, int i) {
        return no(row, 0, 6) || rows[row] == null ? NO : item(rows[row], i);
    }

    int move(int row, int i, int other, int j, int n) {
        if (no(row, 0, 6) || no(other, 0, 6)) {
            return -1;
        }
        try {
            System.arraycopy(rows[row], i, rows[other], j, n);
            return n;
        } catch (NullPointerException e) {
            return -11;
        } catch (ArrayStoreException e) {
            return -12;
        } catch (IndexOutOfBoundsException e) {
            return -13;
        }
    }

    int twin(int row, int other) {
        if (no(row, 0, 6) || no(other, 0, 6)) {
            return -1;
        }
        if (rows[row] == null) {
            return -11;
        }
        Object from = rows[row];
        rows[other] = from instanceof byte[] ? ((byte[]) from).clone()
            : from instanceof int[] ? ((int[]) from).clone() : (Object) ((float[]) from).clone();
        return length(rows[other]);
    }

    int lay(int row, int i, int blend) {
        if (no(row, 0, 6) || no(blend, 0, 16)) {
            return -1;
        }
        if (rows[row] == null) {
            return -11;
        }
        for (int note = 0; note < now.notes.size(); note++) {
            float share = shareIn(now.mixtures[blend], note);
            if (!put(rows[row], i + note, (int) (share * 1000.0f))) {
                return -13;
            }
            if (rows[row] instanceof float[]) {
                ((float[]) rows[row])[i + note] = share;
            }
        }
        return now.notes.size();
    }

    int judge(int row, int i, int blend) {
        if (no(row, 0, 6) || no(blend, 0, 16)) {
            return -1;
        }
        if (rows[row] == null) {
            return -11;
        }
        for (int note = 0; note < now.notes.size(); note++) {
            float share = shareIn(now.mixtures[blend], note);
            long there = item(rows[row], i + note);
            int whole = (int) (share * 1000.0f);
            long want = rows[row] instanceof byte[] ? (byte) whole : rows[row] instanceof int[] ? whole : bits(share);
            if (there == NO) {
                return 100 + note;
            }
            if (there != want) {
                return note;
            }
        }
        return -5;
    }

    int image() {
        kept = now.twin();
        return now.notes.size();
    }

    int undo() {
        if (kept == null) {
            return -3;
        }
        now = kept.twin();
        return now.notes.size();
    }

    /** The names of some notes, for recipes. */
    List<String> names() {
        List<String> names = new ArrayList<>();
        for (Note note : now.notes) {
            names.add(note.name);
        }
        return Collections.unmodifiableList(names);
    }
}
