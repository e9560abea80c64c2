import java.util.ArrayList;
import java.util.Arrays;
import java.util.List;

/**
 * "Refused, and nothing changes: UNKNOWN .., OUTSIDE .., NOT .., FULL: the first of these that fits."
 * Every call, with each of its numbers at the least and the greatest int, just outside and just inside on either side,
 * in all mixtures, on an empty desk, on one with room for one more of each, and on a full one.
 */
public final class RefusalsTest {
    static final int NONE = -1, UNKNOWN = -2, OUTSIDE = -3, NOT = -4, FULL = -5, ACCEPTED = 0;
    static final int EMPTY_DESK = 0, NEARLY_FULL = 1, FULL_DESK = 2, DESKS = 3, PARTS = 2;
    /** A desk is used for at most 512 calls: some 170 fill it, these are refused, some 220 look at what it holds. */
    static final int REFUSED_AT_ONCE = 100;
    static int checks = 0, wrong = 0;

    interface Act { int on(OneManDesk x, int[] n); }

    record Bound(int refusal, int least, int most) {
        boolean has(int n) { return least <= n && n <= most; }
        int[] edges() { return new int[] {Integer.MIN_VALUE, least - 1, least, most, most + 1, Integer.MAX_VALUE}; }
    }

    /** spanAt: where the first of two numbers stands of which the second may not be less; asks: it never changes anything. */
    record Call(int promise, String name, boolean asks, int spanAt, Act act, Bound... bounds) { }

    static Bound unknown(int least, int most) { return new Bound(UNKNOWN, least, most); }
    static Bound outside(int least, int most) { return new Bound(OUTSIDE, least, most); }
    static final Bound PLACE = unknown(0, 7), KIND = unknown(0, 3), AGENT = unknown(0, 5), WAY = unknown(0, 2),
        READER = unknown(0, 1), DAY = outside(0, 60), TOLD = outside(0, 9), TWO = outside(0, 1);

    static int factsOf(int desk) { return new int[] {0, 15, 16}[desk]; }
    static int lettersOf(int desk) { return new int[] {0, 23, 24}[desk]; }
    static int draftsOf(int desk) { return new int[] {0, 9, 10}[desk]; }
    static int signsOf(int desk) { return new int[] {0, 11, 12}[desk]; }
    static int eyesOf(int desk) { return new int[] {0, 5, 6}[desk]; }
    static int linesOf(int desk) { return new int[] {0, 3, 4}[desk]; }
    static int bytesOf(int desk) { return new int[] {0, 159, 160}[desk]; }

    static List<Call> calls(int desk) {
        Bound letter = unknown(0, lettersOf(desk) - 1), draft = unknown(0, draftsOf(desk) - 1);
        List<Call> all = new ArrayList<>();
        all.add(new Call(2, "view", false, NONE, (x, n) -> x.view(n[0], n[1]), PLACE, outside(0, 255)));
        all.add(new Call(3, "fact", false, 2, (x, n) -> x.fact(n[0], n[1], n[2], n[3], n[4], true), PLACE, KIND, DAY, DAY, outside(1, 9)));
        all.add(new Call(4, "world", true, NONE, (x, n) -> x.world(n[0], n[1], n[2]), PLACE, KIND, DAY));
        all.add(new Call(5, "home", false, NONE, (x, n) -> x.home(n[0], n[1]), AGENT, PLACE));
        all.add(new Call(6, "write", false, NONE, (x, n) -> x.write(0x2020202020202020L, n[0]), outside(1, 8)));
        all.add(new Call(8, "fault", true, NONE, (x, n) -> x.fault(n[0]), TWO));
        all.add(new Call(9, "life", false, NONE, (x, n) -> x.life(n[0]), AGENT));
        all.add(new Call(10, "table", false, NONE, (x, n) -> x.table(n[0]), READER));
        all.add(new Call(11, "where", true, NONE, (x, n) -> x.where(n[0], n[1]), AGENT, DAY));
        all.add(new Call(12, "saw", true, NONE, (x, n) -> x.saw(n[0], n[1]), AGENT, DAY));
        all.add(new Call(13, "post", false, NONE, (x, n) -> x.post(n[0], n[1]), WAY, outside(0, 20)));
        all.add(new Call(14, "send", false, NONE, (x, n) -> x.send(n[0], n[1], n[2], n[3], n[4], n[5], n[6]), AGENT, DAY, WAY, PLACE, KIND, DAY, TOLD));
        all.add(new Call(15, "right", true, NONE, (x, n) -> x.right(n[0]), letter));
        all.add(new Call(16, "comes", true, NONE, (x, n) -> x.comes(n[0]), letter));
        all.add(new Call(17, "slips", true, NONE, (x, n) -> x.slips(n[0]), letter));
        all.add(new Call(18, "lacks", true, NONE, (x, n) -> x.lacks(n[0], n[1]), AGENT, DAY));
        all.add(new Call(19, "ill", true, NONE, (x, n) -> x.ill(n[0]), AGENT));
        all.add(new Call(20, "eyes", false, 2, (x, n) -> x.eyes(n[0], n[1], n[2], n[3]), READER, PLACE, DAY, DAY));
        all.add(new Call(21, "told", true, NONE, (x, n) -> x.told(n[0], n[1]), READER, outside(0, 5)));
        all.add(new Call(22, "trust", true, NONE, (x, n) -> x.trust(n[0], n[1], n[2]), READER, AGENT, DAY));
        all.add(new Call(23, "concluded", true, NONE, (x, n) -> x.concluded(n[0], n[1], n[2], n[3], n[4]), READER, PLACE, KIND, DAY, DAY));
        all.add(new Call(24, "weight", true, NONE, (x, n) -> x.weight(n[0], n[1], n[2], n[3], n[4], n[5]), READER, PLACE, KIND, DAY, TOLD, DAY));
        all.add(new Call(25, "story", false, NONE, (x, n) -> x.story(n[0], n[1], n[2], n[3]), PLACE, KIND, DAY, TOLD));
        all.add(new Call(26, "holds", true, NONE, (x, n) -> x.holds(n[0], n[1]), READER, DAY));
        all.add(new Call(27, "keeps", true, NONE, (x, n) -> x.keeps(n[0], n[1]), READER, DAY));
        all.add(new Call(28, "draft", false, NONE, (x, n) -> x.draft(n[0], n[1], n[2], n[3], n[4], n[5], n[6]), AGENT, DAY, WAY, PLACE, KIND, DAY, TOLD));
        all.add(new Call(29, "mark", false, NONE, (x, n) -> x.mark(n[0], n[1], n[2]), draft, TWO, outside(0, 99)));
        all.add(new Call(30, "make", true, NONE, (x, n) -> x.make(n[0]), DAY));
        all.add(new Call(31, "buy", true, NONE, (x, n) -> x.buy(n[0], n[1], n[2]), AGENT, DAY, outside(0, 100)));
        all.add(new Call(32, "question", false, NONE, (x, n) -> x.question(n[0], n[1], n[2], n[3]), DAY, PLACE, KIND, DAY));
        all.add(new Call(33, "pay", false, NONE, (x, n) -> x.pay(n[0], n[1]), DAY, AGENT));
        all.add(new Call(34, "which", true, NONE, (x, n) -> x.which()));
        all.add(new Call(35, "warning", true, NONE, (x, n) -> x.warning(n[0], n[1], n[2]), WAY, DAY, TWO));
        all.add(new Call(36, "count", true, NONE, (x, n) -> x.count(n[0]), outside(0, 6)));
        return all;
    }

    /** The refusal that is due, or ACCEPTED. */
    static int due(Call call, int desk, int[] n) {
        for (int i = 0; i < n.length; i++)
            if (call.bounds[i].refusal == UNKNOWN && !call.bounds[i].has(n[i])) return UNKNOWN;
        for (int i = 0; i < n.length; i++) if (!call.bounds[i].has(n[i])) return OUTSIDE;
        if (call.spanAt != NONE && n[call.spanAt] > n[call.spanAt + 1]) return OUTSIDE;
        switch (call.name) {
            case "life": return desk == NEARLY_FULL ? ACCEPTED : NOT;
            case "table": return desk == FULL_DESK ? ACCEPTED : NOT;
            case "write": return bytesOf(desk) + n[0] > 160 ? FULL : ACCEPTED;
            case "fact": case "send": case "eyes": case "story": case "draft": case "question": case "pay":
                return desk == FULL_DESK ? FULL : ACCEPTED;
            default: return ACCEPTED;
        }
    }

    static void text(OneManDesk x, String text) {
        for (int at = 0; at < text.length(); at += 8) {
            int n = Math.min(8, text.length() - at);
            long bytes = 0;
            for (int i = n - 1; i >= 0; i--) bytes = bytes << 8 | text.charAt(at + i);
            x.write(bytes, n);
        }
    }
    static String padded(String text, int length) { return text + " ".repeat(length - text.length()); }

    static OneManDesk filled(int desk) {
        OneManDesk x = new OneManDesk();
        if (desk == EMPTY_DESK) return x;
        for (int p = 0; p < 8; p++) x.view(p, 1 << p | 1 << (p + 1) % 8);
        for (int a = 0; a < 6; a++) x.home(a, a + 1);
        for (int w = 0; w < 3; w++) x.post(w, 5 * w + 1);
        text(x, "at1from1to1;at2from2to7;at3from9to9;at4from7to8;at5from0to0;at6from60to60;at7from30to31;at0from31to31");
        x.life(2);
        text(x, "begin 45;late 1;need 1;need 70;alike 4;right 12;wrong 21;need 60");
        x.table(0);
        text(x, "begin 55;late 2;need 2;need 45;alike 9;right 20;wrong 11;need 50");
        x.table(1);
        for (int i = 0; i < factsOf(desk); i++) x.fact(i % 8, i % 4, 3 * i, 60 - i, 1 + i % 9, i % 5 == 1);
        for (int i = 0; i < lettersOf(desk); i++) x.send(i % 6, 2 * i, i % 3, i % 8, i % 4, 30 + i % 8, i % 2 == 0 ? 1 + i % 8 : i % 10);
        for (int i = 0; i < eyesOf(desk); i++) {
            x.eyes(0, i, 25 + i, 31 + i);
            x.eyes(1, 7 - i, 33 - i, 35 + i);
        }
        for (int i = 0; i < linesOf(desk); i++) x.story(6 + i % 2, 2 + i % 2, 36 + i % 2, 7 + i % 2);
        for (int i = 0; i < draftsOf(desk); i++) {
            int seen = 3 + i / 2 % 3;
            if (i % 2 == 0) x.draft(i % 6, 30 + i, 0, seen, seen % 4, 30, 1 + seen);
            else x.draft(i % 6, 30 + i, 0, 7, 3, 37, 8);
            x.mark(i, 0, 50 + 3 * i);
            x.mark(i, 1, 90 - 7 * i);
        }
        for (int i = 0; i < signsOf(desk); i++) {
            if (i % 2 == 0) x.question(3 * i, i % 8, 3 - i % 4, 5 * i);
            else x.pay(i, i % 6);
        }
        text(x, desk == NEARLY_FULL ? padded("at 1 from 2 to 3 ; at 4 from 3 to 60", 159) : padded("alike 3; begin 41 ;right 1", 160));
        return x;
    }

    /** Answers by which all that a desk holds shows; it is not used any more afterwards. */
    static int[] look(OneManDesk x, int desk, int part) {
        List<Integer> seen = new ArrayList<>();
        if (part == 0) lookAtWorld(x, seen);
        else lookAtReaders(x, desk, seen);
        return seen.stream().mapToInt(Integer::intValue).toArray();
    }
    static void lookAtWorld(OneManDesk x, List<Integer> seen) {
        for (int what = 0; what < 7; what++) seen.add(x.count(what));
        for (int what = 0; what < 2; what++) seen.add(x.fault(what));
        for (int p = 0; p < 8; p++)
            for (int k = 0; k < 4; k++) { seen.add(x.world(p, k, 0)); seen.add(x.world(p, k, 33)); }
        for (int a = 0; a < 6; a++) {
            for (int day : new int[] {0, 7, 31, 60}) { seen.add(x.where(a, day)); seen.add(x.saw(a, day)); }
            for (int day : new int[] {0, 31, 60}) seen.add(x.lacks(a, day));
            seen.add(x.ill(a));
        }
        for (int l = 0; l < 24; l++) { seen.add(x.right(l)); seen.add(x.comes(l)); seen.add(x.slips(l)); }
    }
    static void lookAtReaders(OneManDesk x, int desk, List<Integer> seen) {
        for (int r = 0; r < 2; r++) {
            for (int what = 0; what < 6; what++) seen.add(x.told(r, what));
            for (int a = 0; a < 6; a++) for (int day : new int[] {0, 35, 60}) seen.add(x.trust(r, a, day));
            for (int i = 0; i < 24; i++) seen.add(x.concluded(r, i % 8, i % 4, 30 + i % 8, 35 + i));
            for (int i = 0; i < 16; i++) seen.add(x.weight(r, i % 8, i % 4, 30 + i % 8, 1 + i % 8, 60));
            for (int day : new int[] {0, 37, 60}) { seen.add(x.holds(r, day)); seen.add(x.keeps(r, day)); }
        }
        seen.add(x.make(37));
        seen.add(x.make(60));
        for (int a = 0; a < 6; a++) seen.add(x.buy(a, 60, 20));
        seen.add(x.which());
        for (int d = 0; d < 10; d++) for (int what = 0; what < 2; what++) seen.add(x.mark(d, what, 0));
        for (int w = 0; w < 3; w++) seen.add(x.post(w, 0));
        for (int p = 0; p < 8; p++) seen.add(x.view(p, 0));
        for (int a = 0; a < 6; a++) seen.add(x.home(a, 0));
        seen.add(desk == NEARLY_FULL ? x.life(5) : x.table(1));
        for (int day : new int[] {1, 2, 3, 60}) seen.add(x.where(5, day));
        for (int what = 0; what < 6; what++) seen.add(x.told(1, what));
        seen.add(x.erase());
    }

    static void tell(Call call, int desk, int[] n, String what) {
        wrong++;
        System.out.println("promise " + call.promise + ", desk " + desk + ": " + call.name + Arrays.toString(n) + " " + what);
    }

    static void mixtures(Call call, int at, int[] n, List<int[]> all) {
        if (at == n.length) { all.add(n.clone()); return; }
        for (int edge : call.bounds[at].edges()) { n[at] = edge; mixtures(call, at + 1, n, all); }
    }

    static void tryCall(Call call, int desk, int[] n, OneManDesk x) {
        int got = call.act.on(x, n), due = due(call, desk, n);
        checks++;
        if (due == ACCEPTED ? got < NONE : got != due) tell(call, desk, n, "answered " + got + (due == ACCEPTED ? ", and may" : ", due is " + due));
    }

    /** What changes nothing is tried many times on one desk, which is then looked at; the rest on a desk of its own each. */
    static void tryAll(Call call, int desk, int[][] untouched) {
        List<int[]> all = new ArrayList<>(), still = new ArrayList<>();
        mixtures(call, 0, new int[call.bounds.length], all);
        for (int[] n : all) {
            if (call.asks || due(call, desk, n) != ACCEPTED) still.add(n);
            else tryCall(call, desk, n, filled(desk));
        }
        for (int from = 0; from < still.size(); from += REFUSED_AT_ONCE) {
            List<int[]> batch = still.subList(from, Math.min(still.size(), from + REFUSED_AT_ONCE));
            int part = from / REFUSED_AT_ONCE % PARTS;
            lookAfter(call, desk, batch, part, untouched);
            if (still.size() <= REFUSED_AT_ONCE) lookAfter(call, desk, batch, 1 - part, untouched);
        }
    }

    static void lookAfter(Call call, int desk, List<int[]> batch, int part, int[][] untouched) {
        OneManDesk x = filled(desk);
        for (int[] n : batch) tryCall(call, desk, n, x);
        checks++;
        if (!Arrays.equals(look(x, desk, part), untouched[part])) tell(call, desk, batch.get(0), "or one of the next has changed something");
    }

    public static void main(String[] args) {
        for (int desk = 0; desk < DESKS; desk++) {
            int[][] untouched = new int[PARTS][];
            for (int part = 0; part < PARTS; part++) untouched[part] = look(filled(desk), desk, part);
            for (Call call : calls(desk)) tryAll(call, desk, untouched);
        }
        System.out.println(checks + " checks of refusals, " + wrong + " wrong");
        if (wrong != 0) System.exit(1);
    }
}
