import java.util.ArrayList;
import java.util.Arrays;
import java.util.List;
import java.util.Random;
import java.util.function.IntPredicate;
import java.util.regex.Matcher;
import java.util.regex.Pattern;

/** Runs of calls, the same every time, on the class and on a plain second reading of the document. */
public final class ModelTest {
    static final int NONE = -1, UNKNOWN = -2, OUTSIDE = -3, NOT = -4, FULL = -5;

    /** The document's words, as directly as they go; nothing is kept that can be found anew. */
    static final class Model {
        final int[] views = {1, 2, 4, 8, 16, 32, 64, 128};
        final int[] homes = new int[6];
        final int[] posts = {3, 0, 9};
        final List<int[]> facts = new ArrayList<>();
        final List<List<int[]>> lives = new ArrayList<>();
        final List<int[]> tables = new ArrayList<>();
        final List<List<int[]>> eyes = new ArrayList<>();
        final List<int[]> letters = new ArrayList<>();
        final List<int[]> drafts = new ArrayList<>();
        final List<int[]> marks = new ArrayList<>();
        final List<int[]> story = new ArrayList<>();
        final List<int[]> signs = new ArrayList<>();
        String text = "";

        Model() {
            for (int a = 0; a < 6; a++) lives.add(new ArrayList<>());
            for (int r = 0; r < 2; r++) { tables.add(plain()); eyes.add(new ArrayList<>()); }
        }
        static int[] plain() { return new int[] {50, 10, 30, 0, 0, 40}; }
        static boolean in(int x, int least, int most) { return least <= x && x <= most; }
        static boolean place(int x) { return in(x, 0, 7); }
        static boolean kind(int x) { return in(x, 0, 3); }
        static boolean agent(int x) { return in(x, 0, 5); }
        static boolean way(int x) { return in(x, 0, 2); }
        static boolean reader(int x) { return in(x, 0, 1); }
        static boolean day(int... xs) { for (int x : xs) if (!in(x, 0, 60)) return false; return true; }

        int worldIs(int place, int kind, int day) {
            int v = 0;
            for (int[] f : facts) if (f[0] == place && f[1] == kind && in(day, f[2], f[3])) v = f[4];
            return v;
        }
        int placeOn(int agent, int day) {
            int p = homes[agent];
            for (int[] l : lives.get(agent)) if (in(day, l[1], l[2])) p = l[0];
            return p;
        }
        boolean sawPlace(int agent, int day, int place) { return (views[placeOn(agent, day)] & 1 << place) != 0; }
        int arrival(int[] letter) { return letter[1] + posts[letter[2]]; }
        boolean known(int reader, int place, int day, int by) {
            if (day > by) return false;
            for (int[] e : eyes.get(reader)) if (e[0] == place && in(day, e[1], e[2])) return true;
            return false;
        }
        boolean isRight(int[] l) { return worldIs(l[3], l[4], l[5]) == l[6]; }
        int trustOf(int reader, int agent, int on, List<int[]> mail) {
            int[] t = tables.get(reader);
            int sum = t[0];
            for (int[] l : mail) {
                if (l[0] != agent || arrival(l) > on || !known(reader, l[3], l[5], on)) continue;
                if (isRight(l)) sum += Math.max(0, t[1] - t[3] * Math.max(0, arrival(l) - l[5]));
                else sum -= t[2];
            }
            return sum < 0 ? 0 : sum > 100 ? 100 : sum;
        }
        /** NONE, if nobody tells so. */
        int weightOf(int reader, int place, int kind, int day, int v, int on, List<int[]> mail) {
            int sum = NONE;
            int tellers = 0;
            for (int a = 0; a < 6; a++) {
                boolean tells = false;
                for (int[] l : mail)
                    tells |= l[0] == a && l[3] == place && l[4] == kind && l[5] == day && l[6] == v && arrival(l) <= on;
                if (!tells) continue;
                if (sum == NONE) sum = 0;
                sum += trustOf(reader, a, on, mail);
                if (++tellers > 1) sum += tables.get(reader)[4];
            }
            return sum;
        }
        int conclusion(int reader, int place, int kind, int day, int on, List<int[]> mail) {
            if (known(reader, place, day, on)) return worldIs(place, kind, day);
            int best = NONE;
            int most = NONE;
            for (int v = 9; v >= 0; v--) {
                int w = weightOf(reader, place, kind, day, v, on, mail);
                if (w != NONE && w >= most) { most = w; best = v; }
            }
            return best != NONE && most >= tables.get(reader)[5] ? best : NONE;
        }
        int held(int reader, int on, List<int[]> mail) {
            int bits = 0;
            for (int i = 0; i < story.size(); i++) {
                int[] s = story.get(i);
                if (conclusion(reader, s[0], s[1], s[2], on, mail) == s[3]) bits |= 1 << i;
            }
            return bits;
        }
        boolean allHeld(int reader, int on, List<int[]> mail) { return held(reader, on, mail) == (1 << story.size()) - 1; }
        List<int[]> with(int set) {
            List<int[]> mail = new ArrayList<>(letters);
            for (int d = 0; d < drafts.size(); d++) if ((set & 1 << d) != 0) mail.add(drafts.get(d));
            return mail;
        }
        int leastSet(int what, IntPredicate fits) {
            int best = NONE;
            int least = Integer.MAX_VALUE;
            for (int set = 0; set < 1 << drafts.size(); set++) {
                int sum = 0;
                for (int d = 0; d < drafts.size(); d++) if ((set & 1 << d) != 0) sum += marks.get(d)[what];
                if (sum < least && fits.test(set)) { least = sum; best = set; }
            }
            return best;
        }

        int view(int p, int bits) {
            if (!place(p)) return UNKNOWN;
            if (!in(bits, 0, 255)) return OUTSIDE;
            int was = views[p]; views[p] = bits; return was;
        }
        int fact(int p, int k, int from, int to, int v, boolean secret) {
            if (!place(p) || !kind(k)) return UNKNOWN;
            if (!day(from, to) || to < from || !in(v, 1, 9)) return OUTSIDE;
            if (facts.size() == 16) return FULL;
            facts.add(new int[] {p, k, from, to, v, secret ? 1 : 0});
            return facts.size() - 1;
        }
        int world(int p, int k, int d) {
            if (!place(p) || !kind(k)) return UNKNOWN;
            return day(d) ? worldIs(p, k, d) : OUTSIDE;
        }
        int home(int a, int p) {
            if (!agent(a) || !place(p)) return UNKNOWN;
            int was = homes[a]; homes[a] = p; return was;
        }
        int write(long bytes, int n) {
            if (!in(n, 1, 8)) return OUTSIDE;
            if (text.length() + n > 160) return FULL;
            for (int i = 0; i < n; i++) text += (char) (bytes >>> 8 * i & 255);
            return text.length();
        }
        int erase() { int n = text.length(); text = ""; return n; }
        List<int[]> read = new ArrayList<>();
        int fault(int what) {
            if (!in(what, 0, 1)) return OUTSIDE;
            return faultOf(what);
        }
        static final String[] WORDS = {"begin", "right", "wrong", "late", "alike", "need"};
        /** A machine of states over all tokens: state 0 awaits a line's word, the last awaits ; or the end. */
        int faultOf(int what) {
            read = new ArrayList<>();
            int[] line = new int[3];
            int state = 0;
            int last = what == 0 ? 6 : 2;
            Matcher m = Pattern.compile("[a-z]+|[0-9]+|[^ ]", Pattern.DOTALL).matcher(text);
            while (m.find()) {
                String t = m.group();
                if (state == last) {
                    if (!t.equals(";") || read.size() == 8) return m.start();
                    state = 0;
                    continue;
                }
                boolean fits;
                int number = t.matches("[0-9]{1,2}") ? Integer.parseInt(t) : -1;
                if (what == 1 && state == 0) {
                    line[0] = Arrays.asList(WORDS).indexOf(t);
                    fits = line[0] >= 0;
                } else if (what == 1) {
                    line[1] = number;
                    fits = number >= 0;
                } else if (state % 2 == 0) {
                    fits = t.equals(state == 0 ? "at" : state == 2 ? "from" : "to");
                } else {
                    line[state / 2] = number;
                    fits = state == 1 ? in(number, 0, 7) : in(number, state == 3 ? 0 : line[1], 60);
                }
                if (!fits) return m.start();
                state++;
                if (state == last) read.add(line.clone());
            }
            return state == last ? NONE : text.length();
        }
        int life(int a) {
            if (!agent(a)) return UNKNOWN;
            if (faultOf(0) != NONE) return NOT;
            lives.set(a, read); text = ""; return read.size();
        }
        int table(int r) {
            if (!reader(r)) return UNKNOWN;
            if (faultOf(1) != NONE) return NOT;
            int[] t = plain();
            for (int[] l : read) t[l[0]] = l[1];
            tables.set(r, t); text = ""; return read.size();
        }
        int where(int a, int d) { return !agent(a) ? UNKNOWN : !day(d) ? OUTSIDE : placeOn(a, d); }
        int saw(int a, int d) { return !agent(a) ? UNKNOWN : !day(d) ? OUTSIDE : views[placeOn(a, d)]; }
        int post(int w, int days) {
            if (!way(w)) return UNKNOWN;
            if (!in(days, 0, 20)) return OUTSIDE;
            int was = posts[w]; posts[w] = days; return was;
        }
        int put(List<int[]> to, int most, int... l) {
            if (!agent(l[0]) || !way(l[2]) || !place(l[3]) || !kind(l[4])) return UNKNOWN;
            if (!day(l[1], l[5]) || !in(l[6], 0, 9)) return OUTSIDE;
            if (to.size() == most) return FULL;
            to.add(l); return to.size() - 1;
        }
        int send(int a, int s, int w, int p, int k, int d, int v) { return put(letters, 24, a, s, w, p, k, d, v); }
        boolean letter(int i) { return in(i, 0, letters.size() - 1); }
        int right(int i) { return !letter(i) ? UNKNOWN : isRight(letters.get(i)) ? 1 : 0; }
        int comes(int i) { return !letter(i) ? UNKNOWN : arrival(letters.get(i)); }
        int slips(int i) {
            if (!letter(i)) return UNKNOWN;
            int[] l = letters.get(i);
            int bits = sawPlace(l[0], l[5], l[3]) ? 0 : 1;
            if (l[5] > l[1]) bits += 2;
            boolean own = false;
            boolean other = false;
            for (int[] m : letters) {
                if (m[3] != l[3] || m[4] != l[4] || m[5] != l[5] || m[6] == l[6]) continue;
                if (m[0] == l[0]) own = true; else other = true;
            }
            return bits + (own ? 4 : 0) + (other ? 8 : 0);
        }
        int lacks(int a, int by) {
            if (!agent(a)) return UNKNOWN;
            if (!day(by)) return OUTSIDE;
            int bits = 0;
            for (int i = 0; i < facts.size(); i++) {
                int[] f = facts.get(i);
                boolean seen = false;
                for (int d = 0; d <= by; d++) seen |= in(d, f[2], f[3]) && sawPlace(a, d, f[0]);
                boolean told = false;
                for (int[] l : letters)
                    told |= l[0] == a && l[1] <= by && l[3] == f[0] && l[4] == f[1] && in(l[5], f[2], f[3]);
                if (seen && !told) bits |= 1 << i;
            }
            return bits;
        }
        int ill(int a) {
            if (!agent(a)) return UNKNOWN;
            for (int d = 0; d <= 60; d++)
                for (int[] f : facts) if (f[5] == 1 && in(d, f[2], f[3]) && sawPlace(a, d, f[0])) return d;
            return NONE;
        }
        int eyes(int r, int p, int from, int to) {
            if (!reader(r) || !place(p)) return UNKNOWN;
            if (!day(from, to) || to < from) return OUTSIDE;
            if (eyes.get(r).size() == 6) return FULL;
            eyes.get(r).add(new int[] {p, from, to}); return eyes.get(r).size();
        }
        int told(int r, int what) { return !reader(r) ? UNKNOWN : !in(what, 0, 5) ? OUTSIDE : tables.get(r)[what]; }
        int trust(int r, int a, int d) {
            return !reader(r) || !agent(a) ? UNKNOWN : !day(d) ? OUTSIDE : trustOf(r, a, d, letters);
        }
        int concluded(int r, int p, int k, int d, int on) {
            if (!reader(r) || !place(p) || !kind(k)) return UNKNOWN;
            return day(d, on) ? conclusion(r, p, k, d, on, letters) : OUTSIDE;
        }
        int weight(int r, int p, int k, int d, int v, int on) {
            if (!reader(r) || !place(p) || !kind(k)) return UNKNOWN;
            if (!day(d, on) || !in(v, 0, 9)) return OUTSIDE;
            return Math.max(0, weightOf(r, p, k, d, v, on, letters));
        }
        int story(int p, int k, int d, int v) {
            if (!place(p) || !kind(k)) return UNKNOWN;
            if (!day(d) || !in(v, 0, 9)) return OUTSIDE;
            if (story.size() == 4) return FULL;
            story.add(new int[] {p, k, d, v}); return story.size();
        }
        int holds(int r, int d) { return !reader(r) ? UNKNOWN : !day(d) ? OUTSIDE : held(r, d, letters); }
        int keeps(int r, int from) {
            if (!reader(r)) return UNKNOWN;
            if (!day(from)) return OUTSIDE;
            int n = 0;
            for (int d = from; d <= 60 && allHeld(r, d, letters); d++) n++;
            return n;
        }
        int draft(int a, int s, int w, int p, int k, int d, int v) {
            int n = put(drafts, 10, a, s, w, p, k, d, v);
            if (n >= 0) marks.add(new int[2]);
            return n;
        }
        int mark(int i, int what, int v) {
            if (!in(i, 0, drafts.size() - 1)) return UNKNOWN;
            if (!in(what, 0, 1) || !in(v, 0, 99)) return OUTSIDE;
            int was = marks.get(i)[what]; marks.get(i)[what] = v; return was;
        }
        int make(int d) {
            return !day(d) ? OUTSIDE : leastSet(0, set -> allHeld(0, d, with(set)));
        }
        int buy(int a, int d, int t) {
            if (!agent(a)) return UNKNOWN;
            if (!day(d) || !in(t, 0, 100)) return OUTSIDE;
            return leastSet(1, set -> {
                for (int i = 0; i < drafts.size(); i++) if ((set & 1 << i) != 0 && !isRight(drafts.get(i))) return false;
                return trustOf(0, a, d, with(set)) >= t;
            });
        }
        int question(int on, int p, int k, int d) {
            if (!place(p) || !kind(k)) return UNKNOWN;
            if (!day(on, d)) return OUTSIDE;
            if (signs.size() == 12) return FULL;
            signs.add(new int[] {on, p, k, d}); return signs.size();
        }
        int pay(int on, int a) {
            if (!agent(a)) return UNKNOWN;
            if (!day(on)) return OUTSIDE;
            if (signs.size() == 12) return FULL;
            signs.add(new int[] {on, a}); return signs.size();
        }
        int which() {
            int bits = 3;
            for (int r = 0; r < 2; r++)
                for (int[] s : signs) {
                    boolean so = s.length == 2 ? trustOf(r, s[1], s[0], letters) >= 50
                            : conclusion(r, s[1], s[2], s[3], s[0], letters) == NONE;
                    if (!so) bits &= ~(1 << r);
                }
            return bits;
        }
        int warning(int w, int night, int what) {
            if (!way(w)) return UNKNOWN;
            if (!day(night) || !in(what, 0, 1)) return OUTSIDE;
            int sent = 0;
            while (sent + posts[w] < night) sent++;
            return what == 0 ? sent : sent + posts[w] - night;
        }
        int count(int what) {
            int[] counts = {facts.size(), text.length(), letters.size(), story.size(), drafts.size(), signs.size(),
                eyes.get(0).size() + eyes.get(1).size()};
            return in(what, 0, 6) ? counts[what] : OUTSIDE;
        }
    }

    static final class Run {
        final Random dice;
        final OneManDesk desk = new OneManDesk();
        final Model model = new Model();
        final StringBuilder log = new StringBuilder();
        final int places, kinds, days, agents;
        String pending = "";
        int used = 0;

        Run(long seed) {
            dice = new Random(seed);
            places = 1 + dice.nextInt(8);
            kinds = 1 + dice.nextInt(4);
            days = 1 + dice.nextInt(61);
            agents = 1 + dice.nextInt(6);
        }
        boolean wild() { return dice.nextInt(60) == 0; }
        int pick(int below, int edge) {
            if (!wild()) return dice.nextInt(below);
            int[] odd = {-1, edge, edge - 1, edge + 1, Integer.MIN_VALUE, Integer.MAX_VALUE};
            return odd[dice.nextInt(odd.length)];
        }
        int p() { return pick(places, 8); }
        int k() { return pick(kinds, 4); }
        int d() { return pick(days, 61); }
        int a() { return pick(agents, 6); }
        int w() { return pick(3, 3); }
        int r() { return pick(2, 2); }
        int v() { return dice.nextBoolean() ? pick(3, 10) : pick(10, 10); }
        int later(int d) { return wild() ? d() : Math.min(60, d + dice.nextInt(1 + days / 2)); }

        String newText() {
            if (dice.nextInt(12) == 0) return noise();
            boolean asLife = dice.nextBoolean();
            StringBuilder s = new StringBuilder(blanks());
            int lines = dice.nextInt(6) == 0 ? 8 + dice.nextInt(2) : 1 + dice.nextInt(4);
            for (int i = 0; i < lines; i++) {
                if (i > 0) s.append(blanks()).append(';').append(blanks());
                if (asLife) {
                    int from = dice.nextInt(days);
                    s.append("at").append(gap()).append(dice.nextInt(places)).append(gap()).append("from").append(gap())
                        .append(number(from)).append(gap()).append("to").append(gap()).append(number(later(from)));
                } else {
                    s.append(Model.WORDS[dice.nextInt(6)]).append(gap()).append(number(dice.nextInt(100)));
                }
            }
            s.append(blanks());
            for (int i = dice.nextInt(5) / 3; i > 0; i--) spoil(s);
            return s.toString();
        }
        String gap() { return dice.nextInt(9) == 0 ? "  " : dice.nextInt(9) == 0 ? "" : " "; }
        String blanks() { return dice.nextInt(7) == 0 ? " " : ""; }
        String number(int n) { return n < 10 && dice.nextInt(9) == 0 ? "0" + n : "" + n; }
        static final String SIGNS = "atfromo; 0189begin;;zA\u0000\u00ff\n,";
        void spoil(StringBuilder s) {
            int at = dice.nextInt(s.length() + 1);
            char c = SIGNS.charAt(dice.nextInt(SIGNS.length()));
            int how = dice.nextInt(4);
            if (how == 0 || at == s.length()) s.insert(at, c);
            else if (how == 1) s.setCharAt(at, c);
            else if (how == 2) s.deleteCharAt(at);
            else s.setLength(at);
        }
        String noise() {
            StringBuilder s = new StringBuilder();
            for (int i = dice.nextInt(180); i > 0; i--) s.append(SIGNS.charAt(dice.nextInt(SIGNS.length())));
            return s.toString();
        }

        void check(String call, int got, int due) {
            log.append(call).append(" -> ").append(got).append('\n');
            calls++;
            used++;
            if (got < 0) refusals++;
            if (got != due && wrong++ < 5) System.out.println(log + "   due is " + due + "\n");
        }
        static int calls = 0, refusals = 0, wrong = 0;

        void write(long bytes, int n) { check("write(" + bytes + "," + n + ")", desk.write(bytes, n), model.write(bytes, n)); }
        void writeSome() {
            if (pending.isEmpty()) {
                check("erase()", desk.erase(), model.erase());
                pending = newText();
            }
            if (wild()) write(dice.nextLong(), dice.nextInt(12) - 1);
            for (int i = 0; i < 20 && !pending.isEmpty(); i++) {
                int n = Math.min(pending.length(), 1 + dice.nextInt(8));
                long bytes = 0;
                for (int j = 7; j >= 0; j--) bytes = bytes << 8 | (j < n ? pending.charAt(j) : dice.nextInt(256));
                write(bytes, n);
                pending = pending.substring(n);
            }
            fault(dice.nextInt(2));
        }
        void fault(int what) { check("fault(" + what + ")", desk.fault(what), model.fault(what)); }
        void readText() {
            int who = dice.nextBoolean() ? a() : r();
            if (dice.nextBoolean()) check("life(" + who + ")", desk.life(who), model.life(who));
            else check("table(" + who + ")", desk.table(who), model.table(who));
        }

        void tell() {
            int p = p(), k = k(), d = d(), v = v(), a = a(), r = r(), w = w(), e = later(d), s = dice.nextBoolean() ? d : d();
            boolean secret = dice.nextInt(3) == 0;
            switch (dice.nextInt(14)) {
                case 0: { int b = pick(256, 256); check("view(" + p + "," + b + ")", desk.view(p, b), model.view(p, b)); break; }
                case 1: case 2: { int f = pick(9, 9) + 1;
                    check("fact(" + Arrays.toString(new int[] {p, k, d, e, f}) + secret, desk.fact(p, k, d, e, f, secret), model.fact(p, k, d, e, f, secret)); break; }
                case 3: check("home(" + a + "," + p + ")", desk.home(a, p), model.home(a, p)); break;
                case 4: { int n = pick(21, 21); check("post(" + w + "," + n + ")", desk.post(w, n), model.post(w, n)); break; }
                case 5: case 6: case 7: { int t = dice.nextInt(3) == 0 ? Math.max(0, model.world(p, k, d)) : v;
                    check("send" + Arrays.toString(new int[] {a, s, w, p, k, d, t}), desk.send(a, s, w, p, k, d, t), model.send(a, s, w, p, k, d, t)); break; }
                case 8: check("eyes" + Arrays.toString(new int[] {r, p, d, e}), desk.eyes(r, p, d, e), model.eyes(r, p, d, e)); break;
                case 9: { if (dice.nextInt(3) == 0 && !model.letters.isEmpty()) {
                        int[] l = model.letters.get(dice.nextInt(model.letters.size())); p = l[3]; k = l[4]; d = l[5]; v = l[6]; }
                    check("story" + Arrays.toString(new int[] {p, k, d, v}), desk.story(p, k, d, v), model.story(p, k, d, v)); break; }
                case 10: { if (dice.nextInt(2) == 0 && !model.story.isEmpty()) {
                        int[] l = model.story.get(dice.nextInt(model.story.size())); p = l[0]; k = l[1]; d = l[2]; v = dice.nextInt(4) == 0 ? v : l[3]; }
                    if (dice.nextInt(3) == 0) v = Math.max(0, model.world(p, k, d));
                    check("draft" + Arrays.toString(new int[] {a, s, w, p, k, d, v}), desk.draft(a, s, w, p, k, d, v), model.draft(a, s, w, p, k, d, v)); break; }
                case 11: { int i = pick(1 + model.drafts.size(), 10), what = pick(2, 2), m = dice.nextBoolean() ? pick(4, 100) : pick(100, 100);
                    check("mark" + Arrays.toString(new int[] {i, what, m}), desk.mark(i, what, m), model.mark(i, what, m)); break; }
                case 12: if (dice.nextInt(3) == 0) check("question" + Arrays.toString(new int[] {e, p, k, d}), desk.question(e, p, k, d), model.question(e, p, k, d)); break;
                default: if (dice.nextInt(3) == 0) check("pay" + Arrays.toString(new int[] {d, a}), desk.pay(d, a), model.pay(d, a)); break;
            }
        }

        void ask() {
            int p = p(), k = k(), d = d(), v = v(), a = a(), r = r(), w = w(), on = later(d), i = pick(1 + model.letters.size(), 24);
            if (dice.nextBoolean() && !model.letters.isEmpty()) {
                int[] l = model.letters.get(dice.nextInt(model.letters.size())); p = l[3]; k = l[4]; d = l[5]; v = l[6]; on = dice.nextBoolean() ? d() : 60; }
            String topic = Arrays.toString(new int[] {r, p, k, d, v, on});
            switch (dice.nextInt(22)) {
                case 0: check("world" + topic, desk.world(p, k, d), model.world(p, k, d)); break;
                case 1: check("where(" + a + "," + d, desk.where(a, d), model.where(a, d)); break;
                case 2: check("saw(" + a + "," + d, desk.saw(a, d), model.saw(a, d)); break;
                case 3: check("right(" + i, desk.right(i), model.right(i)); break;
                case 4: check("comes(" + i, desk.comes(i), model.comes(i)); break;
                case 5: check("slips(" + i, desk.slips(i), model.slips(i)); break;
                case 6: check("lacks(" + a + "," + d, desk.lacks(a, d), model.lacks(a, d)); break;
                case 7: check("ill(" + a, desk.ill(a), model.ill(a)); break;
                case 8: { int what = pick(6, 6); check("told(" + r + "," + what, desk.told(r, what), model.told(r, what)); break; }
                case 9: case 10: check("trust" + Arrays.toString(new int[] {r, a, on}), desk.trust(r, a, on), model.trust(r, a, on)); break;
                case 11: case 12: check("concluded" + topic, desk.concluded(r, p, k, d, on), model.concluded(r, p, k, d, on)); break;
                case 13: check("weight" + topic, desk.weight(r, p, k, d, v, on), model.weight(r, p, k, d, v, on)); break;
                case 14: check("holds" + Arrays.toString(new int[] {r, on}), desk.holds(r, on), model.holds(r, on)); break;
                case 15: check("keeps" + Arrays.toString(new int[] {r, on}), desk.keeps(r, on), model.keeps(r, on)); break;
                case 16: case 17: if (dice.nextInt(3) == 0) check("make(" + on, desk.make(on), model.make(on)); break;
                case 18: { int t = dice.nextBoolean() ? pick(101, 101) : 40 + dice.nextInt(50);
                    if (!model.drafts.isEmpty() && dice.nextInt(3) != 0) a = model.drafts.get(dice.nextInt(model.drafts.size()))[0];
                    check("buy" + Arrays.toString(new int[] {a, on, t}), desk.buy(a, on, t), model.buy(a, on, t)); break; }
                case 19: check("which()", desk.which(), model.which()); break;
                case 20: { int what = pick(2, 2); check("warning" + Arrays.toString(new int[] {w, d, what}), desk.warning(w, d, what), model.warning(w, d, what)); break; }
                default: { int what = pick(7, 7); check("count(" + what, desk.count(what), model.count(what)); break; }
            }
        }

        /** A land of three places whose first the readers watch: there truths buy trust, elsewhere the story is told. */
        void goPlanning() {
            int last = 3 + dice.nextInt(5);
            for (int r = 0; r < 2; r++) check("eyes", desk.eyes(r, 0, 0, last), model.eyes(r, 0, 0, last));
            for (int i = 0; i < 3; i++) {
                int p = dice.nextInt(3), d = dice.nextInt(last), v = 1 + dice.nextInt(3);
                check("fact", desk.fact(p, 0, d, last, v, false), model.fact(p, 0, d, last, v, false));
            }
            for (int w = 0; w < 3; w++) {
                int n = dice.nextInt(3);
                check("post(" + w + "," + n + ")", desk.post(w, n), model.post(w, n));
            }
            for (int r = 0; r < 2; r++) {
                pending = "need " + dice.nextInt(100) + ";right " + (5 + dice.nextInt(20)) + ";late " + dice.nextInt(8) + ";alike " + dice.nextInt(30)
                    + ";begin " + dice.nextInt(80) + ";wrong " + dice.nextInt(50);
                writeSome();
                check("table(" + r + ")", desk.table(r), model.table(r));
            }
            for (int i = 1 + dice.nextInt(3); i > 0; i--) {
                int p = dice.nextInt(8) == 0 ? 0 : 1 + dice.nextInt(2), d = dice.nextInt(last), v = dice.nextInt(3);
                check("story" + Arrays.toString(new int[] {p, 0, d, v}), desk.story(p, 0, d, v), model.story(p, 0, d, v));
            }
            for (int i = dice.nextInt(8); i > 0; i--) sendPlanned(last, false);
            for (int i = 0; i < 10; i++) {
                sendPlanned(last, true);
                for (int what = 0; what < 2; what++) {
                    int m = dice.nextInt(4) == 0 ? dice.nextInt(100) : dice.nextInt(5);
                    check("mark" + Arrays.toString(new int[] {i, what, m}), desk.mark(i, what, m), model.mark(i, what, m));
                }
                askPlan(last);
            }
            for (int i = 0; i < 12; i++) askPlan(last);
        }
        void sendPlanned(int last, boolean asDraft) {
            int a = dice.nextInt(3), w = dice.nextInt(3), d = dice.nextInt(last), p = 0, v = dice.nextInt(3);
            if (dice.nextBoolean()) {
                int[] l = model.story.get(dice.nextInt(model.story.size())); p = l[0]; d = l[2]; v = dice.nextInt(5) == 0 ? v : l[3];
            } else if (dice.nextInt(4) != 0) v = model.world(p, 0, d);
            int s = Math.max(0, d + dice.nextInt(4) - 1);
            String call = (asDraft ? "draft" : "send") + Arrays.toString(new int[] {a, s, w, p, 0, d, v});
            if (asDraft) check(call, desk.draft(a, s, w, p, 0, d, v), model.draft(a, s, w, p, 0, d, v));
            else check(call, desk.send(a, s, w, p, 0, d, v), model.send(a, s, w, p, 0, d, v));
        }
        void askPlan(int last) {
            int on = last / 2 + dice.nextInt(last), a = dice.nextInt(3), t = Math.min(100, model.trust(0, a, on) + dice.nextInt(45));
            check("make(" + on + ")", desk.make(on), model.make(on));
            check("buy" + Arrays.toString(new int[] {a, on, t}), desk.buy(a, on, t), model.buy(a, on, t));
        }

        void go() {
            while (used < 480) {
                int what = dice.nextInt(20);
                if (what == 0) writeSome();
                else if (what == 1) readText();
                else if (what == 2 && wild()) fault(pick(2, 2));
                else if (what < 9) tell();
                else ask();
            }
        }
    }

    public static void main(String[] args) {
        int runs = args.length > 0 ? Integer.parseInt(args[0]) : 600;
        long first = args.length > 1 ? Long.parseLong(args[1]) : 1;
        for (int i = 0; i < runs && Run.wrong == 0; i++) {
            new Run(first + i).go();
            new Run(first + i).goPlanning();
        }
        System.out.println(Run.calls + " calls of " + 2 * runs + " runs, " + Run.refusals + " of them refused or without an answer, " + Run.wrong + " wrong");
        if (Run.wrong != 0) System.exit(1);
    }
}
