/** Each promise of the document by hand: ordinary inputs, the edges that it names, wrong inputs. */
public final class PromisesTest {
    static final int NONE = OneManDesk.NONE, UNKNOWN = OneManDesk.UNKNOWN, OUTSIDE = OneManDesk.OUTSIDE,
        NOT = OneManDesk.NOT, FULL = OneManDesk.FULL;
    static final int LEAST = Integer.MIN_VALUE, MOST = Integer.MAX_VALUE;
    static int checks = 0, wrong = 0;

    static void due(int promise, String what, int got, int want) {
        checks++;
        if (got != want) {
            wrong++;
            System.out.println("promise " + promise + ": " + what + " answered " + got + ", due is " + want);
        }
    }

    static OneManDesk text(OneManDesk x, String text) {
        x.erase();
        for (int at = 0; at < text.length(); at += 8) {
            int n = Math.min(8, text.length() - at);
            long bytes = 0;
            for (int i = n - 1; i >= 0; i--) bytes = bytes << 8 | text.charAt(at + i);
            x.write(bytes, n);
        }
        return x;
    }
    static OneManDesk desk() { return new OneManDesk(); }
    static void lifeFault(String text, int want) { due(8, "life " + text, text(desk(), text).fault(0), want); }
    static void tableFault(String text, int want) { due(8, "table " + text, text(desk(), text).fault(1), want); }

    static void newObject() {
        OneManDesk x = desk();
        for (int what = 0; what < 7; what++) due(1, "count " + what, x.count(what), 0);
        for (int p = 0; p < 8; p++) due(1, "view of " + p, x.view(p, 0), 1 << p);
        for (int a = 0; a < 6; a++) due(1, "home of " + a, x.home(a, 0), 0);
        int[] posts = {3, 0, 9}, table = {50, 10, 30, 0, 0, 40};
        for (int w = 0; w < 3; w++) due(1, "post of " + w, x.post(w, 0), posts[w]);
        for (int r = 0; r < 2; r++)
            for (int what = 0; what < 6; what++) due(1, "told", x.told(r, what), table[what]);
        due(1, "make", x.make(0), 0);
        due(1, "which", x.which(), 3);
        due(1, "another object", desk().view(0, 0), 1);
    }

    static void view() {
        OneManDesk x = desk();
        due(2, "set", x.view(0, 255), 1);
        due(2, "set again", x.view(0, 0), 255);
        due(2, "itself is not seen then", x.saw(0, 0), 0);
        due(2, "other place", x.view(7, 1), 128);
        for (int p : new int[] {-1, 8, LEAST, MOST}) due(2, "place", x.view(p, 1), UNKNOWN);
        for (int b : new int[] {-1, 256, LEAST, MOST}) due(2, "bits", x.view(0, b), OUTSIDE);
        due(2, "both", x.view(8, 256), UNKNOWN);
        due(2, "unchanged", x.view(0, 0), 0);
    }

    static void fact() {
        OneManDesk x = desk();
        for (int p : new int[] {-1, 8, LEAST, MOST}) due(3, "place", x.fact(p, 0, 0, 0, 1, false), UNKNOWN);
        for (int k : new int[] {-1, 4, LEAST, MOST}) due(3, "kind", x.fact(0, k, 0, 0, 1, false), UNKNOWN);
        for (int d : new int[] {-1, 61, LEAST, MOST}) {
            due(3, "from", x.fact(0, 0, d, 60, 1, false), OUTSIDE);
            due(3, "to", x.fact(0, 0, 0, d, 1, false), OUTSIDE);
        }
        due(3, "to ahead of from", x.fact(0, 0, 1, 0, 1, false), OUTSIDE);
        for (int v : new int[] {-1, 0, 10, LEAST, MOST}) due(3, "v", x.fact(0, 0, 0, 0, v, false), OUTSIDE);
        due(3, "unknown first", x.fact(8, 0, 61, 61, 10, false), UNKNOWN);
        due(3, "none told yet", x.count(0), 0);
        for (int i = 0; i < 16; i++) due(3, "number", x.fact(i % 8, i % 4, i, 60, 1 + i % 9, false), i);
        due(3, "full", x.fact(0, 0, 0, 0, 1, false), FULL);
        due(3, "outside ahead of full", x.fact(0, 0, 0, 0, 0, false), OUTSIDE);
        due(3, "unknown ahead of full", x.fact(0, 4, 0, 0, 1, false), UNKNOWN);
        due(3, "count", x.count(0), 16);
    }

    static void world() {
        OneManDesk x = desk();
        x.fact(1, 2, 10, 20, 4, false);
        x.fact(1, 2, 15, 30, 9, true);
        x.fact(1, 2, 20, 20, 1, false);
        int[] days = {0, 9, 10, 14, 15, 19, 20, 21, 30, 31, 60}, due = {0, 0, 4, 4, 9, 9, 1, 9, 9, 0, 0};
        for (int i = 0; i < days.length; i++) due(4, "day " + days[i], x.world(1, 2, days[i]), due[i]);
        due(4, "other kind", x.world(1, 1, 15), 0);
        due(4, "other place", x.world(2, 2, 15), 0);
        for (int n : new int[] {-1, 8, LEAST, MOST}) due(4, "place", x.world(n, 0, 0), UNKNOWN);
        for (int n : new int[] {-1, 4, LEAST, MOST}) due(4, "kind", x.world(0, n, 0), UNKNOWN);
        for (int n : new int[] {-1, 61, LEAST, MOST}) due(4, "day", x.world(0, 0, n), OUTSIDE);
        due(4, "unknown first", x.world(8, 0, 61), UNKNOWN);
    }

    static void home() {
        OneManDesk x = desk();
        due(5, "first", x.home(5, 7), 0);
        due(5, "then", x.home(5, 1), 7);
        due(5, "there", x.where(5, 33), 1);
        due(5, "others not", x.where(4, 33), 0);
        for (int n : new int[] {-1, 6, LEAST, MOST}) due(5, "agent", x.home(n, 0), UNKNOWN);
        for (int n : new int[] {-1, 8, LEAST, MOST}) due(5, "place", x.home(5, n), UNKNOWN);
        due(5, "unchanged", x.home(5, 0), 1);
    }

    static void write() {
        OneManDesk x = desk();
        for (int n : new int[] {-1, 0, 9, LEAST, MOST}) due(6, "n", x.write(0, n), OUTSIDE);
        due(6, "only n bytes", x.write(0x3131313131647561L, 1), 1);
        x.erase();
        x.write(0x7461L, 2);
        x.write(0x6d6f72663120L, 6);
        x.write(0x32206f743220L, 6);
        due(6, "reads: at 1from 2to 2", x.fault(0), NONE);
        due(6, "a life", x.life(0), 1);
        due(6, "place", x.where(0, 2), 1);
        due(6, "negative long", x.write(-1L, 8), 8);
        due(6, "byte 255 is a fault", x.fault(0), 0);
        x.erase();
        for (int i = 1; i <= 19; i++) due(6, "eight more", x.write(0, 8), 8 * i);
        due(6, "up to 159", x.write(0, 7), 159);
        due(6, "two would be too many", x.write(0, 2), FULL);
        due(6, "unchanged", x.count(1), 159);
        due(6, "the last", x.write(0, 1), 160);
        due(6, "full", x.write(0, 1), FULL);
        due(6, "outside ahead of full", x.write(0, 0), OUTSIDE);
        due(6, "count", x.count(1), 160);
    }

    static void erase() {
        OneManDesk x = desk();
        due(7, "empty", x.erase(), 0);
        text(x, "need 1;");
        due(7, "seven", x.erase(), 7);
        due(7, "again", x.erase(), 0);
        due(7, "nothing stays", x.fault(1), 0);
        x.write(0x20, 1);
        due(7, "only the new", x.count(1), 1);
    }

    static void fault() {
        lifeFault("", 0);
        lifeFault("   ", 3);
        lifeFault("at 7 from 0 to 60", NONE);
        lifeFault("  at  07from00to 0  ", NONE);
        lifeFault("at", 2);
        lifeFault("at ", 3);
        lifeFault("at 1 from 1 to", 14);
        lifeFault("at 8 from 0 to 1", 3);
        lifeFault("at 007 from 0 to 1", 3);
        lifeFault("at x from 0 to 1", 3);
        lifeFault("att 1 from 0 to 1", 0);
        lifeFault("atz 1 from 0 to 1", 0);
        lifeFault("at 0 from 0 to 0", NONE);
        lifeFault("a t 1 from 0 to 1", 0);
        lifeFault("At 1 from 0 to 1", 0);
        lifeFault("aT 1 from 0 to 1", 0);
        lifeFault("atX 1 from 0 to 1", 2);
        lifeFault("at 1 from 61 to 61", 10);
        lifeFault("at 1 from 60 to 60", NONE);
        lifeFault("at 1 from 10 to 9", 16);
        lifeFault("at 1 from 10 to 61", 16);
        lifeFault("at 1 to 1", 5);
        lifeFault("at 1 from 1 from 2", 12);
        lifeFault("at 1 from 1 to 2 at", 17);
        lifeFault("at 1 from 1 to 2;", 17);
        lifeFault("at 1 from 1 to 2; ", 18);
        lifeFault("at 1 from 1 to 2;;at 1 from 1 to 2", 17);
        lifeFault(";at 1 from 1 to 2", 0);
        lifeFault("at 1 from 1 to 2,at 1 from 1 to 2", 16);
        lifeFault("at 1 from 1 to 2.", 16);
        lifeFault("at 1 from 1 to -2", 15);
        lifeFault("at 1 from 1 to 2\n", 16);
        lifeFault("at 1 from 1 to 2 3", 17);
        lifeFault("need 1", 0);
        String eight = "at1from1to1;at1from1to1;at1from1to1;at1from1to1;at1from1to1;at1from1to1;at1from1to1;at1from1to1";
        lifeFault(eight, NONE);
        lifeFault(eight + ";", 95);
        lifeFault(eight + " ;at1from1to1", 96);
        for (String word : new String[] {"begin", "right", "wrong", "late", "alike", "need"}) {
            tableFault(word + " 0", NONE);
            tableFault(word + " 99", NONE);
            tableFault(word + " 100", word.length() + 1);
            tableFault(word, word.length());
            tableFault(word + "x 1", 0);
            tableFault(word.substring(1) + " 1", 0);
        }
        tableFault("", 0);
        tableFault("need 000", 5);
        tableFault("need 1 2", 7);
        tableFault("need 1; need 2 ;begin3", NONE);
        tableFault("need 1 need 2", 7);
        tableFault("need;", 4);
        tableFault("at 1 from 1 to 1", 0);
        tableFault("need 1;need 1;need 1;need 1;need 1;need 1;need 1;need 1", NONE);
        tableFault("need 1;need 1;need 1;need 1;need 1;need 1;need 1;need 1;", 55);
        for (int n : new int[] {-1, 2, LEAST, MOST}) due(8, "what", desk().fault(n), OUTSIDE);
        OneManDesk x = text(desk(), "need 1");
        due(8, "asking", x.fault(1), NONE);
        due(8, "changes nothing", x.count(1), 6);
    }

    static void life() {
        OneManDesk x = text(desk(), "at 3 from 5 to 9; at 4 from 7 to 7; at 5 from 20 to 60");
        for (int n : new int[] {-1, 6, LEAST, MOST}) due(9, "agent", x.life(n), UNKNOWN);
        due(9, "lines", x.life(2), 3);
        due(9, "the text is empty then", x.count(1), 0);
        due(9, "an empty one has a fault", x.life(2), NOT);
        due(9, "unknown ahead of not", x.life(6), UNKNOWN);
        due(9, "still", x.where(2, 5), 3);
        text(x, "at 3 from 5 to 4");
        due(9, "fault", x.life(2), NOT);
        due(9, "the text stays", x.count(1), 16);
        due(9, "the life stays", x.where(2, 20), 5);
        text(x, "at 1 from 0 to 0");
        due(9, "a new life", x.life(2), 1);
        due(9, "is all", x.where(2, 20), 0);
        due(9, "there", x.where(2, 0), 1);
        due(9, "of this agent alone", x.where(1, 0), 0);
        text(x, "need 1");
        due(9, "a table is no life", x.life(0), NOT);
    }

    static void table() {
        OneManDesk x = text(desk(), "begin 1;right 2;wrong 3;late 4;alike 5;need 6;need 7");
        for (int n : new int[] {-1, 2, LEAST, MOST}) due(10, "reader", x.table(n), UNKNOWN);
        due(10, "lines", x.table(1), 7);
        due(10, "the text is empty then", x.count(1), 0);
        int[] due = {1, 2, 3, 4, 5, 7};
        for (int what = 0; what < 6; what++) due(10, "told " + what, x.told(1, what), due[what]);
        due(10, "of this reader alone", x.told(0, 0), 50);
        due(10, "an empty one has a fault", x.table(1), NOT);
        due(10, "unknown ahead of not", x.table(2), UNKNOWN);
        text(x, "need 100");
        due(10, "fault", x.table(1), NOT);
        due(10, "the text stays", x.count(1), 8);
        due(10, "the table stays", x.told(1, 5), 7);
        text(x, "late 9");
        due(10, "a new table", x.table(1), 1);
        int[] plain = {50, 10, 30, 9, 0, 40};
        for (int what = 0; what < 6; what++) due(10, "told " + what, x.told(1, what), plain[what]);
        text(x, "at 1 from 1 to 1");
        due(10, "a life is no table", x.table(0), NOT);
    }

    static void where() {
        OneManDesk x = text(desk(), "at 3 from 5 to 9; at 4 from 7 to 7; at 5 from 9 to 60");
        x.life(1);
        x.home(1, 2);
        int[] days = {0, 4, 5, 6, 7, 8, 9, 60}, due = {2, 2, 3, 3, 4, 3, 5, 5};
        for (int i = 0; i < days.length; i++) due(11, "day " + days[i], x.where(1, days[i]), due[i]);
        for (int n : new int[] {-1, 6, LEAST, MOST}) due(11, "agent", x.where(n, 0), UNKNOWN);
        for (int n : new int[] {-1, 61, LEAST, MOST}) due(11, "day", x.where(0, n), OUTSIDE);
        due(11, "unknown first", x.where(6, 61), UNKNOWN);
    }

    static void saw() {
        OneManDesk x = text(desk(), "at 3 from 5 to 9");
        x.life(1);
        due(12, "itself", x.saw(1, 5), 8);
        due(12, "home", x.saw(1, 4), 1);
        x.view(3, 0x81);
        due(12, "as told", x.saw(1, 9), 0x81);
        x.view(3, 0);
        due(12, "nothing", x.saw(1, 9), 0);
        for (int n : new int[] {-1, 6, LEAST, MOST}) due(12, "agent", x.saw(n, 0), UNKNOWN);
        for (int n : new int[] {-1, 61, LEAST, MOST}) due(12, "day", x.saw(0, n), OUTSIDE);
        due(12, "unknown first", x.saw(-1, -1), UNKNOWN);
    }

    static void post() {
        OneManDesk x = desk();
        due(13, "first", x.post(0, 20), 3);
        due(13, "then", x.post(0, 0), 20);
        for (int n : new int[] {-1, 3, LEAST, MOST}) due(13, "way", x.post(n, 0), UNKNOWN);
        for (int n : new int[] {-1, 21, LEAST, MOST}) due(13, "days", x.post(0, n), OUTSIDE);
        due(13, "unknown first", x.post(3, 21), UNKNOWN);
        due(13, "unchanged", x.post(0, 1), 0);
    }

    interface Letter { int of(int agent, int sent, int way, int place, int kind, int day, int v); }

    static void letter(int promise, Letter put, int most) {
        for (int n : new int[] {-1, LEAST, MOST}) {
            due(promise, "agent", put.of(n, 0, 0, 0, 0, 0, 0), UNKNOWN);
            due(promise, "sent", put.of(0, n, 0, 0, 0, 0, 0), OUTSIDE);
            due(promise, "way", put.of(0, 0, n, 0, 0, 0, 0), UNKNOWN);
            due(promise, "place", put.of(0, 0, 0, n, 0, 0, 0), UNKNOWN);
            due(promise, "kind", put.of(0, 0, 0, 0, n, 0, 0), UNKNOWN);
            due(promise, "day", put.of(0, 0, 0, 0, 0, n, 0), OUTSIDE);
            due(promise, "v", put.of(0, 0, 0, 0, 0, 0, n), OUTSIDE);
        }
        due(promise, "agent", put.of(6, 61, 0, 0, 0, 0, 0), UNKNOWN);
        due(promise, "sent", put.of(0, 61, 0, 0, 0, 0, 0), OUTSIDE);
        due(promise, "way", put.of(0, 61, 3, 0, 0, 0, 0), UNKNOWN);
        due(promise, "place", put.of(0, 61, 0, 8, 0, 0, 0), UNKNOWN);
        due(promise, "kind", put.of(0, 61, 0, 0, 4, 0, 10), UNKNOWN);
        due(promise, "day", put.of(0, 0, 0, 0, 0, 61, 0), OUTSIDE);
        due(promise, "v", put.of(0, 0, 0, 0, 0, 0, 10), OUTSIDE);
        for (int i = 0; i < most; i++) due(promise, "number", i % 2 == 0 ? put.of(5, 60, 2, 7, 3, 60, 9) : put.of(0, 0, 0, 0, 0, 0, 0), i);
        due(promise, "full", put.of(0, 0, 0, 0, 0, 0, 0), FULL);
        due(promise, "outside ahead of full", put.of(0, 61, 0, 0, 0, 0, 0), OUTSIDE);
        due(promise, "unknown ahead of full", put.of(6, 0, 0, 0, 0, 0, 0), UNKNOWN);
    }

    static void send() {
        OneManDesk x = desk();
        letter(14, x::send, 24);
        due(14, "count", x.count(2), 24);
        due(14, "no drafts", x.count(4), 0);
    }

    static void unknownLetter(int promise, java.util.function.IntUnaryOperator ask, int letters) {
        for (int n : new int[] {-1, letters, LEAST, MOST}) due(promise, "letter " + n, ask.applyAsInt(n), UNKNOWN);
    }

    static void right() {
        OneManDesk x = desk();
        unknownLetter(15, x::right, 0);
        x.send(0, 0, 0, 2, 1, 5, 7);
        x.send(0, 0, 0, 2, 1, 5, 0);
        x.send(0, 0, 0, 2, 1, 6, 7);
        unknownLetter(15, x::right, 3);
        due(15, "nothing there", x.right(0), 0);
        due(15, "0 is right then", x.right(1), 1);
        x.fact(2, 1, 5, 5, 7, false);
        due(15, "so", x.right(0), 1);
        due(15, "not so", x.right(1), 0);
        due(15, "another day", x.right(2), 0);
        x.fact(2, 1, 0, 60, 7, false);
        due(15, "a later fact", x.right(2), 1);
    }

    static void comes() {
        OneManDesk x = desk();
        unknownLetter(16, x::comes, 0);
        x.send(0, 10, 0, 0, 0, 0, 0);
        x.send(0, 10, 1, 0, 0, 0, 0);
        x.send(0, 60, 2, 0, 0, 0, 0);
        unknownLetter(16, x::comes, 3);
        due(16, "three days", x.comes(0), 13);
        due(16, "at once", x.comes(1), 10);
        due(16, "behind 60", x.comes(2), 69);
        x.post(2, 20);
        due(16, "by the post as it is", x.comes(2), 80);
    }

    static void slips() {
        OneManDesk x = desk();
        unknownLetter(17, x::slips, 0);
        x.send(0, 5, 0, 0, 0, 5, 1);
        unknownLetter(17, x::slips, 1);
        due(17, "none", x.slips(0), 0);
        x.send(0, 5, 0, 1, 0, 5, 1);
        due(17, "unseen", x.slips(1), 1);
        x.send(0, 5, 0, 0, 0, 6, 1);
        due(17, "ahead", x.slips(2), 2);
        x.send(0, 9, 1, 0, 0, 5, 1);
        due(17, "alike", x.slips(0), 0);
        x.send(0, 9, 1, 0, 1, 5, 2);
        due(17, "another kind", x.slips(0), 0);
        x.send(1, 9, 1, 0, 0, 5, 2);
        due(17, "another agent", x.slips(0), 8);
        due(17, "both", x.slips(5), 8);
        x.send(0, 4, 1, 0, 0, 5, 3);
        due(17, "all but unseen", x.slips(6), 14);
        due(17, "own and other", x.slips(0), 12);
        x.view(0, 0);
        due(17, "all", x.slips(6), 15);
        x.view(0, 3);
        due(17, "seen from afar", x.slips(1), 0);
        OneManDesk y = desk();
        y.send(0, 5, 0, 0, 0, 5, 1);
        y.send(0, 5, 0, 0, 0, 5, 2);
        due(17, "unlike the very first", y.slips(1), 4);
    }

    static void lacks() {
        OneManDesk x = desk();
        x.fact(1, 0, 10, 20, 4, false);
        x.fact(1, 0, 15, 15, 6, false);
        x.fact(0, 2, 5, 60, 1, true);
        text(x, "at 1 from 12 to 16").life(0);
        due(18, "none yet", x.lacks(0, 4), 0);
        due(18, "the day itself", x.lacks(0, 5), 4);
        due(18, "not there yet", x.lacks(0, 11), 4);
        due(18, "there", x.lacks(0, 12), 5);
        due(18, "all", x.lacks(0, 15), 7);
        due(18, "another agent", x.lacks(1, 60), 4);
        x.send(1, 0, 0, 1, 0, 15, 4);
        due(18, "another's letter", x.lacks(0, 60), 7);
        x.send(0, 14, 0, 1, 1, 15, 4);
        due(18, "another kind", x.lacks(0, 60), 7);
        x.send(0, 14, 0, 1, 0, 21, 4);
        due(18, "no day of the fact", x.lacks(0, 60), 7);
        x.send(0, 14, 2, 1, 0, 20, 0);
        due(18, "one of its days, whatever it tells", x.lacks(0, 14), 4);
        due(18, "not sent by then", x.lacks(0, 13), 5);
        due(18, "the other is still lacking", x.lacks(0, 60), 6);
        x.send(0, 30, 0, 1, 0, 15, 0);
        due(18, "late", x.lacks(0, 29), 6);
        due(18, "sent", x.lacks(0, 30), 4);
        for (int n : new int[] {-1, 6, LEAST, MOST}) due(18, "agent", x.lacks(n, 0), UNKNOWN);
        for (int n : new int[] {-1, 61, LEAST, MOST}) due(18, "day", x.lacks(0, n), OUTSIDE);
        due(18, "unknown first", x.lacks(6, 61), UNKNOWN);
        OneManDesk full = desk();
        for (int i = 0; i < 16; i++) full.fact(0, 0, 0, 60, 1, false);
        due(18, "sixteen", full.lacks(0, 0), 65535);
    }

    static void ill() {
        OneManDesk x = desk();
        due(19, "none", x.ill(0), NONE);
        x.fact(0, 0, 0, 60, 1, false);
        due(19, "not secret", x.ill(0), NONE);
        x.fact(1, 0, 10, 20, 4, true);
        x.fact(1, 0, 10, 20, 5, false);
        due(19, "not seen", x.ill(0), NONE);
        text(x, "at 1 from 0 to 9; at 1 from 15 to 60").life(0);
        due(19, "the first day, whatever a later fact tells", x.ill(0), 15);
        x.view(0, 2);
        due(19, "from afar", x.ill(0), 10);
        x.fact(1, 3, 60, 60, 1, true);
        x.home(2, 1);
        due(19, "home", x.ill(2), 10);
        x.fact(7, 3, 60, 60, 1, true);
        x.home(3, 7);
        due(19, "the last day", x.ill(3), 60);
        x.fact(7, 3, 0, 0, 1, true);
        due(19, "the first day", x.ill(3), 0);
        for (int n : new int[] {-1, 6, LEAST, MOST}) due(19, "agent", x.ill(n), UNKNOWN);
    }

    static void eyes() {
        OneManDesk x = desk();
        for (int n : new int[] {-1, 2, LEAST, MOST}) due(20, "reader", x.eyes(n, 0, 0, 0), UNKNOWN);
        for (int n : new int[] {-1, 8, LEAST, MOST}) due(20, "place", x.eyes(0, n, 0, 0), UNKNOWN);
        for (int n : new int[] {-1, 61, LEAST, MOST}) {
            due(20, "from", x.eyes(0, 0, n, 60), OUTSIDE);
            due(20, "to", x.eyes(0, 0, 0, n), OUTSIDE);
        }
        due(20, "to ahead of from", x.eyes(0, 0, 5, 4), OUTSIDE);
        due(20, "unknown first", x.eyes(0, 8, 5, 4), UNKNOWN);
        due(20, "nothing yet", x.count(6), 0);
        for (int i = 1; i <= 6; i++) due(20, "how many", x.eyes(0, 7, 60, 60), i);
        due(20, "full", x.eyes(0, 7, 60, 60), FULL);
        due(20, "outside ahead of full", x.eyes(0, 7, 60, 59), OUTSIDE);
        due(20, "unknown ahead of full", x.eyes(0, 8, 0, 0), UNKNOWN);
        due(20, "the other's", x.eyes(1, 3, 0, 60), 1);
        due(20, "both", x.count(6), 7);
        x.fact(3, 0, 0, 60, 5, false);
        due(20, "sees", x.concluded(1, 3, 0, 4, 4), 5);
        due(20, "sees not", x.concluded(0, 3, 0, 4, 4), NONE);
    }

    static void toldByTable() {
        OneManDesk x = text(desk(), "need 99;begin 0;late 07");
        x.table(0);
        int[] due = {0, 10, 30, 7, 0, 99};
        for (int what = 0; what < 6; what++) due(21, "word " + what, x.told(0, what), due[what]);
        due(21, "the other", x.told(1, 5), 40);
        for (int n : new int[] {-1, 2, LEAST, MOST}) due(21, "reader", x.told(n, 0), UNKNOWN);
        for (int n : new int[] {-1, 6, LEAST, MOST}) due(21, "what", x.told(0, n), OUTSIDE);
        due(21, "unknown first", x.told(2, 6), UNKNOWN);
    }

    static void trust() {
        OneManDesk x = desk();
        x.fact(0, 0, 0, 60, 5, false);
        x.eyes(0, 0, 10, 20);
        due(22, "begin", x.trust(0, 0, 60), 50);
        x.send(0, 10, 0, 0, 0, 10, 5);
        due(22, "not come yet", x.trust(0, 0, 12), 50);
        due(22, "right", x.trust(0, 0, 13), 60);
        due(22, "no eyes", x.trust(1, 0, 13), 50);
        due(22, "another agent", x.trust(0, 1, 13), 50);
        x.send(0, 0, 1, 0, 0, 20, 5);
        due(22, "told ahead: not known yet", x.trust(0, 0, 19), 60);
        due(22, "known", x.trust(0, 0, 20), 70);
        x.send(0, 30, 1, 0, 0, 9, 4);
        x.send(0, 30, 1, 0, 0, 21, 4);
        due(22, "outside of the days of the eyes", x.trust(0, 0, 60), 70);
        x.send(0, 30, 1, 0, 0, 20, 4);
        due(22, "wrong", x.trust(0, 0, 30), 40);
        text(x, "late 3;right 8").table(0);
        due(22, "late, and 0 at least where it came ahead", x.trust(0, 0, 20), 58);
        x.post(0, 2);
        due(22, "two days late", x.trust(0, 0, 13), 52);
        x.post(0, 1);
        due(22, "a day late", x.trust(0, 0, 13), 55);
        text(x, "begin 10;wrong 99;right 99").table(0);
        due(22, "all together", x.trust(0, 0, 60), 100);
        x.send(0, 60, 1, 0, 0, 20, 4);
        x.send(0, 60, 1, 0, 0, 20, 4);
        due(22, "0 at least", x.trust(0, 0, 60), 0);
        x.eyes(0, 0, 0, 60);
        due(22, "eyes twice count once", x.trust(0, 0, 13), 100);
        for (int n : new int[] {-1, 2, LEAST, MOST}) due(22, "reader", x.trust(n, 0, 0), UNKNOWN);
        for (int n : new int[] {-1, 6, LEAST, MOST}) due(22, "agent", x.trust(0, n, 0), UNKNOWN);
        for (int n : new int[] {-1, 61, LEAST, MOST}) due(22, "day", x.trust(0, 0, n), OUTSIDE);
        due(22, "unknown first", x.trust(0, 6, 61), UNKNOWN);
    }

    static void concluded() {
        OneManDesk x = desk();
        due(23, "nothing", x.concluded(0, 1, 0, 5, 60), NONE);
        x.send(0, 5, 0, 1, 0, 5, 8);
        due(23, "not come", x.concluded(0, 1, 0, 5, 7), NONE);
        due(23, "come", x.concluded(0, 1, 0, 5, 8), 8);
        due(23, "another kind", x.concluded(0, 1, 1, 5, 60), NONE);
        x.send(1, 5, 0, 1, 0, 5, 3);
        due(23, "of several the least", x.concluded(0, 1, 0, 5, 60), 3);
        x.send(0, 5, 0, 1, 0, 5, 8);
        due(23, "the same agent counts once", x.concluded(0, 1, 0, 5, 60), 3);
        x.send(2, 20, 0, 1, 0, 5, 8);
        due(23, "two against one", x.concluded(0, 1, 0, 5, 23), 8);
        due(23, "before", x.concluded(0, 1, 0, 5, 22), 3);
        text(x, "need 51").table(0);
        due(23, "not enough", x.concluded(0, 1, 0, 5, 22), NONE);
        due(23, "enough", x.concluded(0, 1, 0, 5, 23), 8);
        text(x, "need 50").table(0);
        due(23, "just enough", x.concluded(0, 1, 0, 5, 22), 3);
        text(x, "need 0;begin 0").table(0);
        due(23, "told by one whom nobody trusts", x.concluded(0, 1, 0, 5, 22), 3);
        due(23, "told by nobody", x.concluded(0, 1, 0, 6, 22), NONE);
        x.eyes(0, 1, 5, 6);
        x.fact(1, 0, 6, 6, 2, false);
        due(23, "known: nothing there", x.concluded(0, 1, 0, 5, 5), 0);
        due(23, "known", x.concluded(0, 1, 0, 6, 6), 2);
        due(23, "not by then", x.concluded(0, 1, 0, 6, 5), NONE);
        due(23, "the other reader", x.concluded(1, 1, 0, 5, 60), 8);
        for (int n : new int[] {-1, 2, LEAST, MOST}) due(23, "reader", x.concluded(n, 0, 0, 0, 0), UNKNOWN);
        for (int n : new int[] {-1, 8, LEAST, MOST}) due(23, "place", x.concluded(0, n, 0, 61, 0), UNKNOWN);
        for (int n : new int[] {-1, 4, LEAST, MOST}) due(23, "kind", x.concluded(0, 0, n, 0, 61), UNKNOWN);
        for (int n : new int[] {-1, 61, LEAST, MOST}) {
            due(23, "day", x.concluded(0, 0, 0, n, 0), OUTSIDE);
            due(23, "on", x.concluded(0, 0, 0, 0, n), OUTSIDE);
        }
    }

    static void weight() {
        OneManDesk x = text(desk(), "alike 7;right 6;begin 40");
        x.table(0);
        x.send(0, 5, 1, 1, 0, 5, 8);
        x.send(0, 6, 1, 1, 0, 5, 8);
        due(24, "once each", x.weight(0, 1, 0, 5, 8, 60), 40);
        x.send(1, 7, 1, 1, 0, 5, 8);
        due(24, "alike", x.weight(0, 1, 0, 5, 8, 60), 87);
        due(24, "by then", x.weight(0, 1, 0, 5, 8, 6), 40);
        x.send(2, 7, 1, 1, 0, 5, 8);
        due(24, "alike for each beyond the first", x.weight(0, 1, 0, 5, 8, 60), 134);
        due(24, "the other reader", x.weight(1, 1, 0, 5, 8, 60), 150);
        due(24, "nobody", x.weight(0, 1, 0, 5, 7, 60), 0);
        due(24, "another kind", x.weight(0, 1, 1, 5, 8, 60), 0);
        x.eyes(0, 1, 5, 5);
        due(24, "whatever it knows", x.weight(0, 1, 0, 5, 8, 6), 0);
        due(24, "whom it trusts less now", x.weight(0, 1, 0, 5, 8, 60), 10 + 10 + 14);
        for (int n : new int[] {-1, 2, LEAST, MOST}) due(24, "reader", x.weight(n, 0, 0, 0, 10, 0), UNKNOWN);
        for (int n : new int[] {-1, 8, LEAST, MOST}) due(24, "place", x.weight(0, n, 0, 0, 0, 61), UNKNOWN);
        for (int n : new int[] {-1, 4, LEAST, MOST}) due(24, "kind", x.weight(0, 0, n, 61, 0, 0), UNKNOWN);
        for (int n : new int[] {-1, 61, LEAST, MOST}) {
            due(24, "day", x.weight(0, 0, 0, n, 0, 0), OUTSIDE);
            due(24, "on", x.weight(0, 0, 0, 0, 0, n), OUTSIDE);
        }
        for (int n : new int[] {-1, 10, LEAST, MOST}) due(24, "v", x.weight(0, 0, 0, 0, n, 0), OUTSIDE);
    }

    static void story() {
        OneManDesk x = desk();
        for (int n : new int[] {-1, 8, LEAST, MOST}) due(25, "place", x.story(n, 0, 61, 10), UNKNOWN);
        for (int n : new int[] {-1, 4, LEAST, MOST}) due(25, "kind", x.story(0, n, 61, 10), UNKNOWN);
        for (int n : new int[] {-1, 61, LEAST, MOST}) due(25, "day", x.story(0, 0, n, 0), OUTSIDE);
        for (int n : new int[] {-1, 10, LEAST, MOST}) due(25, "v", x.story(0, 0, 0, n), OUTSIDE);
        due(25, "nothing yet", x.count(3), 0);
        for (int i = 1; i <= 4; i++) due(25, "how many", x.story(7, 3, 60, i % 2 == 0 ? 0 : 9), i);
        due(25, "full", x.story(7, 3, 60, 9), FULL);
        due(25, "outside ahead of full", x.story(7, 3, 60, 10), OUTSIDE);
        due(25, "unknown ahead of full", x.story(8, 3, 60, 9), UNKNOWN);
        due(25, "count", x.count(3), 4);
    }

    static void holdsAndKeeps() {
        OneManDesk x = desk();
        due(26, "no lines", x.holds(0, 0), 0);
        due(27, "no lines hold", x.keeps(0, 0), 61);
        due(27, "to day 60", x.keeps(1, 60), 1);
        x.story(1, 0, 5, 8);
        x.story(1, 0, 6, 0);
        x.story(2, 0, 5, 4);
        due(26, "nothing concluded is not 0", x.holds(0, 60), 0);
        x.send(0, 10, 1, 1, 0, 5, 8);
        x.send(0, 20, 1, 2, 0, 5, 4);
        x.send(0, 15, 1, 1, 0, 6, 0);
        int[] days = {9, 10, 14, 15, 19, 20, 60}, due = {0, 1, 1, 3, 3, 7, 7};
        for (int i = 0; i < days.length; i++) due(26, "day " + days[i], x.holds(0, days[i]), due[i]);
        due(27, "not yet", x.keeps(0, 19), 0);
        due(27, "from then on", x.keeps(0, 20), 41);
        due(27, "from the last", x.keeps(0, 60), 1);
        x.send(1, 30, 1, 2, 0, 5, 1);
        due(26, "another, as heavy and less", x.holds(1, 30), 3);
        due(27, "until then", x.keeps(1, 20), 10);
        due(27, "the last of these", x.keeps(1, 29), 1);
        x.send(2, 40, 1, 2, 0, 5, 4);
        due(26, "again", x.holds(0, 40), 7);
        due(27, "one after the other alone", x.keeps(0, 25), 5);
        due(27, "again", x.keeps(0, 40), 21);
        for (int n : new int[] {-1, 2, LEAST, MOST}) {
            due(26, "reader", x.holds(n, 61), UNKNOWN);
            due(27, "reader", x.keeps(n, 61), UNKNOWN);
        }
        for (int n : new int[] {-1, 61, LEAST, MOST}) {
            due(26, "day", x.holds(0, n), OUTSIDE);
            due(27, "from", x.keeps(0, n), OUTSIDE);
        }
    }

    static void draft() {
        OneManDesk x = desk();
        letter(28, x::draft, 10);
        due(28, "count", x.count(4), 10);
        due(28, "they are not sent", x.count(2), 0);
        due(28, "so nobody tells", x.weight(0, 7, 3, 60, 9, 60), 0);
        due(28, "nor slips", x.slips(0), UNKNOWN);
    }

    static void mark() {
        OneManDesk x = desk();
        unknownLetter(29, n -> x.mark(n, 0, 0), 0);
        x.draft(0, 0, 0, 0, 0, 0, 0);
        x.draft(0, 0, 0, 0, 0, 0, 0);
        unknownLetter(29, n -> x.mark(n, 2, 100), 2);
        due(29, "risk", x.mark(1, 0, 99), 0);
        due(29, "cost is another", x.mark(1, 1, 5), 0);
        due(29, "risk then", x.mark(1, 0, 0), 99);
        due(29, "cost then", x.mark(1, 1, 0), 5);
        due(29, "another draft", x.mark(0, 0, 3), 0);
        for (int n : new int[] {-1, 2, LEAST, MOST}) due(29, "what", x.mark(0, n, 0), OUTSIDE);
        for (int n : new int[] {-1, 100, LEAST, MOST}) due(29, "v", x.mark(0, 0, n), OUTSIDE);
        due(29, "unchanged", x.mark(0, 0, 0), 3);
    }

    static void make() {
        OneManDesk x = desk();
        x.story(1, 0, 5, 8);
        due(30, "no drafts", x.make(60), NONE);
        x.draft(0, 5, 1, 1, 0, 5, 8);
        x.draft(1, 5, 1, 1, 0, 5, 8);
        x.draft(2, 7, 1, 1, 0, 5, 8);
        due(30, "not come", x.make(4), NONE);
        due(30, "of several the least number", x.make(5), 1);
        x.mark(0, 0, 2);
        x.mark(1, 0, 1);
        due(30, "the least risk", x.make(5), 2);
        due(30, "one without, come by then", x.make(7), 4);
        due(30, "drafts stay", x.count(4), 3);
        due(30, "cost counts not", x.mark(2, 1, 99), 0);
        due(30, "still", x.make(7), 4);
        x.send(3, 0, 1, 1, 0, 5, 2);
        due(30, "two against one who says less", x.make(7), 6);
        x.send(4, 0, 1, 1, 0, 5, 2);
        due(30, "three against two", x.make(7), 7);
        due(30, "two are too few", x.make(6), NONE);
        x.send(5, 0, 1, 1, 0, 5, 2);
        due(30, "none", x.make(7), NONE);
        x.eyes(0, 0, 0, 60);
        x.draft(5, 0, 1, 0, 0, 0, 9);
        due(30, "a false one makes another's weight less", x.make(7), 15);
        x.story(0, 0, 0, 0);
        due(30, "a line that is known so", x.make(7), 15);
        x.story(0, 0, 1, 1);
        due(30, "a line that is known otherwise", x.make(7), NONE);
        due(30, "not known yet", x.make(0), NONE);
        for (int n : new int[] {-1, 61, LEAST, MOST}) due(30, "day", x.make(n), OUTSIDE);
        OneManDesk y = desk();
        y.story(1, 0, 5, 8);
        y.send(0, 0, 1, 1, 0, 5, 8);
        y.draft(0, 0, 1, 1, 0, 5, 8);
        due(30, "it holds without", y.make(5), 0);
        y.eyes(1, 1, 5, 5);
        due(30, "for reader 0", y.make(5), 0);
        due(30, "reader 1 knows", y.holds(1, 5), 0);
        OneManDesk z = desk();
        z.story(1, 0, 5, 0);
        z.eyes(0, 1, 5, 5);
        due(30, "known so, though nobody tells", z.make(5), 0);
        z.send(0, 5, 1, 1, 0, 5, 4);
        due(30, "known so, whatever is told", z.make(5), 0);
    }

    /** Ten drafts, each needed and each as dear as can be. */
    static void allDrafts() {
        OneManDesk x = text(desk(), "right 1;begin 40;need 49");
        x.table(0);
        x.eyes(0, 0, 0, 60);
        x.story(1, 0, 5, 8);
        for (int d = 0; d < 10; d++) {
            if (d < 9) x.draft(0, d, 1, 0, 0, d, 0);
            else x.draft(0, d, 1, 1, 0, 5, 8);
            x.mark(d, 0, 99);
            x.mark(d, 1, 99);
        }
        due(30, "all ten", x.make(20), 1023);
        due(31, "nine", x.buy(0, 20, 49), 511);
        due(31, "no more", x.buy(0, 20, 50), NONE);
        OneManDesk y = text(desk(), "right 1;begin 40");
        y.table(0);
        y.eyes(0, 0, 0, 60);
        for (int d = 0; d < 10; d++) {
            y.draft(0, d, 1, 0, 0, d, 0);
            y.mark(d, 1, 99);
        }
        due(31, "all ten", y.buy(0, 20, 50), 1023);
        for (int i = 0; i < 24; i++) y.send(1, 60, 2, 7, 3, 60, 9);
        due(31, "beside a full row of letters", y.buy(0, 20, 41), 1);
    }

    static void buy() {
        OneManDesk x = desk();
        x.fact(0, 0, 0, 60, 5, false);
        x.eyes(0, 0, 0, 30);
        x.draft(0, 3, 1, 0, 0, 3, 5);
        x.draft(0, 4, 1, 0, 0, 4, 5);
        x.draft(0, 5, 1, 0, 0, 5, 4);
        x.draft(1, 6, 1, 0, 0, 6, 5);
        x.draft(0, 31, 1, 0, 0, 31, 5);
        due(31, "enough already", x.buy(0, 10, 50), 0);
        due(31, "0", x.buy(0, 0, 0), 0);
        due(31, "of several the least number", x.buy(0, 10, 51), 1);
        x.mark(0, 1, 9);
        x.mark(1, 1, 8);
        due(31, "the least cost", x.buy(0, 10, 60), 2);
        due(31, "risk counts not", x.mark(1, 0, 99), 0);
        due(31, "still", x.buy(0, 10, 60), 2);
        due(31, "come by then", x.buy(0, 3, 60), 1);
        due(31, "both", x.buy(0, 10, 61), 3);
        due(31, "none", x.buy(0, 10, 71), NONE);
        due(31, "no eyes there", x.buy(0, 60, 71), NONE);
        due(31, "another agent", x.buy(1, 10, 60), 8);
        x.send(0, 1, 1, 0, 0, 1, 4);
        due(31, "beside what was sent", x.buy(0, 10, 40), 3);
        text(x, "right 99").table(0);
        due(31, "100", x.buy(0, 10, 100), 2);
        text(x, "late 5").table(0);
        x.post(1, 1);
        due(31, "late ones gain less", x.buy(0, 10, 30), 3);
        due(31, "and no more", x.buy(0, 10, 31), NONE);
        x.post(1, 2);
        due(31, "too late", x.buy(0, 10, 21), NONE);
        due(31, "nothing to gain", x.buy(0, 10, 20), 0);
        OneManDesk y = text(desk(), "wrong 0");
        y.table(0);
        y.eyes(0, 0, 0, 60);
        y.draft(0, 0, 1, 0, 0, 0, 1);
        due(31, "a false one buys nothing", y.buy(0, 5, 51), NONE);
        for (int n : new int[] {-1, 6, LEAST, MOST}) due(31, "agent", x.buy(n, 61, 101), UNKNOWN);
        for (int n : new int[] {-1, 61, LEAST, MOST}) due(31, "day", x.buy(0, n, 0), OUTSIDE);
        for (int n : new int[] {-1, 101, LEAST, MOST}) due(31, "trust", x.buy(0, 0, n), OUTSIDE);
    }

    static void signs() {
        OneManDesk x = desk();
        for (int n : new int[] {-1, 8, LEAST, MOST}) due(32, "place", x.question(61, n, 0, 0), UNKNOWN);
        for (int n : new int[] {-1, 4, LEAST, MOST}) due(32, "kind", x.question(0, 0, n, 61), UNKNOWN);
        for (int n : new int[] {-1, 61, LEAST, MOST}) {
            due(32, "on", x.question(n, 0, 0, 0), OUTSIDE);
            due(32, "day", x.question(0, 0, 0, n), OUTSIDE);
            due(33, "on", x.pay(n, 0), OUTSIDE);
        }
        for (int n : new int[] {-1, 6, LEAST, MOST}) due(33, "agent", x.pay(61, n), UNKNOWN);
        due(33, "nothing yet", x.count(5), 0);
        for (int i = 1; i <= 12; i++) {
            if (i % 2 == 0) due(32, "how many", x.question(60, 7, 3, 60), i);
            else due(33, "how many", x.pay(60, 5), i);
        }
        due(32, "full", x.question(60, 7, 3, 60), FULL);
        due(32, "outside ahead of full", x.question(61, 7, 3, 60), OUTSIDE);
        due(33, "full", x.pay(60, 5), FULL);
        due(33, "unknown ahead of full", x.pay(60, 6), UNKNOWN);
        due(33, "count", x.count(5), 12);
    }

    static void which() {
        OneManDesk x = desk();
        due(34, "no signs", x.which(), 3);
        x.question(5, 1, 0, 5);
        due(34, "both know nothing", x.which(), 3);
        x.eyes(0, 1, 5, 5);
        due(34, "one knew", x.which(), 2);
        x.send(0, 5, 1, 1, 0, 5, 8);
        due(34, "the other concluded", x.which(), 0);
        text(x, "need 99").table(1);
        due(34, "not with that need", x.which(), 2);
        OneManDesk y = desk();
        y.pay(10, 0);
        due(34, "50 is enough", y.which(), 3);
        text(y, "begin 49").table(0);
        due(34, "49 is not", y.which(), 2);
        y.eyes(0, 0, 0, 60);
        y.send(0, 10, 1, 0, 0, 3, 0);
        due(34, "a right one, by then", y.which(), 3);
        y.pay(9, 0);
        due(34, "all signs", y.which(), 2);
        y.question(10, 0, 0, 3);
        due(34, "none", y.which(), 0);
    }

    static void warning() {
        OneManDesk x = desk();
        due(35, "sent", x.warning(0, 30, 0), 27);
        due(35, "in time", x.warning(0, 30, 1), 0);
        due(35, "just", x.warning(0, 3, 0), 0);
        due(35, "just in time", x.warning(0, 3, 1), 0);
        due(35, "at once", x.warning(2, 2, 0), 0);
        due(35, "and late", x.warning(2, 2, 1), 7);
        due(35, "by a quick way", x.warning(1, 60, 0), 60);
        x.post(1, 20);
        due(35, "by a slow way", x.warning(1, 0, 1), 20);
        for (int n : new int[] {-1, 3, LEAST, MOST}) due(35, "way", x.warning(n, 61, 2), UNKNOWN);
        for (int n : new int[] {-1, 61, LEAST, MOST}) due(35, "night", x.warning(0, n, 0), OUTSIDE);
        for (int n : new int[] {-1, 2, LEAST, MOST}) due(35, "what", x.warning(0, 0, n), OUTSIDE);
    }

    static void count() {
        OneManDesk x = desk();
        x.fact(0, 0, 0, 0, 1, false);
        text(x, "ab");
        for (int i = 0; i < 3; i++) x.send(0, 0, 0, 0, 0, 0, 0);
        for (int i = 0; i < 4; i++) x.story(0, 0, 0, 0);
        for (int i = 0; i < 5; i++) x.draft(0, 0, 0, 0, 0, 0, 0);
        for (int i = 0; i < 6; i++) x.pay(0, 0);
        for (int i = 0; i < 3; i++) x.eyes(0, 0, 0, 0);
        for (int i = 0; i < 4; i++) x.eyes(1, 0, 0, 0);
        for (int what = 0; what < 7; what++) due(36, "what " + what, x.count(what), what + 1);
        for (int n : new int[] {-1, 7, LEAST, MOST}) due(36, "what", x.count(n), OUTSIDE);
    }

    public static void main(String[] args) {
        newObject();
        view();
        fact();
        world();
        home();
        write();
        erase();
        fault();
        life();
        table();
        where();
        saw();
        post();
        send();
        right();
        comes();
        slips();
        lacks();
        ill();
        eyes();
        toldByTable();
        trust();
        concluded();
        weight();
        story();
        holdsAndKeeps();
        draft();
        mark();
        make();
        buy();
        allDrafts();
        signs();
        which();
        warning();
        count();
        System.out.println(checks + " checks, " + wrong + " wrong");
        if (wrong != 0) System.exit(1);
    }
}
