import java.nio.file.Files;
import java.nio.file.Path;

/** Each sentence of the document that names a boundary, by its words, with what lies on both sides of it. */
public final class EdgesTest {
    static final int NONE = OneManDesk.NONE, UNKNOWN = OneManDesk.UNKNOWN, OUTSIDE = OneManDesk.OUTSIDE,
        NOT = OneManDesk.NOT, FULL = OneManDesk.FULL;
    static final int LEAST = Integer.MIN_VALUE, MOST = Integer.MAX_VALUE;
    static String document = "", sentence = "";
    static int checks = 0, wrong = 0, sentences = 0;

    /** The words must stand in the document, so that no test outlives them. */
    static void says(String words) {
        sentence = words;
        sentences++;
        if (!document.contains(words)) {
            wrong++;
            System.out.println("the document does not say: " + words);
        }
    }
    static void due(String what, int got, int want) {
        checks++;
        if (got != want) {
            wrong++;
            System.out.println("'" + sentence + "': " + what + " answered " + got + ", due is " + want);
        }
    }

    static OneManDesk desk() { return new OneManDesk(); }
    static OneManDesk text(OneManDesk x, String text) {
        x.erase();
        for (int at = 0; at < text.length(); at += 8) {
            int n = Math.min(8, text.length() - at);
            long bytes = 0;
            for (int i = n - 1; i >= 0; i--) bytes = bytes << 8 | text.charAt(at + i);
            x.write(bytes, n);
        }
        return x;
    }
    static OneManDesk living(OneManDesk x, int agent, String life) {
        text(x, life).life(agent);
        return x;
    }
    static OneManDesk weighing(OneManDesk x, int reader, String table) {
        text(x, table).table(reader);
        return x;
    }
    static void life(String text, int want) { due("a life: " + text, text(desk(), text).fault(0), want); }
    static void table(String text, int want) { due("a table: " + text, text(desk(), text).fault(1), want); }
    static String lines(String line, int n) { return (line + ";").repeat(n - 1) + line; }

    // ---- the world

    static void days() {
        says("60. PLACES are 0 .. 7");
        OneManDesk x = desk();
        x.fact(0, 0, 0, 0, 3, false);
        x.fact(0, 0, 60, 60, 4, false);
        due("day 0", x.world(0, 0, 0), 3);
        due("day 1", x.world(0, 0, 1), 0);
        due("day 59", x.world(0, 0, 59), 0);
        due("day 60", x.world(0, 0, 60), 4);
        for (int n : new int[] {-1, 61, LEAST, MOST}) due("day " + n, x.world(0, 0, n), OUTSIDE);
        for (int n : new int[] {-1, 8, LEAST, MOST}) due("place " + n, x.world(n, 0, 0), UNKNOWN);
        for (int p = 1; p < 8; p++) {
            due("nothing at place " + p, x.world(p, 0, 60), 0);
            due("a fact at place " + p, x.fact(p, 0, 60, 60, p, false), p + 1);
            due("then at place " + p, x.world(p, 0, 60), p);
        }
    }

    static void seen() {
        says("from a PLACE some are SEEN (bits; itself alone at first)");
        OneManDesk x = desk();
        for (int p = 0; p < 8; p++) {
            x.home(0, p);
            due("from place " + p, x.saw(0, 0), 1 << p);
        }
        due("nothing is seen from 7", x.view(7, 0), 128);
        due("not even itself", x.saw(0, 0), 0);
        due("all are seen from 7", x.view(7, 255), 0);
        due("all", x.saw(0, 60), 255);
        for (int n : new int[] {-1, 256, LEAST, MOST}) due("bits " + n, x.view(7, n), OUTSIDE);
        due("still all", x.saw(0, 60), 255);
    }

    static void kinds() {
        says("KINDS are 0 .. 3.");
        OneManDesk x = desk();
        for (int k = 0; k < 4; k++) x.fact(7, k, 0, 60, k + 1, false);
        for (int k = 0; k < 4; k++) due("kind " + k, x.world(7, k, 30), k + 1);
        for (int n : new int[] {-1, 4, LEAST, MOST}) {
            due("kind " + n, x.world(7, n, 30), UNKNOWN);
            due("a fact of kind " + n, x.fact(7, n, 0, 0, 1, false), UNKNOWN);
        }
        due("four facts", x.count(0), 4);
    }

    static void facts() {
        says("FACTS (16 at most, by numbers)");
        OneManDesk x = desk();
        due("none", x.lacks(0, 60), 0);
        for (int i = 0; i < 16; i++) {
            due("number", x.fact(0, 0, i, i, 1, false), i);
            due("by its bit", x.lacks(0, i), (1 << i + 1) - 1);
        }
        due("one too many", x.fact(0, 0, 60, 60, 1, true), FULL);
        due("it is not there", x.world(0, 0, 60), 0);
        due("nor seen", x.ill(0), NONE);
        due("nor lacking", x.lacks(0, 60), 65535);
        due("nor counted", x.count(0), 16);
    }

    static void values() {
        says("there are v (1 .. 9) from a DAY to a DAY, SECRET or not");
        OneManDesk x = desk();
        due("1", x.fact(0, 0, 10, 20, 1, false), 0);
        due("9", x.fact(0, 1, 30, 30, 9, true), 1);
        for (int n : new int[] {0, 10, -1, LEAST, MOST}) due("v " + n, x.fact(0, 0, 10, 20, n, false), OUTSIDE);
        due("to one day ahead of from", x.fact(0, 0, 31, 30, 1, false), OUTSIDE);
        due("to 0, from 60", x.fact(0, 0, 60, 0, 1, false), OUTSIDE);
        int[] days = {9, 10, 20, 21}, due = {0, 1, 1, 0};
        for (int i = 0; i < 4; i++) due("day " + days[i], x.world(0, 0, days[i]), due[i]);
        due("ahead of a single day", x.world(0, 1, 29), 0);
        due("a single day", x.world(0, 1, 30), 9);
        due("behind a single day", x.world(0, 1, 31), 0);
        due("secret", x.ill(0), 30);
        due("two facts", x.count(0), 2);
    }

    static void lastFact() {
        says("v of the last FACT of it; 0 without");
        OneManDesk x = desk();
        due("without", x.world(3, 2, 30), 0);
        for (int i = 0; i < 16; i++) {
            x.fact(3, 2, 20, 40, 1 + i % 9, false);
            due("the last of " + (i + 1), x.world(3, 2, 30), 1 + i % 9);
        }
        due("without, a day ahead", x.world(3, 2, 19), 0);
        due("without, a day behind", x.world(3, 2, 41), 0);
        due("without, another kind", x.world(3, 3, 30), 0);
        due("without, another place", x.world(2, 2, 30), 0);
    }

    static void homes() {
        says("AGENTS are 0 .. 5, each with a HOME (a PLACE; 0 at first) and a LIFE.");
        OneManDesk x = desk();
        for (int a = 0; a < 6; a++) due("at first", x.where(a, 60), 0);
        for (int a = 0; a < 6; a++) due("home", x.home(a, a + 2), 0);
        for (int a = 0; a < 6; a++) due("then", x.where(a, 0), a + 2);
        for (int n : new int[] {-1, 6, LEAST, MOST}) {
            due("agent " + n, x.home(n, 0), UNKNOWN);
            due("where is agent " + n, x.where(n, 0), UNKNOWN);
        }
        for (int n : new int[] {-1, 8, LEAST, MOST}) due("a home at " + n, x.home(5, n), UNKNOWN);
        due("still", x.home(5, 0), 7);
    }

    // ---- texts

    static void bytes() {
        says("THE TEXT is a row of bytes, 160 at most.");
        OneManDesk x = desk();
        for (int i = 1; i < 20; i++) x.write(0x2020202020202020L, 8);
        due("152 and 8", x.write(0x2020202020202020L, 8), 160);
        for (int n = 1; n <= 8; n++) due("160 and " + n, x.write(0, n), FULL);
        due("still 160 blanks", x.fault(0), 160);
        due("erased", x.erase(), 160);
        for (int i = 1; i < 20; i++) x.write(0x2020202020202020L, 8);
        x.write(0x20, 1);
        due("153 and 8", x.write(0, 8), FULL);
        due("still 153", x.count(1), 153);
        due("still blanks", x.fault(0), 153);
        due("153 and 7", x.write(0x78202020202020L, 7), 160);
        due("read to the last byte", x.fault(0), 159);
        due("outside, though it is full", x.write(0, 9), OUTSIDE);
        x.erase();
        text(x, " ".repeat(144) + "at 7 from 0to 60");
        due("a life with the last byte", x.fault(0), NONE);
        due("it is one", x.life(5), 1);
        due("to day 60", x.where(5, 60), 7);
    }

    static void written() {
        says("n (1 .. 8) bytes more of THE TEXT, byte i being bytes >> 8 i & 255: how many it has.");
        OneManDesk x = desk();
        for (int n : new int[] {0, 9, -1, LEAST, MOST}) due("n " + n, x.write(0x2020202020202020L, n), OUTSIDE);
        due("nothing", x.count(1), 0);
        due("1", x.write(0x7878787878787820L, 1), 1);
        due("the first byte alone", x.fault(0), 1);
        due("8", x.write(0x7820202020202020L, 8), 9);
        due("the last byte", x.fault(0), 8);
        x.erase();
        due("a long below 0", x.write(0xff20202020202020L, 8), 8);
        due("byte 255", x.fault(0), 7);
        x.erase();
        due("the least long", x.write(Long.MIN_VALUE, 8), 8);
        due("byte 0 ahead", x.fault(1), 0);
        x.erase();
        due("the greatest long", x.write(Long.MAX_VALUE, 1), 1);
        due("one byte", x.fault(1), 0);
        x.erase();
        due("bytes of 'neeed 9x', but the last", x.write(0x783920646565656eL, 7), 7);
        due("'neeed 9' is no table", x.fault(1), 0);
        x.erase();
        due("bytes of 'need 99x', but the last", x.write(0x783939206465656eL, 7), 7);
        due("'need 99' is one", x.fault(1), NONE);
    }

    static void erased() {
        says("THE TEXT is empty: how many bytes it had.");
        OneManDesk x = desk();
        due("nothing", x.erase(), 0);
        x.write(0, 1);
        due("one", x.erase(), 1);
        due("nothing again", x.erase(), 0);
        due("empty", x.count(1), 0);
        due("an empty life", x.fault(0), 0);
        due("an empty table", x.fault(1), 0);
        due("no life", x.life(0), NOT);
        due("no table", x.table(0), NOT);
    }

    static void lifeLines() {
        says("LINES with ; (59) between, 8 at most, each at P from D to E.");
        life("at 1 from 2 to 3", NONE);
        String eight = lines("at 1 from 2 to 3", 8);
        life(lines("at 1 from 2 to 3", 7), NONE);
        life(eight, NONE);
        life(eight + " ", NONE);
        life(eight + ";", 135);
        life(eight + "  ;", 137);
        life(eight + ";at 1 from 2 to 3", 135);
        life(eight + " x", 136);
        life("at 1 from 2 to 3:at 1 from 2 to 3", 16);
        life("at 1 from 2 to 3<at 1 from 2 to 3", 16);
        life("at 1 from 2 to 3 at 1 from 2 to 3", 17);
        OneManDesk x = desk();
        due("one line", text(x, "at 1 from 2 to 3").life(0), 1);
        due("eight lines", text(x, lines("at 1 from 2 to 3", 7) + ";at 7 from 60 to 60").life(0), 8);
        due("the eighth", x.where(0, 60), 7);
        due("nine are none", text(x, lines("at1from2to3", 9)).life(0), NOT);
        due("the eighth stays", x.where(0, 60), 7);
        due("the text stays", x.count(1), 107);
    }

    static void tableLines() {
        says("LINES with ; between, 8 at most, each begin N, right N, wrong N, late N, alike N, or need N.");
        String eight = "begin 1;right 2;wrong 3;late 4;alike 5;need 6;begin 7;right 8";
        table(eight, NONE);
        table(eight + ";", 61);
        table(eight + ";wrong 9", 61);
        table(eight + " ", NONE);
        table("begin 1:right 2", 7);
        table("begin 1<right 2", 7);
        table("begin 1 right 2", 8);
        table("ne ed 1", 0);
        table("need need 1", 5);
        table("1 need", 0);
        table("needs 1", 0);
        table("nee 1", 0);
        OneManDesk x = desk();
        due("one line", text(x, "need 1").table(1), 1);
        due("eight lines", text(x, eight).table(1), 8);
        int[] due = {7, 8, 3, 4, 5, 6};
        for (int what = 0; what < 6; what++) due("word " + what, x.told(1, what), due[what]);
        due("nine are none", text(x, eight + ";need 9").table(1), NOT);
        due("the table stays", x.told(1, 5), 6);
        due("the text stays", x.count(1), 68);
    }

    static void placeNumbers() {
        says("P 0 .. 7, D, E 0 .. 60, E not below D, N 0 .. 99");
        for (String p : new String[] {"0", "7", "00", "07"}) life("at " + p + " from 2 to 3", NONE);
        for (String p : new String[] {"8", "9", "08", "10", "70", "99", "000", "007", "4294967296"}) life("at " + p + " from 2 to 3", 3);
        for (String d : new String[] {"0", "00", "60"}) life("at 1 from " + d + " to 60", NONE);
        for (String d : new String[] {"61", "62", "70", "99", "000", "060", "600"}) life("at 1 from " + d + " to 60", 10);
        for (String e : new String[] {"0", "00", "1", "59", "60"}) life("at 1 from 0 to " + e, NONE);
        for (String e : new String[] {"61", "99", "000", "060", "4294967296"}) life("at 1 from 0 to " + e, 15);
        life("at 1 from 1 to 0", 15);
        life("at 1 from 60 to 60", NONE);
        life("at 1 from 60 to 59", 16);
        life("at 1 from 9 to 9", NONE);
        life("at 1 from 10 to 9", 16);
        life("at 1 from 10 to 010", 16);
        for (String word : new String[] {"begin", "right", "wrong", "late", "alike", "need"}) {
            for (String n : new String[] {"0", "00", "9", "09", "10", "99"}) table(word + " " + n, NONE);
            for (String n : new String[] {"100", "000", "099", "999", "4294967296"}) table(word + " " + n, word.length() + 1);
            table(word + " -1", word.length() + 1);
        }
    }

    static void numbersRead() {
        says("numbers of 1 or 2 digits");
        OneManDesk x = desk();
        text(x, "begin 00;right 09;wrong 10;late 99;alike 7;need 07").table(0);
        int[] due = {0, 9, 10, 99, 7, 7};
        for (int what = 0; what < 6; what++) due("word " + what, x.told(0, what), due[what]);
        living(x, 0, "at 07 from 09 to 10");
        int[] days = {8, 9, 10, 11}, at = {0, 7, 7, 0};
        for (int i = 0; i < 4; i++) due("day " + days[i], x.where(0, days[i]), at[i]);
        table("need 1 2", 7);
        table("need 1 0", 7);
    }

    static void signs() {
        says("small letters a .. z, numbers of 1 or 2 digits, blanks (32) between");
        life("`at 1 from 2 to 3", 0);
        life("{at 1 from 2 to 3", 0);
        life("at`1 from 2 to 3", 2);
        life("at{1 from 2 to 3", 2);
        life("atz1 from 2 to 3", 0);
        life("ata1 from 2 to 3", 0);
        life("at/1 from 2 to 3", 2);
        life("at 1/from 2 to 3", 4);
        life("at 1:from 2 to 3", 4);
        life("AT 1 from 2 to 3", 0);
        life("at 1 From 2 to 3", 5);
        for (char c : new char[] {0, 9, 10, 13, 31, 33, 127, 128, 160, 255}) {
            life("at" + c + "1 from 2 to 3", 2);
            life("at 1 from 2 to 3" + c, 16);
            life(c + "at 1 from 2 to 3", 0);
        }
        life("at1from2to3", NONE);
        life("  at  1  from  2  to  3  ", NONE);
        life(" at1 from2 to3 ;at1from2to3", NONE);
        table("need1;late2", NONE);
        table("  need  1  ;  late  2  ", NONE);
    }

    static void firstToken() {
        says("A FAULT is at the first TOKEN (a row of letters, a row of digits, any other byte) that cannot stand there");
        String[] tokens = {"at", "1", "from", "22", "to", "33", ";", "at", "4", "from", "5", "to", "6"};
        String[] strangers = {"x", "atat", "444", ";;", "?", "need", "at", "99"};
        for (String stranger : strangers) {
            String ahead = "";
            for (String token : tokens) {
                if (!stranger.equals(token)) life(ahead + stranger + " ; at 1", ahead.length() + (stranger.equals(";;") && token.equals(";") ? 1 : 0));
                ahead += token + " ";
            }
        }
        for (int missing = 0; missing < tokens.length - 1; missing++) {
            String ahead = "", behind = "";
            for (int i = 0; i < tokens.length; i++) {
                if (i < missing) ahead += tokens[i] + " ";
                if (i > missing) behind += tokens[i] + " ";
            }
            life(ahead + behind, ahead.length());
        }
        life("at 1 from 2 to 3 4", 17);
        life("at 1 from 2 to 3 x", 17);
        life("at 8 from 99 to x", 3);
        life("at at 1 from", 3);
        table("begin 1 ; begin 2 3", 18);
        table("begin begin", 6);
        table("begin ; right 1", 6);
        table("1 ; right 1", 0);
        table("need 100 ; x", 5);
        table("; need 1", 0);
        table("need 1 ;; need 2", 8);
    }

    static void tooSoon() {
        says("a number out of its bounds also, or at the end, if it comes too soon.");
        String[] tokens = {"at ", "1 ", "from ", "2 ", "to ", "3 ", "; ", "at ", "4 ", "from ", "5 ", "to "};
        String text = "";
        for (int i = 0; i < tokens.length; i++) {
            life(text, i == 6 ? NONE : text.length());
            life(text.trim(), i == 6 ? NONE : text.trim().length());
            text += tokens[i];
        }
        life(text, text.length());
        String table = "";
        for (String token : new String[] {"", "need ", "1 ", "; ", "late "}) {
            table += token;
            table(table, token.equals("1 ") ? NONE : table.length());
            table(table.trim(), token.equals("1 ") ? NONE : table.trim().length());
        }
        life(" ".repeat(160), 160);
        table(" ".repeat(160), 160);
        life(" ".repeat(158) + "at", 160);
        table(" ".repeat(156) + "need", 160);
        life(lines("at 1 from 2 to 3", 7) + ";", 119);
    }

    static void lastLine() {
        says("An AGENT is on a DAY at the PLACE of the last LINE of its LIFE in which the DAY is; else at its HOME.");
        OneManDesk x = living(desk(), 3, "at 1 from 10 to 20; at 2 from 20 to 30; at 3 from 12 to 12; at 4 from 0 to 0; at 5 from 60 to 60");
        x.home(3, 7);
        int[] days = {0, 1, 9, 10, 11, 12, 13, 19, 20, 30, 31, 59, 60}, due = {4, 7, 7, 1, 1, 3, 1, 1, 2, 2, 7, 7, 5};
        for (int i = 0; i < days.length; i++) due("day " + days[i], x.where(3, days[i]), due[i]);
        for (int n : new int[] {-1, 61, LEAST, MOST}) due("day " + n, x.where(3, n), OUTSIDE);
        due("another agent is at home", x.where(2, 12), 0);
        living(x, 3, lines("at 1 from 0 to 60", 7) + ";at 6 from 0 to 60");
        due("the last of eight", x.where(3, 30), 6);
        living(x, 3, "at 0 from 5 to 5");
        due("a shorter life", x.where(3, 5), 0);
        due("leaves nothing of a longer one", x.where(3, 6), 7);
    }

    static void sawPlaces() {
        says("It SAW a PLACE on a DAY, if that is SEEN from where it was.");
        OneManDesk x = living(desk(), 0, "at 7 from 10 to 20");
        x.view(7, 0x81);
        int[] days = {9, 10, 20, 21}, due = {1, 0x81, 0x81, 1};
        for (int i = 0; i < 4; i++) due("day " + days[i], x.saw(0, days[i]), due[i]);
        for (int n : new int[] {-1, 61, LEAST, MOST}) due("day " + n, x.saw(0, n), OUTSIDE);
        for (int n : new int[] {-1, 6, LEAST, MOST}) due("agent " + n, x.saw(n, 0), UNKNOWN);
    }

    // ---- letters

    static void letters() {
        says("LETTERS are numbered from 0, 24 at most");
        OneManDesk x = desk();
        due("none", x.right(0), UNKNOWN);
        for (int i = 0; i < 24; i++) {
            due("number", x.send(i % 6, 0, 1, 7, 3, i, 1 + i % 9), i);
            due("it is there", x.comes(i), 0);
            due("the next is not", x.comes(i + 1), UNKNOWN);
        }
        due("one too many", x.send(0, 0, 1, 6, 3, 30, 9), FULL);
        due("nobody tells it", x.weight(0, 6, 3, 30, 9, 60), 0);
        due("nor counts it", x.count(2), 24);
        due("the last is told", x.concluded(0, 7, 3, 23, 60), 6);
        for (int n : new int[] {-1, 24, LEAST, MOST}) {
            due("letter " + n, x.right(n), UNKNOWN);
            due("letter " + n, x.comes(n), UNKNOWN);
            due("letter " + n, x.slips(n), UNKNOWN);
        }
    }

    static void waysAndValues() {
        says("of an AGENT, sent on a DAY, by a WAY (0 .. 2), telling that at a PLACE, of a KIND, on a DAY there were v (0 .. 9).");
        OneManDesk x = desk();
        due("all least", x.send(0, 0, 0, 0, 0, 0, 0), 0);
        due("all most", x.send(5, 60, 2, 7, 3, 60, 9), 1);
        due("0 is right", x.right(0), 1);
        due("9 is not", x.right(1), 0);
        due("the last way", x.comes(1), 69);
        for (int n : new int[] {-1, 3, LEAST, MOST}) due("way " + n, x.send(0, 0, n, 0, 0, 0, 0), UNKNOWN);
        for (int n : new int[] {-1, 10, LEAST, MOST}) due("v " + n, x.send(0, 0, 0, 0, 0, 0, n), OUTSIDE);
        for (int n : new int[] {-1, 61, LEAST, MOST}) {
            due("sent on " + n, x.send(0, n, 0, 0, 0, 0, 0), OUTSIDE);
            due("of day " + n, x.send(0, 0, 0, 0, 0, n, 0), OUTSIDE);
        }
        due("two letters", x.count(2), 2);
    }

    static void posts() {
        says("They COME as many DAYS behind as the POST of the WAY takes (0 .. 20; 3, 0, 9 at first).");
        OneManDesk x = desk();
        for (int w = 0; w < 3; w++) x.send(0, 10, w, 0, 0, 0, 0);
        due("way 0", x.comes(0), 13);
        due("way 1", x.comes(1), 10);
        due("way 2", x.comes(2), 19);
        due("20", x.post(0, 20), 3);
        due("0", x.post(2, 0), 9);
        for (int n : new int[] {-1, 21, LEAST, MOST}) due("post of " + n, x.post(1, n), OUTSIDE);
        for (int n : new int[] {-1, 3, LEAST, MOST}) due("way " + n, x.post(n, 5), UNKNOWN);
        due("way 0 then", x.comes(0), 30);
        due("way 1 then", x.comes(1), 10);
        due("way 2 then", x.comes(2), 10);
    }

    static void comeBehind() {
        says("The DAY on which it COMES (it may be behind 60).");
        OneManDesk x = desk();
        x.post(0, 20);
        x.send(0, 40, 0, 1, 0, 5, 4);
        x.send(0, 41, 0, 2, 0, 5, 4);
        x.send(0, 60, 0, 3, 0, 5, 4);
        x.send(0, 60, 1, 4, 0, 5, 4);
        int[] comes = {60, 61, 80, 60}, concluded = {4, NONE, NONE, 4};
        for (int i = 0; i < 4; i++) {
            due("letter " + i, x.comes(i), comes[i]);
            due("by day 60, letter " + i, x.concluded(0, i + 1, 0, 5, 60), concluded[i]);
            due("by day 59, letter " + i, x.concluded(0, i + 1, 0, 5, 59), NONE);
        }
    }

    static void rightOnes() {
        says("RIGHT is one, if THE WORLD is so.");
        OneManDesk x = desk();
        x.fact(1, 0, 10, 20, 9, false);
        int[] days = {9, 10, 20, 21}, nine = {0, 1, 1, 0};
        for (int i = 0; i < 4; i++) {
            due("number", x.send(0, 0, 0, 1, 0, days[i], 9), 2 * i);
            x.send(0, 0, 0, 1, 0, days[i], 0);
            due("9 on day " + days[i], x.right(2 * i), nine[i]);
            due("0 on day " + days[i], x.right(2 * i + 1), 1 - nine[i]);
        }
    }

    static void slipsAhead() {
        says("2 it tells of a DAY behind that on which it was sent");
        OneManDesk x = desk();
        int[] sent = {30, 30, 30, 0, 0, 59, 60}, told = {29, 30, 31, 0, 60, 60, 60}, due = {0, 0, 2, 0, 2, 2, 0};
        for (int i = 0; i < due.length; i++) {
            x.send(0, sent[i], 2, 0, 0, told[i], 1);
            due("sent on " + sent[i] + " of " + told[i], x.slips(i), due[i]);
        }
    }

    static void slipsUnseen() {
        says("1 its AGENT did not see that PLACE on that DAY");
        OneManDesk x = living(desk(), 0, "at 7 from 10 to 20");
        int[] days = {9, 10, 20, 21}, due = {1, 0, 0, 1};
        for (int i = 0; i < 4; i++) {
            x.send(0, 60, 0, 7, 0, days[i], 1);
            due("of day " + days[i], x.slips(i), due[i]);
        }
    }

    static void slipsUnlike() {
        says("4 another LETTER of the AGENT, 8 one of another AGENT, tells an unlike v of that PLACE, KIND and DAY; together.");
        OneManDesk x = desk();
        x.send(0, 60, 0, 0, 0, 30, 5);
        for (int i = 1; i < 22; i++) x.send(i % 6, 60, 0, 0, 0, 30, 5);
        due("all alike", x.slips(0), 0);
        x.send(0, 60, 0, 0, 0, 31, 6);
        x.send(0, 60, 0, 0, 0, 30, 6);
        due("the last one, of its own", x.slips(0), 4);
        due("the last one, of another", x.slips(1), 8);
        due("both, for the last", x.slips(23), 12);
        due("of another day", x.slips(22), 0);
        OneManDesk y = desk();
        y.send(0, 29, 0, 1, 0, 30, 0);
        y.send(0, 29, 0, 1, 0, 30, 9);
        y.send(1, 29, 0, 1, 0, 30, 9);
        due("all together", y.slips(0), 15);
        due("not unlike the other", y.slips(1), 7);
        due("unlike the other alone", y.slips(2), 11);
    }

    static void lacksSeen() {
        says("FACTS of which it SAW the PLACE on some DAY, not behind that one, of those from which to which it is told");
        OneManDesk x = living(desk(), 0, "at 1 from 9 to 9; at 2 from 10 to 10; at 3 from 20 to 20; at 4 from 21 to 21; at 5 from 60 to 60");
        for (int p = 1; p <= 4; p++) x.fact(p, 0, 10, 20, 1, false);
        x.fact(5, 0, 0, 60, 1, false);
        x.fact(5, 1, 60, 60, 1, false);
        x.fact(5, 2, 0, 59, 1, false);
        int[] days = {0, 9, 10, 19, 20, 21, 59, 60}, due = {0, 0, 2, 2, 6, 6, 6, 54};
        for (int i = 0; i < days.length; i++) due("by day " + days[i], x.lacks(0, days[i]), due[i]);
        due("an agent who saw none", x.lacks(1, 60), 0);
        for (int n : new int[] {-1, 61, LEAST, MOST}) due("by day " + n, x.lacks(0, n), OUTSIDE);
        for (int n : new int[] {-1, 6, LEAST, MOST}) due("agent " + n, x.lacks(n, 60), UNKNOWN);
    }

    static void lacksTold() {
        says("but told nothing by LETTERS sent by then (of that PLACE and KIND, of a DAY of the FACT)");
        int[] told = {9, 10, 20, 21}, lacking = {1, 0, 0, 1};
        for (int i = 0; i < 4; i++) {
            OneManDesk x = desk();
            x.fact(0, 0, 10, 20, 1, false);
            x.send(0, 30, 2, 0, 0, told[i], 0);
            due("told of day " + told[i] + ", a day too early", x.lacks(0, 29), 1);
            due("told of day " + told[i], x.lacks(0, 30), lacking[i]);
            due("told of day " + told[i], x.lacks(0, 60), lacking[i]);
        }
        OneManDesk full = desk();
        for (int i = 0; i < 16; i++) full.fact(0, i % 4, i, i, 1, false);
        for (int i = 0; i < 24; i++) full.send(0, 60, 2, 0, 3, i < 23 ? 60 : 15, 1);
        due("the last fact by the last letter", full.lacks(0, 60), 32767);
        due("not on the day ahead", full.lacks(0, 59), 65535);
    }

    static void illOn() {
        says("ILL: the first DAY (0 .. 60) on which it SAW the PLACE of a SECRET FACT of whose DAYS that is one (whatever a later FACT tells); none.");
        OneManDesk x = desk();
        due("no facts", x.ill(0), NONE);
        x.fact(0, 0, 60, 60, 1, false);
        due("not secret", x.ill(0), NONE);
        x.fact(0, 0, 60, 60, 1, true);
        due("the last day", x.ill(0), 60);
        x.fact(0, 0, 60, 60, 2, false);
        due("whatever a later one tells", x.ill(0), 60);
        x.fact(7, 3, 10, 20, 1, true);
        due("another agent", x.ill(5), 60);
        living(x, 5, "at 7 from 9 to 9; at 7 from 21 to 21");
        due("a day ahead and a day behind", x.ill(5), 60);
        living(x, 5, "at 7 from 20 to 20");
        due("the last of its days", x.ill(5), 20);
        living(x, 5, "at 7 from 20 to 20; at 7 from 10 to 10");
        due("the first of its days", x.ill(5), 10);
        x.fact(0, 0, 0, 0, 1, true);
        due("day 0", x.ill(5), 0);
        OneManDesk y = desk();
        for (int i = 0; i < 15; i++) y.fact(0, 0, 30, 30, 1, i == 0);
        due("by the first fact", y.ill(0), 30);
        y.fact(0, 0, 29, 29, 1, true);
        due("by the last fact", y.ill(0), 29);
        for (int n : new int[] {-1, 6, LEAST, MOST}) due("agent " + n, x.ill(n), UNKNOWN);
    }

    // ---- readers

    static void tables() {
        says("each with a TABLE (the last LINE of each word counts; without: begin 50, right 10, wrong 30, late 0, alike 0, need 40)");
        int[] plain = {50, 10, 30, 0, 0, 40};
        String[] words = {"begin", "right", "wrong", "late", "alike", "need"};
        OneManDesk x = desk();
        for (int r = 0; r < 2; r++) for (int what = 0; what < 6; what++) due("at first", x.told(r, what), plain[what]);
        for (int word = 0; word < 6; word++) {
            weighing(x, 1, lines(words[word] + " 1", 7) + ";" + words[word] + " 99");
            for (int what = 0; what < 6; what++) due(words[word] + ", word " + what, x.told(1, what), what == word ? 99 : plain[what]);
        }
        for (int what = 0; what < 6; what++) due("the other reader", x.told(0, what), plain[what]);
        for (int n : new int[] {-1, 6, LEAST, MOST}) due("word " + n, x.told(1, n), OUTSIDE);
        for (int n : new int[] {-1, 2, LEAST, MOST}) {
            due("reader " + n, x.told(n, 0), UNKNOWN);
            due("a table of reader " + n, text(x, "need 1").table(n), UNKNOWN);
            due("the text stays", x.count(1), 6);
        }
    }

    static void eyesHad() {
        says("EYES: PLACES, from a DAY to a DAY (6 of each at most).");
        OneManDesk x = desk();
        for (int r = 0; r < 2; r++) {
            for (int i = 1; i <= 6; i++) due("how many", x.eyes(r, i, 0, 60), i);
            due("one too many", x.eyes(r, 7, 0, 60), FULL);
            due("it sees nothing", x.concluded(r, 7, 0, 0, 60), NONE);
            due("the sixth does", x.concluded(r, 6, 0, 0, 60), 0);
            due("both", x.count(6), 6 * r + 6);
        }
        OneManDesk y = desk();
        due("to one day ahead of from", y.eyes(0, 0, 31, 30), OUTSIDE);
        due("a single day", y.eyes(0, 0, 30, 30), 1);
        due("to 0, from 60", y.eyes(0, 0, 60, 0), OUTSIDE);
        for (int n : new int[] {-1, 61, LEAST, MOST}) {
            due("from " + n, y.eyes(0, 0, n, 60), OUTSIDE);
            due("to " + n, y.eyes(0, 0, 0, n), OUTSIDE);
        }
        for (int n : new int[] {-1, 2, LEAST, MOST}) due("reader " + n, y.eyes(n, 0, 0, 0), UNKNOWN);
        due("one", y.count(6), 1);
    }

    static void knows() {
        says("A READER KNOWS by a DAY D what THE WORLD is at a PLACE on a DAY not behind D on which it had EYES there.");
        OneManDesk x = desk();
        x.fact(1, 0, 0, 60, 5, false);
        x.eyes(0, 1, 10, 20);
        int[] days = {9, 10, 20, 21}, due = {NONE, 5, 5, NONE};
        for (int i = 0; i < 4; i++) {
            due("day " + days[i] + " by 60", x.concluded(0, 1, 0, days[i], 60), due[i]);
            due("day " + days[i] + " by the same day", x.concluded(0, 1, 0, days[i], days[i]), due[i]);
            due("day " + days[i] + " by the day ahead", x.concluded(0, 1, 0, days[i], days[i] - 1), NONE);
        }
        due("of another kind there was nothing", x.concluded(0, 1, 3, 10, 10), 0);
        due("of another place it knows nothing", x.concluded(0, 2, 0, 10, 60), NONE);
        x.eyes(1, 7, 60, 60);
        due("day 60", x.concluded(1, 7, 0, 60, 60), 0);
        x.eyes(1, 7, 0, 0);
        due("day 0", x.concluded(1, 7, 0, 0, 0), 0);
    }

    static void trustBy() {
        says("of each LETTER of it that CAME by D and of which the READER KNOWS by D how it is");
        OneManDesk x = desk();
        x.eyes(0, 1, 0, 60);
        x.send(0, 10, 0, 1, 0, 5, 0);
        x.send(1, 10, 1, 1, 0, 15, 0);
        x.send(2, 10, 0, 1, 0, 5, 1);
        int[] days = {9, 12, 13, 14, 15, 60}, came = {50, 50, 60, 60, 60, 60}, known = {50, 50, 50, 50, 60, 60}, false1 = {50, 50, 20, 20, 20, 20};
        for (int i = 0; i < days.length; i++) {
            due("it came on 13, day " + days[i], x.trust(0, 0, days[i]), came[i]);
            due("it is known on 15, day " + days[i], x.trust(0, 1, days[i]), known[i]);
            due("a false one, day " + days[i], x.trust(0, 2, days[i]), false1[i]);
            due("no letter, day " + days[i], x.trust(0, 3, days[i]), 50);
        }
        due("day 0", x.trust(0, 0, 0), 50);
        for (int n : new int[] {-1, 61, LEAST, MOST}) due("day " + n, x.trust(0, 0, n), OUTSIDE);
    }

    static void lateOnes() {
        says("(these 0 at least; 0 at least, too, what comes of it)");
        OneManDesk x = weighing(desk(), 0, "late 5;right 10");
        x.eyes(0, 1, 0, 60);
        int[] told = {60, 31, 30, 29, 28, 27}, due = {60, 60, 60, 55, 50, 50};
        for (int i = 0; i < 6; i++) {
            x.send(i, 30, 1, 1, 0, told[i], 0);
            due("came on 30, told of " + told[i], x.trust(0, i, 60), due[i]);
        }
        OneManDesk y = weighing(desk(), 0, "late 99;right 99");
        y.eyes(0, 1, 0, 60);
        y.send(0, 60, 1, 1, 0, 0, 0);
        y.send(1, 0, 1, 1, 0, 60, 0);
        y.send(2, 1, 1, 1, 0, 0, 0);
        due("60 days late", y.trust(0, 0, 60), 50);
        due("60 days early", y.trust(0, 1, 60), 100);
        due("it takes all", y.trust(0, 2, 60), 50);
        weighing(y, 0, "late 98;right 99");
        due("it takes all but one", y.trust(0, 2, 60), 51);
    }

    static void trustBounds() {
        says("all together 0 at least, 100 at most.");
        OneManDesk x = desk();
        x.eyes(0, 1, 0, 60);
        for (int i = 0; i < 12; i++) {
            x.send(0, 0, 1, 1, 0, 0, 0);
            x.send(1, 0, 1, 1, 0, 0, 1);
        }
        String[] rights = {"begin 99;right 0", "begin 88;right 1", "begin 87;right 1", "begin 89;right 1", "begin 99;right 99"};
        int[] due = {99, 100, 99, 100, 100};
        for (int i = 0; i < 5; i++) due(rights[i], weighing(x, 0, rights[i]).trust(0, 0, 60), due[i]);
        String[] wrongs = {"begin 0;wrong 0", "begin 12;wrong 1", "begin 13;wrong 1", "begin 11;wrong 1", "begin 99;wrong 99"};
        int[] least = {0, 0, 1, 0, 0};
        for (int i = 0; i < 5; i++) due(wrongs[i], weighing(x, 0, wrongs[i]).trust(0, 1, 60), least[i]);
        OneManDesk y = weighing(desk(), 0, "begin 90;right 30;wrong 25");
        y.eyes(0, 1, 0, 60);
        y.send(0, 0, 1, 1, 0, 0, 0);
        y.send(0, 1, 1, 1, 0, 0, 1);
        due("bounded when all is together", y.trust(0, 0, 60), 95);
        y.send(1, 0, 1, 1, 0, 0, 1);
        y.send(1, 1, 1, 1, 0, 0, 0);
        weighing(y, 0, "begin 10;right 20;wrong 25");
        due("and below", y.trust(0, 1, 60), 5);
    }

    static void weights() {
        says("TRUST in each AGENT that tells so, once each, together, and alike for each beyond the first");
        OneManDesk x = weighing(desk(), 0, "begin 99;right 99;alike 99");
        due("nobody", x.weight(0, 0, 0, 0, 7, 60), 0);
        for (int a = 0; a < 6; a++) {
            x.send(a, 0, 1, 0, 0, 0, 7);
            x.send(a, 0, 1, 0, 0, 0, 7);
            due("tellers: " + (a + 1), x.weight(0, 0, 0, 0, 7, 60), 99 * (a + 1) + 99 * a);
        }
        due("another v", x.weight(0, 0, 0, 0, 6, 60), 0);
        x.fact(0, 0, 0, 0, 7, false);
        x.eyes(0, 0, 0, 0);
        due("the greatest", x.weight(0, 0, 0, 0, 7, 60), 600 + 5 * 99);
        OneManDesk y = desk();
        for (int v : new int[] {0, 9}) {
            y.send(0, 10, 0, 0, 0, 0, v);
            due("v " + v + ", a day ahead", y.weight(0, 0, 0, 0, v, 12), 0);
            due("v " + v, y.weight(0, 0, 0, 0, v, 13), 50);
        }
        for (int n : new int[] {-1, 10, LEAST, MOST}) due("v " + n, y.weight(0, 0, 0, 0, n, 60), OUTSIDE);
        weighing(y, 0, "begin 0;alike 9");
        due("told without trust", y.weight(0, 0, 0, 0, 9, 60), 0);
        y.send(1, 10, 0, 0, 0, 0, 9);
        due("told by two without trust", y.weight(0, 0, 0, 0, 9, 60), 9);
    }

    static void ofSeveral() {
        says("of several the least, if that is need or more; none else.");
        OneManDesk x = desk();
        due("none", x.concluded(0, 0, 0, 0, 60), NONE);
        x.send(0, 0, 1, 0, 0, 0, 9);
        due("one alone", x.concluded(0, 0, 0, 0, 60), 9);
        x.send(1, 0, 1, 0, 0, 0, 8);
        due("two alike in weight", x.concluded(0, 0, 0, 0, 60), 8);
        x.send(2, 0, 1, 0, 0, 0, 0);
        due("three", x.concluded(0, 0, 0, 0, 60), 0);
        x.send(3, 0, 1, 0, 0, 0, 9);
        due("a greater weight", x.concluded(0, 0, 0, 0, 60), 9);
        OneManDesk y = desk();
        y.send(0, 0, 1, 0, 0, 0, 3);
        String[] needs = {"need 49", "need 50", "need 51", "need 0;begin 0", "need 1;begin 0", "need 99;begin 99"};
        int[] due = {3, 3, NONE, 3, NONE, 3};
        for (int i = 0; i < needs.length; i++) due(needs[i], weighing(y, 0, needs[i]).concluded(0, 0, 0, 0, 60), due[i]);
        due("nobody tells, need 0", weighing(y, 0, "need 0").concluded(0, 0, 0, 1, 60), NONE);
        y.send(0, 10, 0, 0, 0, 2, 3);
        due("not come, need 0", y.concluded(0, 0, 0, 2, 12), NONE);
        due("come, need 0", y.concluded(0, 0, 0, 2, 13), 3);
    }

    static void storyLines() {
        says("THE STORY has LINES (4 at most): PLACE, KIND, DAY, v.");
        OneManDesk x = desk();
        due("none", x.holds(0, 60), 0);
        for (int i = 0; i < 4; i++) {
            due("how many", x.story(7, 3, i == 3 ? 60 : i, i == 3 ? 9 : 0), i + 1);
            x.send(0, 0, 1, 7, 3, i == 3 ? 60 : i, i == 3 ? 9 : 0);
            due("by bits", x.holds(0, 60), (1 << i + 1) - 1);
        }
        due("one too many", x.story(7, 3, 50, 5), FULL);
        due("it is not in it", x.keeps(0, 60), 1);
        due("nor counted", x.count(3), 4);
        OneManDesk y = desk();
        for (int n : new int[] {-1, 10, LEAST, MOST}) due("v " + n, y.story(0, 0, 0, n), OUTSIDE);
        for (int n : new int[] {-1, 61, LEAST, MOST}) due("day " + n, y.story(0, 0, n, 0), OUTSIDE);
        due("no line", y.count(3), 0);
    }

    static void holdsAll() {
        says("It HOLDS for a READER on a DAY, if all are CONCLUDED so on it.");
        OneManDesk x = desk();
        for (int i = 0; i < 4; i++) {
            x.story(i, 0, 0, 5);
            x.send(0, 10 * i, 1, i, 0, 0, 5);
        }
        int[] days = {0, 9, 10, 29, 30, 60}, bits = {1, 1, 3, 7, 15, 15}, keeps = {0, 0, 0, 0, 31, 1};
        for (int i = 0; i < days.length; i++) {
            due("day " + days[i], x.holds(0, days[i]), bits[i]);
            due("from day " + days[i], x.keeps(0, days[i]), keeps[i]);
        }
        x.story(0, 0, 0, 5);
        due("still four", x.holds(1, 60), 15);
        OneManDesk y = desk();
        y.story(0, 0, 0, 0);
        due("none concluded is not 0", y.holds(0, 60), 0);
    }

    static void keepsOn() {
        says("KEEPS from a DAY on: how many DAYS one after the other, that one with them, it HOLDS, to DAY 60.");
        OneManDesk x = desk();
        due("no line, from 0", x.keeps(0, 0), 61);
        due("no line, from 59", x.keeps(0, 59), 2);
        due("no line, from 60", x.keeps(0, 60), 1);
        x.story(1, 0, 20, 5);
        x.send(0, 10, 1, 1, 0, 20, 5);
        int[] days = {0, 9, 10, 11, 59, 60}, due = {0, 0, 51, 50, 2, 1};
        for (int i = 0; i < days.length; i++) due("from " + days[i], x.keeps(0, days[i]), due[i]);
        x.eyes(0, 1, 20, 20);
        int[] until = {10, 10, 9, 1, 0, 0}, from = {10, 10, 11, 19, 20, 60};
        for (int i = 0; i < from.length; i++) due("it is plain on 20, from " + from[i], x.keeps(0, from[i]), until[i]);
        due("the other reader", x.keeps(1, 10), 51);
        for (int n : new int[] {-1, 61, LEAST, MOST}) due("from " + n, x.keeps(0, n), OUTSIDE);
        for (int n : new int[] {-1, 2, LEAST, MOST}) due("reader " + n, x.keeps(n, 0), UNKNOWN);
        OneManDesk y = desk();
        y.story(1, 0, 20, 5);
        y.send(0, 60, 1, 1, 0, 20, 5);
        due("on day 60 alone", y.keeps(0, 60), 1);
        due("not from 59", y.keeps(0, 59), 0);
    }

    // ---- drafts, signs

    static void drafts() {
        says("DRAFTS (10 at most) are as LETTERS, each with a RISK and a COST (0 .. 99); they are not sent.");
        OneManDesk x = desk();
        x.story(7, 3, 60, 9);
        for (int i = 0; i < 10; i++) {
            due("not there", x.mark(i, 0, 5), UNKNOWN);
            due("number", x.draft(i % 6, 60, 1, 7, 3, i == 9 ? 60 : i, 9), i);
            due("risk at first", x.mark(i, 0, 99), 0);
            due("cost at first", x.mark(i, 1, 0), 0);
            due("none holds but with the last", x.make(60), i == 9 ? 512 : NONE);
        }
        due("one too many", x.draft(0, 60, 1, 7, 3, 60, 9), FULL);
        due("it has no risk", x.mark(10, 0, 5), UNKNOWN);
        due("it is not made", x.make(60), 512);
        due("ten", x.count(4), 10);
        due("none is sent", x.count(2), 0);
        due("nobody tells", x.weight(0, 7, 3, 60, 9, 60), 0);
        for (int n : new int[] {-1, 100, LEAST, MOST}) for (int what = 0; what < 2; what++) due("mark " + n, x.mark(9, what, n), OUTSIDE);
        for (int n : new int[] {-1, 2, LEAST, MOST}) due("what " + n, x.mark(9, n, 0), OUTSIDE);
        due("still 99", x.mark(9, 0, 0), 99);
        due("still 0", x.mark(9, 1, 99), 0);
        due("99", x.mark(9, 1, 0), 99);
    }

    static void leastRisk() {
        says("with the least RISK together; of several the least number (bits); none.");
        OneManDesk x = weighing(desk(), 0, "need 99");
        x.story(1, 0, 5, 8);
        for (int a = 0; a < 4; a++) x.draft(a, 5, 1, 1, 0, 5, 8);
        due("a day too early", x.make(4), NONE);
        due("on the day", x.make(5), 3);
        due("the last day", x.make(60), 3);
        int[] risks = {5, 5, 4, 6};
        for (int d = 0; d < 4; d++) x.mark(d, 0, risks[d]);
        due("5 + 4 twice", x.make(5), 5);
        x.mark(0, 0, 6);
        due("5 + 4", x.make(5), 6);
        x.mark(3, 0, 5);
        due("5 + 4 twice again", x.make(5), 6);
        x.mark(1, 0, 6);
        due("4 + 5", x.make(5), 12);
        weighing(x, 0, "need 40;begin 40");
        due("one alone", x.make(5), 4);
        for (int d = 0; d < 4; d++) x.mark(d, 0, 99);
        due("all 99", x.make(5), 1);
        weighing(x, 0, "need 99;begin 25");
        due("all four", x.make(5), 15);
        weighing(x, 0, "need 99;begin 24");
        due("four are too few", x.make(5), NONE);
        due("a day too early again", x.make(4), NONE);
        x.send(4, 5, 1, 1, 0, 5, 8);
        due("beside a letter", x.make(5), 15);
        weighing(x, 0, "need 49;begin 25");
        due("a letter and one", x.make(5), 1);
        due("a letter and one, a day too early", x.make(4), NONE);
        weighing(x, 0, "need 99;begin 99");
        due("a letter alone", x.make(5), 0);
        for (int n : new int[] {-1, 61, LEAST, MOST}) due("day " + n, x.make(n), OUTSIDE);
    }

    static void makeOfNothing() {
        says("MAKE: the set of DRAFTS with which, sent beside all LETTERS, THE STORY HOLDS for READER 0 on a DAY");
        OneManDesk x = desk();
        due("no story, no drafts", x.make(0), 0);
        x.draft(0, 0, 1, 0, 0, 0, 0);
        due("no story", x.make(60), 0);
        x.story(0, 0, 0, 0);
        due("the one", x.make(0), 1);
        for (int i = 0; i < 24; i++) x.send(1, 0, 1, 1, 0, 0, 0);
        due("beside 24 letters", x.make(0), 1);
        x.eyes(1, 0, 0, 60);
        due("what reader 1 knows", x.make(0), 1);
        x.eyes(0, 0, 0, 60);
        due("what reader 0 knows", x.make(0), 0);
        x.fact(0, 0, 0, 0, 1, false);
        due("what it knows otherwise", x.make(0), NONE);
    }

    static void makeFourLines() {
        says("THE STORY HOLDS for READER 0 on a DAY, with the least RISK together");
        OneManDesk x = desk();
        for (int i = 0; i < 4; i++) {
            x.story(i, 0, 0, 5);
            x.draft(i, 10 + i, 1, i, 0, 0, 5);
        }
        due("three of four come", x.make(12), NONE);
        due("all four come", x.make(13), 15);
        due("three of four again", x.make(12), NONE);
        x.send(5, 13, 1, 3, 0, 0, 5);
        due("the last is told by a letter", x.make(13), 7);
        x.eyes(0, 2, 0, 0);
        due("the third is known otherwise", x.make(13), NONE);
        x.fact(2, 0, 0, 0, 5, false);
        due("the third is known so", x.make(13), 3);
        OneManDesk y = weighing(desk(), 0, "need 99");
        for (int i = 0; i < 4; i++) y.story(0, 0, 0, 5);
        for (int a = 0; a < 3; a++) y.draft(a, 0, 1, 0, 0, 0, 5);
        due("one line four times", y.make(0), 3);
        y.send(5, 0, 1, 0, 0, 0, 9);
        due("against another v", y.make(0), 3);
        y.send(4, 0, 1, 0, 0, 0, 0);
        y.send(3, 0, 1, 0, 0, 0, 0);
        due("against two who tell less", y.make(0), 7);
    }

    static void makeByTrust() {
        says("MAKE: the set of DRAFTS with which, sent beside all LETTERS");
        OneManDesk x = weighing(desk(), 0, "begin 40;right 1;need 49");
        x.eyes(0, 0, 0, 60);
        x.story(1, 0, 5, 8);
        x.draft(0, 0, 1, 1, 0, 5, 8);
        for (int d = 1; d < 10; d++) x.draft(0, d, 1, 0, 0, d, 0);
        for (int d = 0; d < 10; d++) for (int what = 0; what < 2; what++) x.mark(d, what, 99);
        due("all ten, each of risk 99", x.make(9), 1023);
        due("one has not come", x.make(8), NONE);
        due("nine of cost 99 buy nine", x.buy(0, 9, 49), 1022);
        due("one buys one", x.buy(0, 9, 41), 2);
        weighing(x, 0, "begin 39;right 1;need 49");
        due("ten are too few", x.make(9), NONE);
        weighing(x, 0, "begin 40;right 9;need 49");
        due("one more is enough", x.make(9), 3);
        x.send(0, 9, 1, 0, 0, 9, 0);
        due("the letter is enough", x.make(9), 1);
        x.send(0, 9, 1, 0, 0, 8, 1);
        due("a false letter: four more", x.make(9), 31);
        weighing(x, 0, "begin 40;right 9;wrong 27;need 49");
        due("a false letter: three more", x.make(9), 15);
        x.send(1, 9, 1, 1, 0, 5, 7);
        due("another weighs less", x.make(9), 15);
        weighing(x, 0, "begin 49;right 9;wrong 18;need 49");
        due("another weighs as much and tells less", x.make(9), 7);
        OneManDesk y = desk();
        y.eyes(0, 0, 0, 60);
        y.story(1, 0, 5, 8);
        y.send(0, 0, 1, 1, 0, 5, 8);
        y.send(1, 0, 1, 1, 0, 5, 7);
        y.draft(1, 9, 1, 0, 0, 9, 1);
        due("not yet", y.make(8), NONE);
        due("a false one takes the other's weight", y.make(9), 1);
        weighing(y, 0, "wrong 1");
        due("a weight of one is enough", y.make(9), 1);
        weighing(y, 0, "wrong 0");
        due("no weight is not", y.make(9), NONE);
    }

    static void buyAllTen() {
        says("with the least COST; RIGHT ones alone; none.");
        OneManDesk x = weighing(desk(), 0, "begin 40;right 1");
        x.eyes(0, 0, 0, 60);
        for (int d = 0; d < 10; d++) {
            x.draft(5, d, 1, 0, 0, d, 0);
            x.mark(d, 1, 99);
        }
        due("all ten, each of cost 99", x.buy(5, 9, 50), 1023);
        due("one has not come", x.buy(5, 8, 50), NONE);
        due("nine", x.buy(5, 8, 49), 511);
        due("ten are too few", x.buy(5, 60, 51), NONE);
        x.fact(0, 0, 9, 9, 1, false);
        due("the last is not right", x.buy(5, 60, 50), NONE);
        for (int i = 0; i < 24; i++) x.send(4, 0, 1, 0, 0, 0, 0);
        due("beside 24 letters", x.buy(5, 60, 49), 511);
        due("of another agent", x.buy(4, 60, 64), 0);
        due("24 and 40 are 64", x.buy(4, 60, 65), NONE);
    }

    static void buys() {
        says("BUY: likewise with which READER 0's TRUST in an AGENT on a DAY is so much (0 .. 100) or more, with the least COST; RIGHT ones alone; none.");
        OneManDesk x = desk();
        x.eyes(0, 1, 0, 60);
        for (int d = 0; d < 5; d++) x.draft(0, 10, 1, 1, 0, 5, 0);
        x.draft(0, 10, 1, 1, 0, 5, 1);
        int[] wanted = {0, 50, 51, 60, 61, 99, 100}, due = {0, 0, 1, 1, 3, 31, 31};
        for (int i = 0; i < wanted.length; i++) due("trust " + wanted[i], x.buy(0, 10, wanted[i]), due[i]);
        for (int n : new int[] {-1, 101, LEAST, MOST}) due("trust " + n, x.buy(0, 10, n), OUTSIDE);
        for (int n : new int[] {-1, 61, LEAST, MOST}) due("day " + n, x.buy(0, n, 0), OUTSIDE);
        for (int n : new int[] {-1, 6, LEAST, MOST}) due("agent " + n, x.buy(n, 10, 0), UNKNOWN);
        due("a day too early", x.buy(0, 9, 51), NONE);
        due("the last agent", x.buy(5, 60, 50), 0);
        due("whom none buys", x.buy(5, 60, 51), NONE);
        int[] costs = {9, 9, 8, 10, 8};
        for (int d = 0; d < 5; d++) x.mark(d, 1, costs[d]);
        due("8 twice", x.buy(0, 10, 60), 4);
        due("8 + 8", x.buy(0, 10, 70), 20);
        due("8 + 8 + 9 twice", x.buy(0, 10, 80), 21);
        weighing(x, 0, "begin 49");
        due("100 of 99", x.buy(0, 10, 100), NONE);
        due("99 of 99", x.buy(0, 10, 99), 31);
        weighing(x, 0, "begin 0;right 0");
        due("0", x.buy(0, 10, 0), 0);
        due("1", x.buy(0, 10, 1), NONE);
        weighing(x, 0, "begin 99;right 99");
        due("more than 100 is 100", x.buy(0, 10, 100), 4);
        weighing(x, 0, "wrong 0;right 0");
        due("a false one costs nothing and buys nothing", x.buy(0, 10, 51), NONE);
    }

    static void signsTold() {
        says("SIGNS (12 at most) of READERS");
        OneManDesk x = desk();
        due("none", x.which(), 3);
        for (int i = 1; i <= 11; i++) due("how many", i % 2 == 0 ? x.pay(60, 5) : x.question(0, 7, 3, 60), i);
        weighing(x, 0, "begin 49");
        due("the last may tell", x.which(), 2);
        due("the twelfth", x.question(60, 0, 0, 0), 12);
        due("a question too many", x.question(60, 0, 0, 0), FULL);
        due("a pay too many", x.pay(60, 0), FULL);
        due("twelve", x.count(5), 12);
        OneManDesk y = desk();
        for (int i = 1; i <= 12; i++) y.question(0, 7, 3, 60);
        weighing(y, 1, "begin 0");
        due("one too many", y.pay(0, 0), FULL);
        due("tells nothing", y.which(), 3);
        y.eyes(1, 7, 60, 60);
        due("not known on 0", y.which(), 3);
        OneManDesk z = desk();
        for (int i = 1; i <= 11; i++) z.question(0, 7, 3, 60);
        due("the last of twelve", z.pay(60, 5), 12);
        due("is so for both", z.which(), 3);
        weighing(z, 1, "begin 49");
        due("is so for one", z.which(), 1);
    }

    static void questions() {
        says("on a DAY there was a QUESTION (of a PLACE, KIND, DAY it had CONCLUDED nothing)");
        int[] days = {9, 12, 13, 60}, due = {3, 3, 0, 0};
        for (int i = 0; i < 4; i++) {
            OneManDesk x = desk();
            x.send(0, 10, 0, 1, 0, 5, 0);
            due("a question", x.question(days[i], 1, 0, 5), 1);
            due("it came on 13, asked on " + days[i], x.which(), due[i]);
        }
        int[] known = {3, 3, 2, 2}, ask = {0, 4, 5, 60};
        for (int i = 0; i < 4; i++) {
            OneManDesk x = desk();
            x.eyes(0, 1, 5, 5);
            x.question(ask[i], 1, 0, 5);
            due("known on 5, asked on " + ask[i], x.which(), known[i]);
        }
        OneManDesk x = desk();
        for (int n : new int[] {-1, 61, LEAST, MOST}) {
            due("asked on " + n, x.question(n, 0, 0, 0), OUTSIDE);
            due("of day " + n, x.question(0, 0, 0, n), OUTSIDE);
        }
        due("no sign", x.count(5), 0);
    }

    static void pays() {
        says("PAY (its TRUST in an AGENT was 50 or more)");
        OneManDesk x = desk();
        x.pay(0, 0);
        String[] begins = {"begin 49", "begin 50", "begin 51", "begin 0", "begin 99"};
        int[] due = {2, 3, 3, 2, 3};
        for (int i = 0; i < 5; i++) due(begins[i], weighing(x, 0, begins[i]).which(), due[i]);
        int[] days = {12, 13, 60}, so = {3, 2, 2};
        for (int i = 0; i < 3; i++) {
            OneManDesk y = desk();
            y.eyes(0, 1, 5, 5);
            y.send(5, 10, 0, 1, 0, 5, 1);
            y.pay(days[i], 5);
            due("a false one came on 13, paid on " + days[i], y.which(), so[i]);
        }
        for (int n : new int[] {-1, 61, LEAST, MOST}) due("paid on " + n, x.pay(n, 0), OUTSIDE);
        for (int n : new int[] {-1, 6, LEAST, MOST}) due("agent " + n, x.pay(0, n), UNKNOWN);
        due("one sign", x.count(5), 1);
    }

    static void warnings() {
        says("the first DAY on which it can be sent so that it does not COME ahead of the night; LATE: how many DAYS behind the night it COMES then.");
        OneManDesk x = desk();
        int[] nights = {0, 1, 8, 9, 10, 59, 60}, sent = {0, 0, 0, 0, 1, 50, 51}, late = {9, 8, 1, 0, 0, 0, 0};
        for (int i = 0; i < nights.length; i++) {
            due("night " + nights[i], x.warning(2, nights[i], 0), sent[i]);
            due("late for " + nights[i], x.warning(2, nights[i], 1), late[i]);
            due("at once, night " + nights[i], x.warning(1, nights[i], 0), nights[i]);
            due("at once, late for " + nights[i], x.warning(1, nights[i], 1), 0);
        }
        x.post(0, 20);
        due("20 days late", x.warning(0, 0, 1), 20);
        due("sent on 40", x.warning(0, 60, 0), 40);
        for (int n : new int[] {-1, 61, LEAST, MOST}) due("night " + n, x.warning(0, n, 0), OUTSIDE);
        for (int n : new int[] {-1, 2, LEAST, MOST}) due("what " + n, x.warning(0, 60, n), OUTSIDE);
        for (int n : new int[] {-1, 3, LEAST, MOST}) due("way " + n, x.warning(n, 60, 0), UNKNOWN);
    }

    static void counts() {
        says("0 FACTS, 1 bytes of THE TEXT, 2 LETTERS, 3 LINES of THE STORY, 4 DRAFTS, 5 SIGNS, 6 EYES of both READERS. OUTSIDE.");
        OneManDesk x = desk();
        for (int what = 0; what < 7; what++) due("empty " + what, x.count(what), 0);
        for (int i = 0; i < 25; i++) {
            x.fact(0, 0, 0, 0, 1, false);
            x.write(0, i < 20 ? 8 : 1);
            x.send(0, 0, 0, 0, 0, 0, 0);
            x.story(0, 0, 0, 0);
            x.draft(0, 0, 0, 0, 0, 0, 0);
            x.pay(0, 0);
            x.eyes(i % 2, 0, 0, 0);
        }
        int[] full = {16, 160, 24, 4, 10, 12, 12};
        for (int what = 0; what < 7; what++) due("full " + what, x.count(what), full[what]);
        for (int n : new int[] {-1, 7, LEAST, MOST}) due("what " + n, x.count(n), OUTSIDE);
    }

    static void notNow() {
        says("UNKNOWN; NOT: it has a FAULT.");
        OneManDesk x = desk();
        due("an empty text is no life", x.life(0), NOT);
        due("an empty text is no table", x.table(0), NOT);
        for (int n : new int[] {-1, 6, LEAST, MOST}) due("no such agent, and a fault", x.life(n), UNKNOWN);
        for (int n : new int[] {-1, 2, LEAST, MOST}) due("no such reader, and a fault", x.table(n), UNKNOWN);
        text(x, "at 1 from 2 to 3;");
        due("one byte too many", x.life(5), NOT);
        due("the text is as it was", x.count(1), 17);
        due("with its fault", x.fault(0), 17);
        due("the life is as it was", x.where(5, 2), 0);
        text(x, "need 99;");
        due("one byte too many", x.table(1), NOT);
        due("the text is as it was", x.count(1), 8);
        due("the table is as it was", x.told(1, 5), 40);
        text(x, "need 99");
        for (int n : new int[] {-1, 2, LEAST, MOST}) due("no such reader", x.table(n), UNKNOWN);
        due("the text is as it was", x.count(1), 7);
        due("the last reader", x.table(1), 1);
        due("the text is empty then", x.count(1), 0);
        text(x, "at 1 from 2 to 3");
        for (int n : new int[] {-1, 6, LEAST, MOST}) due("no such agent", x.life(n), UNKNOWN);
        due("the text is as it was", x.count(1), 16);
        due("the last agent", x.life(5), 1);
        due("the text is empty then", x.count(1), 0);
        for (int n : new int[] {-1, 2, LEAST, MOST}) due("fault of " + n, x.fault(n), OUTSIDE);
    }

    static void manyCalls() {
        says("An object is used for at most 512 calls after it has been made");
        OneManDesk x = desk();
        for (int i = 1; i < 512; i++) x.view(7, i % 256);
        due("the 512th", x.view(7, 0), 255);
    }

    public static void main(String[] args) throws Exception {
        document = Files.readString(Path.of("../shared/DOC.md")).replaceAll("\\s+", " ");
        days(); seen(); kinds(); facts(); values(); lastFact(); homes();
        bytes(); written(); erased(); lifeLines(); tableLines(); placeNumbers(); numbersRead(); signs(); firstToken(); tooSoon();
        lastLine(); sawPlaces();
        letters(); waysAndValues(); posts(); comeBehind(); rightOnes(); slipsUnseen(); slipsAhead(); slipsUnlike();
        lacksSeen(); lacksTold(); illOn();
        tables(); eyesHad(); knows(); trustBy(); lateOnes(); trustBounds(); weights(); ofSeveral();
        storyLines(); holdsAll(); keepsOn();
        drafts(); leastRisk(); makeOfNothing(); makeFourLines(); makeByTrust(); buys(); buyAllTen(); signsTold(); questions(); pays(); warnings(); counts();
        notNow(); manyCalls();
        System.out.println(checks + " checks of " + sentences + " sentences, " + wrong + " wrong");
        if (wrong != 0) System.exit(1);
    }
}
