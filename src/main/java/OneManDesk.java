/** A desk from which AGENTS write to a land whose READERS weigh what they tell: see DOC.md, whose words are in capitals here. */
public final class OneManDesk {
    public static final int NONE = -1, UNKNOWN = -2, OUTSIDE = -3, NOT = -4, FULL = -5;

    private static final int LAST_DAY = 60, DAYS = LAST_DAY + 1;
    private static final int PLACES = 8, KINDS = 4, AGENTS = 6, WAYS = 3, READERS = 2;
    private static final int MOST_TOLD = 9, VALUES = MOST_TOLD + 1;
    private static final int MOST_FACTS = 16, MOST_LETTERS = 24, MOST_DRAFTS = 10, MOST_EYES = 6;
    private static final int MOST_STORY = 4, MOST_SIGNS = 12, MOST_BYTES = 160, MOST_LINES = 8;
    private static final int MOST_MARK = 99, MOST_TRUST = 100, MOST_POST = 20, PAID_FROM = 50;
    private static final int BEGIN = 0, RIGHT = 1, WRONG = 2, LATE = 3, ALIKE = 4, NEED = 5, WORDS = 6;
    private static final int[] PLAIN_TABLE = {50, 10, 30, 0, 0, 40};
    private static final int[] PLAIN_POST = {3, 0, 9};
    private static final int PASSED = 0;

    private final World land;
    private final Agent[] agents;
    private final Text text;
    private final int[] postDays;
    private final Mail letters;
    private final Mail drafts;
    private final Reader[] readers;
    private final Story tale;
    private final Scales scales;
    private final Plan plan;
    private final Signs signs;

    public OneManDesk() {
        World newLand = new World();
        int[] newPost = PLAIN_POST.clone();
        Mail newLetters = new Mail(MOST_LETTERS, newPost);
        Mail newDrafts = new Mail(MOST_DRAFTS, newPost);
        Scales newScales = new Scales(newLand, newLetters);
        Agent[] newAgents = new Agent[AGENTS];
        for (int a = 0; a < AGENTS; a++) {
            newAgents[a] = new Agent();
        }
        Reader[] newReaders = new Reader[READERS];
        for (int r = 0; r < READERS; r++) {
            newReaders[r] = new Reader();
        }
        land = newLand;
        agents = newAgents;
        text = new Text();
        postDays = newPost;
        letters = newLetters;
        drafts = newDrafts;
        readers = newReaders;
        tale = new Story();
        scales = newScales;
        plan = new Plan(newLand, newScales, newDrafts);
        signs = new Signs();
    }

    // ---- the world, lives

    public int view(int place, int places) {
        if (!isBelow(place, PLACES)) {
            return UNKNOWN;
        }
        if (!isBelow(places, 1 << PLACES)) {
            return OUTSIDE;
        }
        int was = land.seen[place];
        land.seen[place] = places;
        return was;
    }

    public int fact(int place, int kind, int from, int to, int v, boolean secret) {
        if (!isBelow(place, PLACES) || !isBelow(kind, KINDS)) {
            return UNKNOWN;
        }
        if (!isSpan(from, to) || v < 1 || v > MOST_TOLD) {
            return OUTSIDE;
        }
        return land.addFact(place, kind, from, to, v, secret);
    }

    public int world(int place, int kind, int day) {
        int refused = refuseTopic(place, kind, day);
        return refused != PASSED ? refused : land.valueOf(topicOf(place, kind, day));
    }

    public int home(int agent, int place) {
        if (!isBelow(agent, AGENTS) || !isBelow(place, PLACES)) {
            return UNKNOWN;
        }
        int was = agents[agent].home;
        agents[agent].home = place;
        return was;
    }

    public int write(long bytes, int n) {
        if (n < 1 || n > 8) {
            return OUTSIDE;
        }
        return text.append(bytes, n);
    }

    public int erase() {
        return text.empty();
    }

    public int fault(int what) {
        if (!isBelow(what, 2)) {
            return OUTSIDE;
        }
        return text.firstFault(what == 0);
    }

    public int life(int agent) {
        if (!isBelow(agent, AGENTS)) {
            return UNKNOWN;
        }
        if (text.firstFault(true) != NONE) {
            return NOT;
        }
        text.empty();
        return agents[agent].live(text);
    }

    public int table(int reader) {
        if (!isBelow(reader, READERS)) {
            return UNKNOWN;
        }
        if (text.firstFault(false) != NONE) {
            return NOT;
        }
        text.empty();
        return readers[reader].weighBy(text);
    }

    public int where(int agent, int day) {
        int refused = refuseDayOf(agent, AGENTS, day);
        return refused != PASSED ? refused : agents[agent].placeOn(day);
    }

    public int saw(int agent, int day) {
        int refused = refuseDayOf(agent, AGENTS, day);
        return refused != PASSED ? refused : land.seenBy(agents[agent], day);
    }

    // ---- letters

    public int post(int way, int days) {
        if (!isBelow(way, WAYS)) {
            return UNKNOWN;
        }
        if (days < 0 || days > MOST_POST) {
            return OUTSIDE;
        }
        int was = postDays[way];
        postDays[way] = days;
        return was;
    }

    public int send(int agent, int sent, int way, int place, int kind, int day, int v) {
        int refused = refuseLetter(agent, sent, way, place, kind, day, v);
        return refused != PASSED ? refused : letters.add(agent, sent, way, topicOf(place, kind, day), v);
    }

    public int right(int letter) {
        if (!isBelow(letter, letters.size)) {
            return UNKNOWN;
        }
        return land.valueOf(letters.topic[letter]) == letters.value[letter] ? 1 : 0;
    }

    public int comes(int letter) {
        return isBelow(letter, letters.size) ? letters.cameOn(letter) : UNKNOWN;
    }

    public int slips(int letter) {
        if (!isBelow(letter, letters.size)) {
            return UNKNOWN;
        }
        int day = dayOf(letters.topic[letter]);
        int seen = land.seenBy(agents[letters.agent[letter]], day);
        int unseen = hasBit(seen, placeOf(letters.topic[letter])) ? 0 : 1;
        int ahead = day > letters.sent[letter] ? 2 : 0;
        return unseen | ahead | letters.unlike(letter);
    }

    public int lacks(int agent, int day) {
        int refused = refuseDayOf(agent, AGENTS, day);
        if (refused != PASSED) {
            return refused;
        }
        int missing = 0;
        for (int f = 0; f < land.facts; f++) {
            if (land.wasSeen(f, agents[agent], day) && !letters.mention(land, f, agent, day)) {
                missing |= 1 << f;
            }
        }
        return missing;
    }

    public int ill(int agent) {
        if (!isBelow(agent, AGENTS)) {
            return UNKNOWN;
        }
        for (int day = 0; day <= LAST_DAY; day++) {
            if (land.showsSecret(agents[agent], day)) {
                return day;
            }
        }
        return NONE;
    }

    // ---- readers

    public int eyes(int reader, int place, int from, int to) {
        if (!isBelow(reader, READERS) || !isBelow(place, PLACES)) {
            return UNKNOWN;
        }
        if (!isSpan(from, to)) {
            return OUTSIDE;
        }
        return readers[reader].addEyes(place, from, to);
    }

    public int told(int reader, int what) {
        if (!isBelow(reader, READERS)) {
            return UNKNOWN;
        }
        return isBelow(what, WORDS) ? readers[reader].table[what] : OUTSIDE;
    }

    public int trust(int reader, int agent, int day) {
        if (!isBelow(reader, READERS) || !isBelow(agent, AGENTS)) {
            return UNKNOWN;
        }
        return isBelow(day, DAYS) ? scales.trustIn(readers[reader], agent, day) : OUTSIDE;
    }

    public int concluded(int reader, int place, int kind, int day, int on) {
        int refused = refuseReading(reader, place, kind, day, on);
        return refused != PASSED ? refused : scales.conclude(readers[reader], topicOf(place, kind, day), on);
    }

    public int weight(int reader, int place, int kind, int day, int v, int on) {
        int refused = refuseReading(reader, place, kind, day, on);
        if (refused != PASSED) {
            return refused;
        }
        if (!isBelow(v, VALUES)) {
            return OUTSIDE;
        }
        scales.sumTrust(readers[reader], on);
        scales.gather(topicOf(place, kind, day), on);
        return scales.weigh(readers[reader], v);
    }

    public int story(int place, int kind, int day, int v) {
        int refused = refuseTopic(place, kind, day);
        if (refused != PASSED) {
            return refused;
        }
        return isBelow(v, VALUES) ? tale.add(topicOf(place, kind, day), v) : OUTSIDE;
    }

    public int holds(int reader, int day) {
        int refused = refuseDayOf(reader, READERS, day);
        return refused != PASSED ? refused : scales.heldLines(readers[reader], tale, day);
    }

    public int keeps(int reader, int from) {
        int refused = refuseDayOf(reader, READERS, from);
        if (refused != PASSED) {
            return refused;
        }
        int day = from;
        while (day <= LAST_DAY && scales.heldLines(readers[reader], tale, day) == tale.allLines()) {
            day++;
        }
        return day - from;
    }

    // ---- drafts, signs

    public int draft(int agent, int sent, int way, int place, int kind, int day, int v) {
        int refused = refuseLetter(agent, sent, way, place, kind, day, v);
        return refused != PASSED ? refused : drafts.add(agent, sent, way, topicOf(place, kind, day), v);
    }

    public int mark(int draft, int what, int v) {
        if (!isBelow(draft, drafts.size)) {
            return UNKNOWN;
        }
        if (!isBelow(what, 2) || v < 0 || v > MOST_MARK) {
            return OUTSIDE;
        }
        int[] marks = what == 0 ? plan.risk : plan.cost;
        int was = marks[draft];
        marks[draft] = v;
        return was;
    }

    public int make(int day) {
        return isBelow(day, DAYS) ? plan.leastRisk(readers[0], tale, day) : OUTSIDE;
    }

    public int buy(int agent, int day, int trust) {
        if (!isBelow(agent, AGENTS)) {
            return UNKNOWN;
        }
        if (!isBelow(day, DAYS) || trust < 0 || trust > MOST_TRUST) {
            return OUTSIDE;
        }
        return plan.leastCost(readers[0], agent, day, trust);
    }

    public int question(int on, int place, int kind, int day) {
        int refused = refuseTopic(place, kind, day);
        if (refused != PASSED) {
            return refused;
        }
        return isBelow(on, DAYS) ? signs.addQuestion(on, topicOf(place, kind, day)) : OUTSIDE;
    }

    public int pay(int on, int agent) {
        int refused = refuseDayOf(agent, AGENTS, on);
        return refused != PASSED ? refused : signs.addPay(on, agent);
    }

    public int which() {
        int fitting = 0;
        for (int r = 0; r < READERS; r++) {
            if (signs.fit(readers[r], scales)) {
                fitting |= 1 << r;
            }
        }
        return fitting;
    }

    public int warning(int way, int night, int what) {
        int refused = refuseDayOf(way, WAYS, night);
        if (refused != PASSED) {
            return refused;
        }
        if (!isBelow(what, 2)) {
            return OUTSIDE;
        }
        int spare = night - postDays[way];
        return Math.max(0, what == 0 ? spare : -spare);
    }

    public int count(int what) {
        switch (what) {
            case 0: return land.facts;
            case 1: return text.length;
            case 2: return letters.size;
            case 3: return tale.size;
            case 4: return drafts.size;
            case 5: return signs.size;
            case 6: return readers[0].eyesHad + readers[1].eyesHad;
            default: return OUTSIDE;
        }
    }

    // ---- what numbers are as told

    private static boolean isBelow(int number, int bound) {
        return number >= 0 && number < bound;
    }

    private static boolean isSpan(int from, int to) {
        return isBelow(from, DAYS) && isBelow(to, DAYS) && from <= to;
    }

    private static boolean hasBit(int bits, int bit) {
        return (bits >> bit & 1) != 0;
    }

    private static int refuseDayOf(int whose, int bound, int day) {
        if (!isBelow(whose, bound)) {
            return UNKNOWN;
        }
        return isBelow(day, DAYS) ? PASSED : OUTSIDE;
    }

    private static int refuseTopic(int place, int kind, int day) {
        if (!isBelow(place, PLACES) || !isBelow(kind, KINDS)) {
            return UNKNOWN;
        }
        return isBelow(day, DAYS) ? PASSED : OUTSIDE;
    }

    private static int refuseReading(int reader, int place, int kind, int day, int on) {
        if (!isBelow(reader, READERS)) {
            return UNKNOWN;
        }
        int refused = refuseTopic(place, kind, day);
        return refused == PASSED && !isBelow(on, DAYS) ? OUTSIDE : refused;
    }

    private static int refuseLetter(int agent, int sent, int way, int place, int kind, int day, int v) {
        if (!isBelow(agent, AGENTS) || !isBelow(way, WAYS)) {
            return UNKNOWN;
        }
        int refused = refuseTopic(place, kind, day);
        return refused == PASSED && !(isBelow(sent, DAYS) && isBelow(v, VALUES)) ? OUTSIDE : refused;
    }

    // ---- topics: a PLACE, a KIND and a DAY in one number, so that what is told of one is found by one comparison

    private static int topicOf(int place, int kind, int day) {
        return (place * KINDS + kind) * DAYS + day;
    }

    private static int placeOf(int topic) {
        return topic / (KINDS * DAYS);
    }

    private static int kindOf(int topic) {
        return topic / DAYS % KINDS;
    }

    private static int dayOf(int topic) {
        return topic % DAYS;
    }

    /** What is SEEN from each PLACE, and the FACTS. */
    private static final class World {
        private final int[] seen = new int[PLACES];
        private final int[] place = new int[MOST_FACTS];
        private final int[] kind = new int[MOST_FACTS];
        private final int[] from = new int[MOST_FACTS];
        private final int[] to = new int[MOST_FACTS];
        private final int[] value = new int[MOST_FACTS];
        private final boolean[] hidden = new boolean[MOST_FACTS];
        private int facts = 0;

        private World() {
            for (int p = 0; p < PLACES; p++) {
                seen[p] = 1 << p;
            }
        }

        private int addFact(int where, int what, int first, int last, int v, boolean secret) {
            if (facts >= MOST_FACTS) {
                return FULL;
            }
            place[facts] = where;
            kind[facts] = what;
            from[facts] = first;
            to[facts] = last;
            value[facts] = v;
            hidden[facts] = secret;
            facts++;
            return facts - 1;
        }

        private boolean tells(int fact, int where, int what, int day) {
            return place[fact] == where && kind[fact] == what && from[fact] <= day && day <= to[fact];
        }

        private int valueOf(int topic) {
            int where = placeOf(topic);
            int what = kindOf(topic);
            int day = dayOf(topic);
            for (int f = facts - 1; f >= 0; f--) {
                if (tells(f, where, what, day)) {
                    return value[f];
                }
            }
            return 0;
        }

        private int seenBy(Agent agent, int day) {
            return seen[agent.placeOn(day)];
        }

        private boolean wasSeen(int fact, Agent agent, int by) {
            int last = Math.min(to[fact], by);
            for (int day = from[fact]; day <= last; day++) {
                if (hasBit(seenBy(agent, day), place[fact])) {
                    return true;
                }
            }
            return false;
        }

        private boolean showsSecret(Agent agent, int day) {
            int shown = seenBy(agent, day);
            for (int f = 0; f < facts; f++) {
                if (hidden[f] && from[f] <= day && day <= to[f] && hasBit(shown, place[f])) {
                    return true;
                }
            }
            return false;
        }
    }

    /** An AGENT's HOME and LIFE. */
    private static final class Agent {
        private final int[] place = new int[MOST_LINES];
        private final int[] from = new int[MOST_LINES];
        private final int[] to = new int[MOST_LINES];
        private int home = 0;
        private int lines = 0;

        private int live(Text text) {
            lines = text.lines;
            for (int i = 0; i < lines; i++) {
                place[i] = text.first[i];
                from[i] = text.second[i];
                to[i] = text.third[i];
            }
            return lines;
        }

        private int placeOn(int day) {
            for (int i = lines - 1; i >= 0; i--) {
                if (from[i] <= day && day <= to[i]) {
                    return place[i];
                }
            }
            return home;
        }
    }

    /** THE TEXT, read token by token; the numbers of its LINES stay in rows until it is read again. */
    private static final class Text {
        private final int[] bytes = new int[MOST_BYTES];
        private final int[] first = new int[MOST_LINES];
        private final int[] second = new int[MOST_LINES];
        private final int[] third = new int[MOST_LINES];
        private int length = 0;
        private int lines = 0;
        private int tokenBegin = 0;
        private int tokenEnd = 0;

        private int append(long more, int n) {
            if (length + n > MOST_BYTES) {
                return FULL;
            }
            for (int i = 0; i < n; i++) {
                bytes[length + i] = (int) (more >> 8 * i & 255);
            }
            length += n;
            return length;
        }

        private int empty() {
            int had = length;
            length = 0;
            return had;
        }

        /** A token that fits is passed by; so, at a FAULT, the token at hand is the one that cannot stand there. */
        private int firstFault(boolean asLife) {
            lines = 0;
            tokenEnd = 0;
            nextToken();
            while (lines < MOST_LINES) {
                if (!(asLife ? readLifeLine() : readTableLine())) {
                    return tokenBegin;
                }
                lines++;
                if (tokenBegin == length) {
                    return NONE;
                }
                if (lines == MOST_LINES || !passWord(";")) {
                    return tokenBegin;
                }
            }
            return tokenBegin;
        }

        private boolean readLifeLine() {
            if (!passWord("at")) {
                return false;
            }
            first[lines] = passNumber(0, PLACES - 1);
            if (first[lines] == NONE || !passWord("from")) {
                return false;
            }
            second[lines] = passNumber(0, LAST_DAY);
            if (second[lines] == NONE || !passWord("to")) {
                return false;
            }
            third[lines] = passNumber(second[lines], LAST_DAY);
            return third[lines] != NONE;
        }

        private boolean readTableLine() {
            int word = 0;
            while (word < WORDS && !passWord(tableWord(word))) {
                word++;
            }
            if (word == WORDS) {
                return false;
            }
            first[lines] = word;
            second[lines] = passNumber(0, 99);
            return second[lines] != NONE;
        }

        private static String tableWord(int word) {
            switch (word) {
                case BEGIN: return "begin";
                case RIGHT: return "right";
                case WRONG: return "wrong";
                case LATE: return "late";
                case ALIKE: return "alike";
                default: return "need";
            }
        }

        private boolean passWord(String word) {
            if (tokenEnd - tokenBegin != word.length()) {
                return false;
            }
            for (int i = 0; i < word.length(); i++) {
                if (bytes[tokenBegin + i] != word.charAt(i)) {
                    return false;
                }
            }
            nextToken();
            return true;
        }

        private int passNumber(int least, int most) {
            int digits = tokenEnd - tokenBegin;
            if (digits < 1 || digits > 2 || !isDigit(bytes[tokenBegin])) {
                return NONE;
            }
            int number = 0;
            for (int i = tokenBegin; i < tokenEnd; i++) {
                number = number * 10 + bytes[i] - '0';
            }
            if (number < least || number > most) {
                return NONE;
            }
            nextToken();
            return number;
        }

        private void nextToken() {
            tokenBegin = tokenEnd;
            while (tokenBegin < length && bytes[tokenBegin] == ' ') {
                tokenBegin++;
            }
            tokenEnd = tokenBegin;
            if (tokenBegin == length) {
                return;
            }
            tokenEnd++;
            boolean ofLetters = isLetter(bytes[tokenBegin]);
            boolean ofDigits = isDigit(bytes[tokenBegin]);
            while (tokenEnd < length
                    && (ofLetters && isLetter(bytes[tokenEnd]) || ofDigits && isDigit(bytes[tokenEnd]))) {
                tokenEnd++;
            }
        }

        private static boolean isLetter(int sign) {
            return sign >= 'a' && sign <= 'z';
        }

        private static boolean isDigit(int sign) {
            return sign >= '0' && sign <= '9';
        }
    }

    /** LETTERS, or DRAFTS; both go by the same POSTS. */
    private static final class Mail {
        private final int[] agent;
        private final int[] sent;
        private final int[] way;
        private final int[] topic;
        private final int[] value;
        private final int[] postDays;
        private final int most;
        private int size = 0;

        private Mail(int most, int[] postDays) {
            this.most = most;
            this.postDays = postDays;
            agent = new int[most];
            sent = new int[most];
            way = new int[most];
            topic = new int[most];
            value = new int[most];
        }

        private int add(int whose, int day, int by, int of, int v) {
            if (size >= most) {
                return FULL;
            }
            agent[size] = whose;
            sent[size] = day;
            way[size] = by;
            topic[size] = of;
            value[size] = v;
            size++;
            return size - 1;
        }

        private int cameOn(int i) {
            return sent[i] + postDays[way[i]];
        }

        private int unlike(int letter) {
            int found = 0;
            for (int i = 0; i < size; i++) {
                if (topic[i] == topic[letter] && value[i] != value[letter]) {
                    found |= agent[i] == agent[letter] ? 4 : 8;
                }
            }
            return found;
        }

        private boolean mention(World land, int fact, int whose, int by) {
            for (int i = 0; i < size; i++) {
                if (agent[i] == whose && sent[i] <= by
                        && land.tells(fact, placeOf(topic[i]), kindOf(topic[i]), dayOf(topic[i]))) {
                    return true;
                }
            }
            return false;
        }
    }

    /** A READER's TABLE and EYES. */
    private static final class Reader {
        private final int[] table = PLAIN_TABLE.clone();
        private final int[] place = new int[MOST_EYES];
        private final int[] from = new int[MOST_EYES];
        private final int[] to = new int[MOST_EYES];
        private int eyesHad = 0;

        private int weighBy(Text text) {
            System.arraycopy(PLAIN_TABLE, 0, table, 0, WORDS);
            for (int i = 0; i < text.lines; i++) {
                table[text.first[i]] = text.second[i];
            }
            return text.lines;
        }

        private int addEyes(int where, int first, int last) {
            if (eyesHad >= MOST_EYES) {
                return FULL;
            }
            place[eyesHad] = where;
            from[eyesHad] = first;
            to[eyesHad] = last;
            eyesHad++;
            return eyesHad;
        }

        private boolean knows(int topic, int by) {
            int day = dayOf(topic);
            int where = placeOf(topic);
            if (day > by) {
                return false;
            }
            for (int i = 0; i < eyesHad; i++) {
                if (place[i] == where && from[i] <= day && day <= to[i]) {
                    return true;
                }
            }
            return false;
        }
    }

    /** THE STORY. */
    private static final class Story {
        private final int[] topic = new int[MOST_STORY];
        private final int[] value = new int[MOST_STORY];
        private int size = 0;

        private int add(int of, int v) {
            if (size >= MOST_STORY) {
                return FULL;
            }
            topic[size] = of;
            value[size] = v;
            size++;
            return size;
        }

        private int allLines() {
            return (1 << size) - 1;
        }
    }

    /** How a READER weighs what has COME; the rows are filled anew by every question. */
    private static final class Scales {
        private final World land;
        private final Mail letters;
        private final int[] sums = new int[AGENTS];
        private final int[] tellers = new int[VALUES];

        private Scales(World land, Mail letters) {
            this.land = land;
            this.letters = letters;
        }

        /** What a letter or draft adds to the TRUST in its AGENT. */
        private int gain(Reader reader, Mail mail, int i, int on) {
            int came = mail.cameOn(i);
            if (came > on || !reader.knows(mail.topic[i], on)) {
                return 0;
            }
            if (land.valueOf(mail.topic[i]) != mail.value[i]) {
                return -reader.table[WRONG];
            }
            int late = Math.max(0, came - dayOf(mail.topic[i]));
            return Math.max(0, reader.table[RIGHT] - reader.table[LATE] * late);
        }

        private void sumTrust(Reader reader, int on) {
            for (int a = 0; a < AGENTS; a++) {
                sums[a] = reader.table[BEGIN];
            }
            for (int i = 0; i < letters.size; i++) {
                sums[letters.agent[i]] += gain(reader, letters, i, on);
            }
        }

        private int trustIn(Reader reader, int agent, int on) {
            sumTrust(reader, on);
            return bounded(sums[agent]);
        }

        private static int bounded(int sum) {
            return Math.max(0, Math.min(MOST_TRUST, sum));
        }

        /** Puts, for each v, the AGENTS that tell it of a topic by a DAY, by bits. */
        private void gather(int topic, int on) {
            for (int v = 0; v < VALUES; v++) {
                tellers[v] = 0;
            }
            for (int i = 0; i < letters.size; i++) {
                if (letters.topic[i] == topic && letters.cameOn(i) <= on) {
                    tellers[letters.value[i]] |= 1 << letters.agent[i];
                }
            }
        }

        private int weigh(Reader reader, int v) {
            if (tellers[v] == 0) {
                return 0;
            }
            int heavy = reader.table[ALIKE] * (Integer.bitCount(tellers[v]) - 1);
            for (int a = 0; a < AGENTS; a++) {
                if (hasBit(tellers[v], a)) {
                    heavy += bounded(sums[a]);
                }
            }
            return heavy;
        }

        private int heaviest(Reader reader) {
            int best = NONE;
            int most = NONE;
            for (int v = 0; v < VALUES; v++) {
                if (tellers[v] != 0) {
                    int heavy = weigh(reader, v);
                    if (heavy > most) {
                        most = heavy;
                        best = v;
                    }
                }
            }
            return most >= reader.table[NEED] ? best : NONE;
        }

        private int conclude(Reader reader, int topic, int on) {
            sumTrust(reader, on);
            return judge(reader, topic, on);
        }

        /** CONCLUDED, once TRUST is summed for that DAY. */
        private int judge(Reader reader, int topic, int on) {
            if (reader.knows(topic, on)) {
                return land.valueOf(topic);
            }
            gather(topic, on);
            return heaviest(reader);
        }

        private int heldLines(Reader reader, Story story, int on) {
            sumTrust(reader, on);
            int held = 0;
            for (int line = 0; line < story.size; line++) {
                if (judge(reader, story.topic[line], on) == story.value[line]) {
                    held |= 1 << line;
                }
            }
            return held;
        }
    }

    /** MAKE and BUY: every set of DRAFTS is tried, over rows that hold what the LETTERS alone give. */
    private static final class Plan {
        private final World land;
        private final Scales scales;
        private final Mail drafts;
        private final int[] risk = new int[MOST_DRAFTS];
        private final int[] cost = new int[MOST_DRAFTS];
        private final int[] gains = new int[MOST_DRAFTS];
        private final int[] bears = new int[MOST_DRAFTS];
        private final int[] sums = new int[AGENTS];
        private final int[] tellers = new int[MOST_STORY * VALUES];
        private int open = 0;

        private Plan(World land, Scales scales, Mail drafts) {
            this.land = land;
            this.scales = scales;
            this.drafts = drafts;
        }

        private int leastRisk(Reader reader, Story story, int on) {
            if (!opensLines(reader, story, on)) {
                return NONE;
            }
            sumLetters(reader, on);
            gatherLines(story, on);
            int useful = usefulForStory(story, on);
            int best = NONE;
            int least = MOST_DRAFTS * MOST_MARK + 1;
            for (int set = 0; set < 1 << drafts.size; set++) {
                int together = (set & ~useful) != 0 ? least : addUp(risk, set);
                if (together < least && holdsWith(set, reader, story)) {
                    best = set;
                    least = together;
                }
            }
            return best;
        }

        private int leastCost(Reader reader, int agent, int on, int wanted) {
            sumLetters(reader, on);
            int useful = usefulForTrust(agent);
            int best = NONE;
            int least = MOST_DRAFTS * MOST_MARK + 1;
            for (int set = 0; set < 1 << drafts.size; set++) {
                int together = (set & ~useful) != 0 ? least : addUp(cost, set);
                if (together < least && Scales.bounded(sums[agent] + addUp(gains, set)) >= wanted) {
                    best = set;
                    least = together;
                }
            }
            return best;
        }

        /** The LINES that no EYES settle are open; no set helps if EYES settle one against THE STORY. */
        private boolean opensLines(Reader reader, Story story, int on) {
            open = 0;
            for (int line = 0; line < story.size; line++) {
                if (!reader.knows(story.topic[line], on)) {
                    open |= 1 << line;
                } else if (land.valueOf(story.topic[line]) != story.value[line]) {
                    return false;
                }
            }
            return true;
        }

        private void sumLetters(Reader reader, int on) {
            scales.sumTrust(reader, on);
            System.arraycopy(scales.sums, 0, sums, 0, AGENTS);
            for (int d = 0; d < drafts.size; d++) {
                gains[d] = scales.gain(reader, drafts, d, on);
            }
        }

        private void gatherLines(Story story, int on) {
            for (int line = 0; line < story.size; line++) {
                scales.gather(story.topic[line], on);
                System.arraycopy(scales.tellers, 0, tellers, line * VALUES, VALUES);
            }
        }

        /** A DRAFT that changes neither TRUST nor an open LINE only makes a set's number greater, so it is left out. */
        private int usefulForStory(Story story, int on) {
            int useful = 0;
            for (int d = 0; d < drafts.size; d++) {
                bears[d] = 0;
                for (int line = 0; line < story.size; line++) {
                    if (hasBit(open, line) && drafts.topic[d] == story.topic[line] && drafts.cameOn(d) <= on) {
                        bears[d] |= 1 << line;
                    }
                }
                if (bears[d] != 0 || gains[d] != 0) {
                    useful |= 1 << d;
                }
            }
            return useful;
        }

        /** Only RIGHT ones gain anything; the others may not be bought. */
        private int usefulForTrust(int agent) {
            int useful = 0;
            for (int d = 0; d < drafts.size; d++) {
                if (drafts.agent[d] == agent && gains[d] > 0) {
                    useful |= 1 << d;
                }
            }
            return useful;
        }

        private int addUp(int[] row, int set) {
            int together = 0;
            for (int d = 0; d < drafts.size; d++) {
                if (hasBit(set, d)) {
                    together += row[d];
                }
            }
            return together;
        }

        private boolean holdsWith(int set, Reader reader, Story story) {
            System.arraycopy(sums, 0, scales.sums, 0, AGENTS);
            for (int d = 0; d < drafts.size; d++) {
                if (hasBit(set, d)) {
                    scales.sums[drafts.agent[d]] += gains[d];
                }
            }
            for (int line = 0; line < story.size; line++) {
                if (hasBit(open, line)) {
                    gatherWith(set, line);
                    if (scales.heaviest(reader) != story.value[line]) {
                        return false;
                    }
                }
            }
            return true;
        }

        private void gatherWith(int set, int line) {
            System.arraycopy(tellers, line * VALUES, scales.tellers, 0, VALUES);
            for (int d = 0; d < drafts.size; d++) {
                if (hasBit(set, d) && hasBit(bears[d], line)) {
                    scales.tellers[drafts.value[d]] |= 1 << drafts.agent[d];
                }
            }
        }
    }

    /** SIGNS: a QUESTION of a topic, or PAY for an AGENT (NONE with a QUESTION). */
    private static final class Signs {
        private final int[] on = new int[MOST_SIGNS];
        private final int[] topic = new int[MOST_SIGNS];
        private final int[] agent = new int[MOST_SIGNS];
        private int size = 0;

        private int addQuestion(int day, int of) {
            return add(day, of, NONE);
        }

        private int addPay(int day, int whom) {
            return add(day, 0, whom);
        }

        private int add(int day, int of, int whom) {
            if (size >= MOST_SIGNS) {
                return FULL;
            }
            on[size] = day;
            topic[size] = of;
            agent[size] = whom;
            size++;
            return size;
        }

        private boolean fit(Reader reader, Scales scales) {
            for (int i = 0; i < size; i++) {
                boolean so = agent[i] == NONE
                        ? scales.conclude(reader, topic[i], on[i]) == NONE
                        : scales.trustIn(reader, agent[i], on[i]) >= PAID_FROM;
                if (!so) {
                    return false;
                }
            }
            return true;
        }
    }
}
