/** The school of forgetting: facts in a net, pupils who know them, arts that weaken them, weeks by a law. */
public final class ForgetSchool {
    public static final int NONE = -1;

    private static final int FACTS = 12;
    private static final int KINDS = 9;
    private static final int PUPILS = 8;
    private static final int CLASSES = 9;
    private static final int OUT = 10;
    private static final int ARTS = 6;
    private static final int MASTERS = 5;
    private static final int STRONGEST = 99;
    private static final int MOST_WEEKS = 60;
    private static final int LAST_WEEK = 9999;
    private static final int MOST_RESTS = 200;
    private static final int HOW_MUCH = 20;
    private static final int NOTHING = -2;
    private static final int NO_PLACE = -4;

    private final Tape tape;
    private final Net net;
    private final Course course;
    private final Staff staff;
    private final Search search;
    private final Odds chances;
    private final ArtReader artReader;
    private final LawReader lawReader;
    private final Art newArt;
    private final Law copiedLaw;
    private final Pupils roll;
    private final Pupils keptRoll;
    private final Pupils trialRoll;
    private Law ruling;
    private Law newLaw;
    private boolean isKept;

    public ForgetSchool() {
        tape = new Tape();
        net = new Net();
        roll = new Pupils();
        keptRoll = new Pupils();
        trialRoll = new Pupils();
        ruling = new Law();
        copiedLaw = new Law();
        newLaw = new Law();
        newArt = new Art();
        artReader = new ArtReader(tape.bytes, newArt);
        lawReader = new LawReader(tape.bytes, newLaw);
        course = new Course(net, ruling, roll);
        staff = new Staff();
        search = new Search();
        chances = new Odds();
        isKept = false;
    }

    public boolean fact(int i, int kind) {
        if (!within(i, 0, FACTS - 1) || !within(kind, 0, KINDS - 1)) {
            return false;
        }
        net.told |= 1 << i;
        net.kind[i] = kind;
        return true;
    }

    public boolean link(int i, int j, int n) {
        if (!has(net.told, i) || !has(net.told, j) || i == j || !within(n, 0, 9)) {
            return false;
        }
        net.link[i][j] = n;
        return true;
    }

    public boolean pupil(int p, int grade, int age) {
        if (!within(p, 0, PUPILS - 1) || !within(grade, 1, CLASSES) || !within(age, 0, 99)) {
            return false;
        }
        roll.tell(p, grade, age);
        return true;
    }

    public boolean knows(int p, int i, int strength) {
        if (!has(roll.told, p) || !has(net.told, i) || !within(strength, 0, STRONGEST)) {
            return false;
        }
        roll.strength[p][i] = strength;
        return true;
    }

    public int feed(int a, int b, int c, int d, int e) {
        if (tape.size + Tape.FED > Tape.MOST) {
            return NONE;
        }
        tape.put(a);
        tape.put(b);
        tape.put(c);
        tape.put(d);
        tape.put(e);
        return tape.size;
    }

    public int art(int k, int n) {
        if (!within(k, 0, ARTS - 1) || !within(n, 1, ArtReader.MOST_BYTES) || n > tape.size) {
            return NONE;
        }
        int answer = artReader.read(n, newArt);
        tape.size = 0;
        if (answer > 0) {
            course.arts[k].become(newArt);
            course.toldArts |= 1 << k;
        }
        return answer;
    }

    public int law(int n) {
        if (!within(n, 1, LawReader.MOST_BYTES) || n > tape.size) {
            return NONE;
        }
        int answer = lawReader.read(n, newLaw);
        tape.size = 0;
        if (answer > 0) {
            Law before = ruling;
            ruling = newLaw;
            newLaw = before;
        }
        return answer;
    }

    public boolean grade(int c, int k) {
        if (!within(c, 1, CLASSES) || !within(k, NONE, ARTS - 1)) {
            return false;
        }
        course.artOfClass[c] = k;
        return true;
    }

    public boolean exam(int facts, int limit) {
        if (!within(facts, 0, (1 << FACTS) - 1) || !within(limit, 0, FACTS)) {
            return false;
        }
        course.asked = facts;
        course.limit = limit;
        return true;
    }

    public int weeks(int n) {
        if (!within(n, 1, MOST_WEEKS)) {
            return NONE;
        }
        int before = roll.passed;
        course.begin(ruling, roll);
        course.go(n);
        return roll.passed - before;
    }

    public int tried(int n, int what) {
        if (!canBeTried(n, what)) {
            return NONE;
        }
        beginTrial(ruling);
        course.go(n);
        return trialTells(what);
    }

    public int other(int n, int what) {
        if (!canBeTried(n, what)) {
            return NONE;
        }
        beginTrial(copiedLaw);
        course.go(n);
        return trialTells(what);
    }

    public int copy() {
        copiedLaw.become(ruling);
        return copiedLaw.clauses;
    }

    public int first(int n, int i, int what) {
        if (!within(n, 1, MOST_WEEKS) || !has(net.told, i) || !within(what, 0, 1)) {
            return NONE;
        }
        beginTrial(ruling);
        for (int w = 1; w <= n; w++) {
            course.go(1);
            for (int p = 0; p < PUPILS; p++) {
                if (has(roll.told, p) && roll.strength[p][i] > 0 && trialRoll.strength[p][i] == 0) {
                    return what == 0 ? p : w;
                }
            }
        }
        return NOTHING;
    }

    public int does(int p, int k) {
        if (!has(roll.told, p) || !has(course.toldArts, k)) {
            return NONE;
        }
        course.begin(ruling, roll);
        course.doArt(p, course.arts[k]);
        return Integer.bitCount(roll.known(p));
    }

    public int pupilIs(int p, int what) {
        if (!has(roll.told, p)) {
            return NONE;
        }
        switch (what) {
            case 0: return roll.grade[p];
            case 1: return roll.age[p];
            case 2: return roll.known(p);
            case 3: return roll.strongest(p);
            case 4: return roll.together(p);
            default: return NONE;
        }
    }

    public int strength(int p, int i) {
        return has(roll.told, p) && has(net.told, i) ? roll.strength[p][i] : NONE;
    }

    public int heard(int p, int i) {
        return has(roll.told, p) && has(net.told, i) ? net.sound(roll.strength[p], i) : NONE;
    }

    public int order(int p, int arts, int gone, int kept, int what) {
        if (!has(roll.told, p) || !areOf(arts, course.toldArts) || !within(Integer.bitCount(arts), 1, 4)
                || !areOf(gone, net.told) || !areOf(kept, net.told) || (gone & kept) != 0) {
            return NONE;
        }
        beginTrial(ruling);
        int times = search.find(course, p, arts, gone, kept);
        if (times < 0) {
            return NOTHING;
        }
        if (what == HOW_MUCH) {
            return times;
        }
        return within(what, 0, times - 1) ? search.row[what] : NO_PLACE;
    }

    public int still(int p, int k, int what) {
        if (!has(roll.told, p) || !has(course.toldArts, k) || !within(what, 0, 1)) {
            return NONE;
        }
        beginTrial(ruling);
        int times = course.timesTillRest(p, course.arts[k]);
        if (times > MOST_RESTS) {
            return NOTHING;
        }
        return what == 0 ? times : Integer.bitCount(trialRoll.known(p));
    }

    public int cut(int i, int j, int what) {
        if (!has(net.told, i) || !has(net.told, j) || i == j || !within(what, 0, 1)) {
            return NONE;
        }
        if (net.link[i][j] > 0) {
            return NOTHING;
        }
        int facts = net.fewestBetween(i, j);
        return what == 0 ? Integer.bitCount(facts) : facts;
    }

    public int recalls(int i) {
        return has(net.told, i) ? net.reached(i, 0) : NONE;
    }

    public int root() {
        int best = NOTHING;
        int most = -1;
        for (int i = 0; i < FACTS; i++) {
            int count = Integer.bitCount(net.reached(i, 0));
            if (has(net.told, i) && count > most) {
                most = count;
                best = i;
            }
        }
        return best;
    }

    public int kin(int what) {
        if (what == 100) {
            return net.groups();
        }
        return has(net.told, what) ? net.group(what) : NONE;
    }

    public int questions(int pupils, int what) {
        if (!areSome(pupils) || !within(what, 0, 1)) {
            return NONE;
        }
        if (!roll.apart(pupils, net.told)) {
            return NOTHING;
        }
        int facts = fewestQuestions(pupils);
        return what == 0 ? Integer.bitCount(facts) : facts;
    }

    public boolean reminds(int p, int q, int n) {
        if (!has(roll.told, p) || !has(roll.told, q) || p == q || !within(n, 0, 99)) {
            return false;
        }
        staff.reminding[p][q] = n;
        staff.reminding[q][p] = n;
        return true;
    }

    public int parted(int pupils, int what) {
        if (!areSome(pupils) || !within(what, 0, 1)) {
            return NONE;
        }
        int room = staff.calmestRoom(pupils);
        return what == 1 ? room : staff.noise(room) + staff.noise(pupils & ~room);
    }

    public boolean skill(int m, int k, int n) {
        if (!within(m, 0, MASTERS - 1) || !within(k, 0, ARTS - 1) || !within(n, 0, 99)) {
            return false;
        }
        staff.masters |= 1 << m;
        staff.skill[m][k] = n;
        return true;
    }

    public int taught(int masters, int arts, int what) {
        if (!areOf(masters, staff.masters) || !within(arts, 1, (1 << ARTS) - 1)
                || Integer.bitCount(masters) != Integer.bitCount(arts)) {
            return NONE;
        }
        if (what != HOW_MUCH && !has(arts, what)) {
            return NONE;
        }
        int most = staff.assign(masters, arts);
        return what == HOW_MUCH ? most : staff.masterOf[what];
    }

    public int hummed(int n, int least, int what) {
        if (!within(n, 1, 6) || !within(least, 1, 9) || !within(what, 0, 1) || n > tape.size
                || !tape.holdsFacts(n)) {
            return NONE;
        }
        tape.size = 0;
        if (!areOf(tape.asBits(n), net.told)) {
            return NOTHING;
        }
        int ways = 1;
        int always = tape.asBits(n);
        for (int at = 1; at < n; at++) {
            int choices = net.between(tape.bytes[at - 1], tape.bytes[at], least);
            ways *= Integer.bitCount(choices);
            if (Integer.bitCount(choices) == 1) {
                always |= choices & ~Net.WITHOUT_ONE;
            }
        }
        if (what == 0) {
            return ways;
        }
        return ways == 0 ? 0 : always;
    }

    public int odds(int p, int facts, int limit, int what) {
        if (!has(roll.told, p) || !areOf(facts, net.told) || Integer.bitCount(facts) > Odds.MOST
                || !within(limit, 0, FACTS) || !within(what, 0, 1)) {
            return NONE;
        }
        chances.begin();
        for (int i = 0; i < FACTS; i++) {
            if (has(facts, i)) {
                chances.ask(tenths(roll.strength[p][i]));
            }
        }
        chances.shorten(limit);
        return what == 0 ? chances.above : chances.below;
    }

    public int crib(int p, int what) {
        if (!has(roll.told, p) || !within(what, 0, 1)) {
            return NONE;
        }
        int best = NOTHING;
        int most = -1;
        for (int i = 0; i < FACTS; i++) {
            if (has(net.told, i) && roll.strength[p][i] == 0) {
                beginTrial(ruling);
                trialRoll.strength[p][i] = STRONGEST;
                int count = course.recall(p);
                if (count > most) {
                    most = count;
                    best = i;
                }
            }
        }
        return best == NOTHING || what == 0 ? best : most;
    }

    public boolean seed(int x) {
        if (!within(x, 0, 65535)) {
            return false;
        }
        roll.x = x;
        return true;
    }

    public int keep() {
        keptRoll.become(roll);
        isKept = true;
        return roll.week;
    }

    public boolean undo() {
        if (!isKept) {
            return false;
        }
        roll.become(keptRoll);
        return true;
    }

    public int check(int p, int n) {
        if (!has(roll.told, p) || !within(n, 0, FACTS) || n > tape.size) {
            return NOTHING;
        }
        tape.size = 0;
        for (int i = 0; i < n; i++) {
            if (tape.bytes[i] != roll.strength[p][i]) {
                return i;
            }
        }
        return NONE;
    }

    public int count(int what) {
        if (has(course.toldArts, what - 20)) {
            return course.arts[what - 20].count;
        }
        if (within(what, 31, 39)) {
            int k = course.artOfClass[what - 30];
            return k == NONE ? NOTHING : k;
        }
        if (has(net.told, what - 40)) {
            return net.kind[what - 40];
        }
        switch (what) {
            case 0: return roll.week;
            case 1: return roll.passed;
            case 2: return roll.recalled;
            case 3: return net.told;
            case 4: return roll.told;
            case 5: return course.toldArts;
            case 6: return staff.masters;
            case 7: return ruling.clauses;
            case 8: return tape.size;
            case 9: return roll.x;
            case 10: return course.asked;
            case 11: return course.limit;
            default: return NONE;
        }
    }

    private static boolean within(int n, int least, int most) {
        return n >= least && n <= most;
    }

    private static boolean has(int bits, int i) {
        return i >= 0 && i < 31 && (bits >> i & 1) == 1;
    }

    private static boolean areOf(int bits, int told) {
        return (bits & ~told) == 0;
    }

    private static int lowestBit(int bits) {
        return bits & -bits;
    }

    /** Strength through ten, rounded up: of ten draws so many remember. */
    private static int tenths(int strength) {
        return (strength + 9) / 10;
    }

    private boolean areSome(int some) {
        return areOf(some, roll.told) && Integer.bitCount(some) >= 2;
    }

    private boolean canBeTried(int n, int what) {
        return within(n, 1, MOST_WEEKS) && (within(what, 0, 3) || has(roll.told, what - 10)
                || has(roll.told, what - 20) || has(net.told, what - 30));
    }

    private void beginTrial(Law law) {
        trialRoll.become(roll);
        course.begin(law, trialRoll);
    }

    private int trialTells(int what) {
        if (within(what, 10, 17)) {
            return Integer.bitCount(trialRoll.known(what - 10));
        }
        if (within(what, 20, 27)) {
            return trialRoll.grade[what - 20];
        }
        if (within(what, 30, 41)) {
            return trialRoll.knowing(what - 30);
        }
        switch (what) {
            case 0: return trialRoll.passed - roll.passed;
            case 1: return course.cameOut;
            case 2: return trialRoll.recalled - roll.recalled;
            default: return course.remembered;
        }
    }

    private int fewestQuestions(int some) {
        int best = net.told;
        for (int facts = 0; facts < 1 << FACTS; facts++) {
            if (areOf(facts, net.told) && Integer.bitCount(facts) < Integer.bitCount(best)
                    && roll.apart(some, facts)) {
                best = facts;
            }
        }
        return best;
    }

    /** The bytes that have been fed and not yet read. */
    private static final class Tape {
        static final int MOST = 260;
        static final int FED = 20;
        final int[] bytes;
        int size;

        Tape() {
            bytes = new int[MOST];
            size = 0;
        }

        void put(int four) {
            for (int shift = 24; shift >= 0 && size < MOST; shift -= 8) {
                bytes[size] = four >> shift & 255;
                size++;
            }
        }

        boolean holdsFacts(int n) {
            for (int at = 0; at < n && at < MOST; at++) {
                if (bytes[at] >= FACTS) {
                    return false;
                }
            }
            return true;
        }

        int asBits(int n) {
            int bits = 0;
            for (int at = 0; at < n && at < MOST; at++) {
                bits |= 1 << bytes[at];
            }
            return bits;
        }
    }

    /** The facts and by how much each recalls the others. */
    private static final class Net {
        /** Beside the bits of the facts between two: the bit for none between them. */
        static final int WITHOUT_ONE = 1 << FACTS;
        final int[] kind;
        final int[][] link;
        int told;

        Net() {
            kind = new int[FACTS];
            link = new int[FACTS][FACTS];
            told = 0;
        }

        int sound(int[] strength, int i) {
            int sum = 0;
            for (int j = 0; j < FACTS; j++) {
                sum += strength[j] * link[j][i] / 10;
            }
            return sum;
        }

        int linked(int i) {
            int bits = 0;
            for (int j = 0; j < FACTS; j++) {
                if (link[i][j] > 0) {
                    bits |= 1 << j;
                }
            }
            return bits;
        }

        /** Which facts one comes to from a fact by one link or more, never through those that are cut. */
        int reached(int i, int cutOnes) {
            int reached = linked(i) & ~cutOnes;
            int asked = 0;
            for (int round = 0; round < FACTS && asked != reached; round++) {
                int fresh = reached & ~asked;
                asked = reached;
                for (int j = 0; j < FACTS; j++) {
                    if (has(fresh, j)) {
                        reached |= linked(j) & ~cutOnes;
                    }
                }
            }
            return reached;
        }

        int fewestBetween(int i, int j) {
            int others = told & ~(1 << i) & ~(1 << j);
            int best = others;
            for (int facts = 0; facts < 1 << FACTS; facts++) {
                if (areOf(facts, others) && Integer.bitCount(facts) < Integer.bitCount(best)
                        && !has(reached(i, facts), j)) {
                    best = facts;
                }
            }
            return best;
        }

        int group(int i) {
            int bits = 1 << i;
            int reached = reached(i, 0);
            for (int j = 0; j < FACTS; j++) {
                if (has(reached, j) && has(reached(j, 0), i)) {
                    bits |= 1 << j;
                }
            }
            return bits;
        }

        int groups() {
            int count = 0;
            for (int i = 0; i < FACTS; i++) {
                if (has(told, i) && lowestBit(group(i)) == 1 << i) {
                    count++;
                }
            }
            return count;
        }

        /** What may have been hummed between two facts: facts as bits, and none. */
        int between(int from, int to, int least) {
            int bits = link[from][to] >= least ? WITHOUT_ONE : 0;
            for (int m = 0; m < FACTS; m++) {
                if (link[from][m] >= least && link[m][to] >= least) {
                    bits |= 1 << m;
                }
            }
            return bits;
        }
    }

    /** All that is kept and undone. */
    private static final class Pupils {
        final int[] grade;
        final int[] age;
        final int[][] strength;
        int told;
        int week;
        int passed;
        int recalled;
        int x;

        Pupils() {
            grade = new int[PUPILS];
            age = new int[PUPILS];
            strength = new int[PUPILS][FACTS];
            told = 0;
            week = 0;
            passed = 0;
            recalled = 0;
            x = 1;
        }

        void become(Pupils from) {
            for (int p = 0; p < PUPILS; p++) {
                grade[p] = from.grade[p];
                age[p] = from.age[p];
                for (int i = 0; i < FACTS; i++) {
                    strength[p][i] = from.strength[p][i];
                }
            }
            told = from.told;
            week = from.week;
            passed = from.passed;
            recalled = from.recalled;
            x = from.x;
        }

        void tell(int p, int itsGrade, int itsAge) {
            told |= 1 << p;
            grade[p] = itsGrade;
            age[p] = itsAge;
            for (int i = 0; i < FACTS; i++) {
                strength[p][i] = 0;
            }
        }

        int known(int p) {
            int bits = 0;
            for (int i = 0; i < FACTS; i++) {
                if (strength[p][i] > 0) {
                    bits |= 1 << i;
                }
            }
            return bits;
        }

        int strongest(int p) {
            int best = NOTHING;
            int most = 0;
            for (int i = 0; i < FACTS; i++) {
                if (strength[p][i] > most) {
                    most = strength[p][i];
                    best = i;
                }
            }
            return best;
        }

        int together(int p) {
            int sum = 0;
            for (int i = 0; i < FACTS; i++) {
                sum += strength[p][i];
            }
            return sum;
        }

        int knowing(int i) {
            int count = 0;
            for (int p = 0; p < PUPILS; p++) {
                if (has(told, p) && strength[p][i] > 0) {
                    count++;
                }
            }
            return count;
        }

        boolean apart(int some, int facts) {
            for (int p = 0; p < PUPILS; p++) {
                for (int q = p + 1; q < PUPILS; q++) {
                    if (has(some, p) && has(some, q) && ((known(p) ^ known(q)) & facts) == 0) {
                        return false;
                    }
                }
            }
            return true;
        }

        int draw() {
            x = 25173 * x + 13849 & 65535;
            return x % 10;
        }
    }

    /** An art as a plain row of steps, what is repeated written out. */
    private static final class Art {
        static final int MOST = 48;
        static final int WEAKEN = 0;
        static final int HALVE = 1;
        static final int SLEEP = 2;
        static final int REPEAT = 3;
        final int[] way;
        final int[] which;
        int count;

        Art() {
            way = new int[MOST];
            which = new int[MOST];
            count = 0;
        }

        void become(Art from) {
            for (int s = 0; s < MOST; s++) {
                way[s] = from.way[s];
                which[s] = from.which[s];
            }
            count = from.count;
        }

        /** False, and nothing added, where the steps would be too many. */
        boolean add(int itsWay, int itsWhich) {
            if (count >= MOST) {
                return false;
            }
            way[count] = itsWay;
            which[count] = itsWhich;
            count++;
            return true;
        }

        /** The steps from a place on stand there so many times. */
        boolean multiply(int from, int times) {
            int length = count - from;
            if (from < 0 || from + length * times > MOST) {
                return false;
            }
            int end = from + length * times;
            for (int s = count; s < end; s++) {
                way[s] = way[s - length];
                which[s] = which[s - length];
            }
            count = end;
            return true;
        }
    }

    /** Reads an art's text. */
    private static final class ArtReader {
        static final int MOST_BYTES = 60;
        private static final int DEEPEST = 2;
        private final int[] text;
        private int end;
        private int at;
        private int fault;
        private Art art;

        ArtReader(int[] tape, Art first) {
            text = tape;
            art = first;
            end = 0;
            at = 0;
            fault = 0;
        }

        int read(int n, Art into) {
            end = Math.min(n, text.length);
            at = 0;
            art = into;
            art.count = 0;
            if (!steps(0)) {
                return fault;
            }
            return at == end || wrong(1, at) ? art.count : fault;
        }

        private boolean wrong(int number, int place) {
            fault = -1000 * number - place;
            return false;
        }

        private int sign() {
            return at < end ? text[at] : NONE;
        }

        private boolean steps(int open) {
            for (int turn = 0; turn < MOST_BYTES; turn++) {
                if (!item(open)) {
                    return false;
                }
                if (at >= end || text[at] == ')') {
                    return true;
                }
            }
            return wrong(1, at);
        }

        private boolean item(int open) {
            int start = at;
            int before = art.count;
            int times = 1;
            if (within(sign(), '2', '9')) {
                times = sign() - '0';
                at++;
            }
            if (sign() == '(') {
                if (open >= DEEPEST) {
                    return wrong(5, at);
                }
                at++;
                if (!steps(open + 1)) {
                    return false;
                }
                if (sign() != ')') {
                    return wrong(1, at);
                }
                at++;
            } else if (!step(start)) {
                return false;
            }
            return art.multiply(before, times) || wrong(6, start);
        }

        private boolean step(int start) {
            int way = wayOf(sign());
            if (way == Art.REPEAT) {
                at++;
            }
            int sign = sign();
            int which = way == Art.HALVE ? sign - 'A' : way == Art.SLEEP ? 0 : sign - 'a';
            int most = way == Art.HALVE ? KINDS - 1 : FACTS - 1;
            if (way == NONE || !within(which, 0, most)) {
                return wrong(1, at);
            }
            at++;
            return art.add(way, which) || wrong(6, start);
        }

        private int wayOf(int sign) {
            if (within(sign, 'a', 'l')) {
                return Art.WEAKEN;
            }
            if (within(sign, 'A', 'I')) {
                return Art.HALVE;
            }
            if (sign == '.') {
                return Art.SLEEP;
            }
            return sign == '+' ? Art.REPEAT : NONE;
        }
    }

    /** A law as short programs for a pile of numbers: of each clause its E and its C. */
    private static final class Law {
        static final int MOST_CLAUSES = 16;
        static final int END = 0;
        static final int NUMBER = 1;
        static final int LETTER = 2;
        static final int NOT = 3;
        static final int AND = 4;
        static final int OR = 5;
        private static final int MOST_ORDERS = 256;
        private static final int HIGHEST_PILE = 64;
        final int[] letter;
        final int[] amountAt;
        final int[] holdsAt;
        final int[] order;
        final int[] with;
        final int[] pile;
        int clauses;
        int size;

        Law() {
            letter = new int[MOST_CLAUSES];
            amountAt = new int[MOST_CLAUSES];
            holdsAt = new int[MOST_CLAUSES];
            order = new int[MOST_ORDERS];
            with = new int[MOST_ORDERS];
            pile = new int[HIGHEST_PILE];
            clauses = 0;
            size = 0;
        }

        void become(Law from) {
            clauses = from.clauses;
            size = from.size;
            for (int c = 0; c < MOST_CLAUSES; c++) {
                letter[c] = from.letter[c];
                amountAt[c] = from.amountAt[c];
                holdsAt[c] = from.holdsAt[c];
            }
            for (int o = 0; o < MOST_ORDERS; o++) {
                order[o] = from.order[o];
                with[o] = from.with[o];
            }
        }

        void add(int anOrder, int itsWith) {
            if (size < MOST_ORDERS) {
                order[size] = anOrder;
                with[size] = itsWith;
                size++;
            }
        }

        /** Every jump of a chain (each holds the one before it) goes to what comes next. */
        void land(int chain) {
            int jump = chain;
            for (int turn = 0; turn < MOST_ORDERS && jump >= 0 && jump < MOST_ORDERS; turn++) {
                int before = with[jump];
                with[jump] = size;
                jump = before;
            }
        }

        /** What the first clause of a letter says whose C holds, within 0 and a bound. */
        int amount(char which, int most, int[] about) {
            for (int c = 0; c < clauses && c < MOST_CLAUSES; c++) {
                if (letter[c] == which && run(holdsAt[c], about) != 0) {
                    return Math.max(0, Math.min(most, run(amountAt[c], about)));
                }
            }
            return 0;
        }

        boolean keeps(int[] about) {
            for (int c = 0; c < clauses && c < MOST_CLAUSES; c++) {
                if (letter[c] == 'x' && run(holdsAt[c], about) != 0) {
                    return true;
                }
            }
            return false;
        }

        /** What is refused gives 0: as a C it does not hold, as an E it is 0. */
        private int run(int from, int[] about) {
            int high = 0;
            for (int at = Math.max(0, from); at < size && at < MOST_ORDERS && order[at] != END; at++) {
                int what = order[at];
                if (what <= LETTER) {
                    if (high >= HIGHEST_PILE) {
                        return 0;
                    }
                    pile[high] = what == NUMBER ? with[at] : about[with[at] & 7];
                    high++;
                } else if (what <= OR) {
                    if (high < 1) {
                        return 0;
                    }
                    boolean holds = pile[high - 1] != 0;
                    if (what == NOT) {
                        pile[high - 1] = holds ? 0 : 1;
                    } else if (holds == (what == OR)) {
                        at = Math.max(at, with[at] - 1);
                    } else {
                        high--;
                    }
                } else {
                    if (high < 2 || pile[high - 1] == 0 && (what == '/' || what == '%')) {
                        return 0;
                    }
                    high--;
                    pile[high - 1] = reckon(what, pile[high - 1], pile[high]);
                }
            }
            return high == 1 ? pile[0] : 0;
        }

        private static int reckon(int sign, int left, int right) {
            switch (sign) {
                case '+': return left + right;
                case '-': return left - right;
                case '*': return left * right;
                case '/': return right == 0 ? 0 : left / right;
                case '%': return right == 0 ? 0 : left % right;
                case '<': return left < right ? 1 : 0;
                case '>': return left > right ? 1 : 0;
                default: return left == right ? 1 : 0;
            }
        }
    }

    /** Reads a law's text. */
    private static final class LawReader {
        static final int MOST_BYTES = 240;
        private static final int DEEPEST = 6;
        private static final int MOST_DIGITS = 5;
        private static final String CLAUSE_LETTERS = "wsrhx";
        /** In the order in which Course.about() lays them out. */
        private static final String FACTOR_LETTERS = "fkvpcany";
        private final int[] text;
        private int end;
        private int at;
        private int fault;
        private Law law;

        LawReader(int[] tape, Law first) {
            text = tape;
            law = first;
            end = 0;
            at = 0;
            fault = 0;
        }

        int read(int n, Law into) {
            end = Math.min(n, text.length);
            at = 0;
            law = into;
            law.size = 0;
            law.clauses = 0;
            for (int c = 0; c <= Law.MOST_CLAUSES; c++) {
                if (!clause(c)) {
                    return fault;
                }
                law.clauses = c + 1;
                if (at == end) {
                    return law.clauses;
                }
                if (text[at] != ';') {
                    wrong(1);
                    return fault;
                }
                at++;
            }
            return fault;
        }

        private boolean wrong(int number) {
            fault = -1000 * number - at;
            return false;
        }

        private int sign() {
            return at < end ? text[at] : NONE;
        }

        private static int placeOf(String letters, int sign) {
            return sign < 0 ? NONE : letters.indexOf((char) sign);
        }

        private boolean clause(int c) {
            int letter = sign();
            if (placeOf(CLAUSE_LETTERS, letter) < 0) {
                return wrong(1);
            }
            if (c >= Law.MOST_CLAUSES) {
                return wrong(4);
            }
            at++;
            law.letter[c] = letter;
            law.amountAt[c] = law.size;
            if (letter != 'x' && !expression(0)) {
                return false;
            }
            law.add(Law.END, 0);
            law.holdsAt[c] = law.size;
            if (sign() != '(') {
                return wrong(1);
            }
            at++;
            if (!condition(1)) {
                return false;
            }
            law.add(Law.END, 0);
            return passes(')');
        }

        private boolean passes(int sign) {
            if (at < end && text[at] == sign) {
                at++;
                return true;
            }
            fault = -1000 - at;
            return false;
        }

        /** PARTS with | between, TESTS with & between: what does not matter any more is jumped over. */
        private boolean condition(int open) {
            int ands = NONE;
            int ors = NONE;
            while (at <= end) {
                if (!test(open)) {
                    return false;
                }
                int sign = sign();
                int jump = law.size;
                if (sign == '&') {
                    law.add(Law.AND, ands);
                    ands = jump;
                } else {
                    law.land(ands);
                    ands = NONE;
                    if (sign != '|') {
                        law.land(ors);
                        return true;
                    }
                    law.add(Law.OR, ors);
                    ors = jump;
                }
                at++;
            }
            return wrong(1);
        }

        private boolean test(int open) {
            int sign = sign();
            if (sign == '!' || sign == '(') {
                if (open >= DEEPEST) {
                    return wrong(5);
                }
                at++;
                if (sign == '(') {
                    return condition(open + 1) && passes(')');
                }
                if (!test(open + 1)) {
                    return false;
                }
                law.add(Law.NOT, 0);
                return true;
            }
            if (!expression(open)) {
                return false;
            }
            sign = sign();
            if (sign != '<' && sign != '>' && sign != '=') {
                return wrong(1);
            }
            at++;
            if (!expression(open)) {
                return false;
            }
            law.add(sign, 0);
            return true;
        }

        /** The sign of a sum waits until its TERM has ended, that of a product until its FACTOR has. */
        private boolean expression(int open) {
            int sum = NONE;
            int product = NONE;
            while (at <= end) {
                if (!factor(open)) {
                    return false;
                }
                if (product != NONE) {
                    law.add(product, 0);
                }
                int sign = sign();
                product = sign == '*' || sign == '/' || sign == '%' ? sign : NONE;
                if (product == NONE) {
                    if (sum != NONE) {
                        law.add(sum, 0);
                    }
                    sum = sign == '+' || sign == '-' ? sign : NONE;
                    if (sum == NONE) {
                        return true;
                    }
                }
                at++;
            }
            return wrong(1);
        }

        private boolean factor(int open) {
            int sign = sign();
            if (sign == '[') {
                if (open >= DEEPEST) {
                    return wrong(5);
                }
                at++;
                return expression(open + 1) && passes(']');
            }
            if (within(sign, '0', '9')) {
                int number = number();
                law.add(Law.NUMBER, number);
                return number != NONE || wrong(2);
            }
            int place = placeOf(FACTOR_LETTERS, sign);
            if (place < 0) {
                return wrong(1);
            }
            law.add(Law.LETTER, place);
            at++;
            return true;
        }

        /** NONE, and still at it, where a digit is one too many. */
        private int number() {
            int number = 0;
            int start = at;
            while (at < end && text[at] >= '0' && text[at] <= '9') {
                if (at - start >= MOST_DIGITS) {
                    return NONE;
                }
                number = number * 10 + text[at] - '0';
                at++;
            }
            return number;
        }
    }

    /** Does arts and weeks with the pupils and by the law that it was begun with. */
    private static final class Course {
        final Net net;
        final Art[] arts;
        final int[] artOfClass;
        private final int[] row;
        int toldArts;
        int asked;
        int limit;
        int cameOut;
        int remembered;
        private Law law;
        private Pupils pupils;

        Course(Net itsNet, Law firstLaw, Pupils firstPupils) {
            net = itsNet;
            law = firstLaw;
            pupils = firstPupils;
            arts = new Art[ARTS];
            for (int k = 0; k < ARTS; k++) {
                arts[k] = new Art();
            }
            artOfClass = new int[CLASSES + 1];
            for (int c = 0; c <= CLASSES; c++) {
                artOfClass[c] = NONE;
            }
            row = new int[8];
            toldArts = 0;
            asked = 0;
            limit = 0;
            cameOut = 0;
            remembered = 0;
        }

        void begin(Law byLaw, Pupils withPupils) {
            law = byLaw;
            pupils = withPupils;
            cameOut = 0;
            remembered = 0;
        }

        void go(int n) {
            for (int w = 0; w < n && pupils.week < LAST_WEEK; w++) {
                for (int p = 0; p < PUPILS; p++) {
                    if (has(pupils.told, p) && pupils.grade[p] <= CLASSES) {
                        goThrough(p);
                    }
                }
                pupils.week++;
            }
        }

        private void goThrough(int p) {
            int month = pupils.week % 12;
            if (month >= 10) {
                rest(p);
            } else {
                int k = artOfClass[pupils.grade[p]];
                if (has(toldArts, k)) {
                    doArt(p, arts[k]);
                }
            }
            recall(p);
            if (asked != 0 && month % 4 == 3) {
                examine(p);
            }
        }

        private void rest(int p) {
            int[] strength = pupils.strength[p];
            for (int i = 0; i < FACTS; i++) {
                if (strength[i] > 0) {
                    strength[i] = Math.min(STRONGEST, strength[i] + law.amount('r', 20, about(p, i)));
                }
            }
        }

        void doArt(int p, Art art) {
            for (int s = 0; s < art.count && s < Art.MOST; s++) {
                for (int i = 0; i < FACTS; i++) {
                    if (concerns(art.way[s], art.which[s], i)) {
                        change(p, i, art.way[s]);
                    }
                }
            }
        }

        private boolean concerns(int way, int which, int i) {
            if (!has(net.told, i) || way == Art.SLEEP) {
                return has(net.told, i);
            }
            return which == (way == Art.HALVE ? net.kind[i] : i);
        }

        private void change(int p, int i, int way) {
            int[] strength = pupils.strength[p];
            int[] about = about(p, i);
            if (way == Art.REPEAT) {
                strength[i] = Math.min(STRONGEST, strength[i] + law.amount('s', STRONGEST, about));
                return;
            }
            if (strength[i] == 0 || law.keeps(about)) {
                return;
            }
            if (way == Art.WEAKEN) {
                strength[i] = Math.max(0, strength[i] - law.amount('w', STRONGEST, about));
            } else {
                strength[i] = way == Art.HALVE ? strength[i] / 2 : strength[i] - 1;
            }
        }

        /** Once through the facts of strength 0: how many are recalled. */
        int recall(int p) {
            int[] strength = pupils.strength[p];
            int count = 0;
            for (int i = 0; i < FACTS; i++) {
                if (has(net.told, i) && strength[i] == 0) {
                    int more = net.sound(strength, i) - law.amount('h', 999, about(p, i));
                    if (more > 0) {
                        strength[i] = Math.min(STRONGEST, more);
                        count++;
                    }
                }
            }
            pupils.recalled += count;
            return count;
        }

        private void examine(int p) {
            int right = 0;
            for (int i = 0; i < FACTS; i++) {
                if (has(net.told & asked, i) && pupils.draw() < tenths(pupils.strength[p][i])) {
                    right++;
                }
            }
            remembered += right;
            if (right > limit) {
                return;
            }
            pupils.passed++;
            pupils.grade[p]++;
            if (pupils.grade[p] == OUT) {
                cameOut++;
            }
        }

        /** An art and what is recalled behind it. */
        void turn(int p, Art art) {
            doArt(p, art);
            recall(p);
        }

        /** More than the most where it never rests. */
        int timesTillRest(int p, Art art) {
            int[] strength = pupils.strength[p];
            for (int times = 0; times <= MOST_RESTS; times++) {
                long low = Search.packed(strength, 0);
                long high = Search.packed(strength, Search.HALF);
                turn(p, art);
                if (low == Search.packed(strength, 0) && high == Search.packed(strength, Search.HALF)) {
                    return times;
                }
            }
            return MOST_RESTS + 1;
        }

        /** What the law's letters f k v p c a n y stand for. */
        private int[] about(int p, int i) {
            row[0] = i;
            row[1] = net.kind[i];
            row[2] = pupils.strength[p][i];
            row[3] = p;
            row[4] = pupils.grade[p];
            row[5] = pupils.age[p];
            row[6] = Integer.bitCount(pupils.known(p));
            row[7] = pupils.week % 52;
            return row;
        }
    }

    /** In which order arts are taught: all strengths that rows of arts lead to, shorter and lesser rows first. */
    private static final class Search {
        static final int HALF = 6;
        private static final int LONGEST = 5;
        /** Rows of no to four arts of four. */
        private static final int MOST = 341;
        final int[] row;
        private final long[] low;
        private final long[] high;
        private final int[] from;
        private final int[] by;
        private final int[] length;
        private int size;

        Search() {
            row = new int[LONGEST];
            low = new long[MOST];
            high = new long[MOST];
            from = new int[MOST];
            by = new int[MOST];
            length = new int[MOST];
            size = 0;
        }

        /** How many arts the row has; NONE: no row does it. */
        int find(Course course, int p, int arts, int gone, int kept) {
            int[] strength = course.pupils.strength[p];
            if (fits(course.pupils.known(p), gone, kept)) {
                return 0;
            }
            size = 0;
            add(strength, NONE, NONE);
            for (int at = 0; at < size && at < MOST; at++) {
                for (int k = 0; k < ARTS; k++) {
                    if (has(arts, k)) {
                        unpack(at, strength);
                        course.turn(p, course.arts[k]);
                        if (fits(course.pupils.known(p), gone, kept)) {
                            return write(at, k);
                        }
                        add(strength, at, k);
                    }
                }
            }
            return NONE;
        }

        private static boolean fits(int known, int gone, int kept) {
            return (known & gone) == 0 && areOf(kept, known);
        }

        /** Strengths that a lesser row has led to already lead to nothing new. */
        private void add(int[] strength, int before, int k) {
            long itsLow = packed(strength, 0);
            long itsHigh = packed(strength, HALF);
            int itsLength = before < 0 ? 0 : length[before] + 1;
            if (itsLength >= LONGEST || size >= MOST) {
                return;
            }
            for (int at = 0; at < size; at++) {
                if (low[at] == itsLow && high[at] == itsHigh) {
                    return;
                }
            }
            low[size] = itsLow;
            high[size] = itsHigh;
            from[size] = before;
            by[size] = k;
            length[size] = itsLength;
            size++;
        }

        static long packed(int[] strength, int start) {
            long bits = 0;
            for (int i = start; i < start + HALF && i < strength.length; i++) {
                bits = bits << 7 | strength[i];
            }
            return bits;
        }

        private void unpack(int at, int[] strength) {
            for (int i = 0; i < HALF && i + HALF < strength.length; i++) {
                int shift = 7 * (HALF - 1 - i);
                strength[i] = (int) (low[at] >> shift & 127);
                strength[i + HALF] = (int) (high[at] >> shift & 127);
            }
        }

        private int write(int last, int k) {
            int count = length[last] + 1;
            row[Math.min(count, LONGEST) - 1] = k;
            int at = last;
            for (int place = count - 2; place >= 0 && place < LONGEST && at >= 0; place--) {
                row[place] = by[at];
                at = from[at];
            }
            return count;
        }
    }

    /** How much pupils remind each other, and how well masters teach. */
    private static final class Staff {
        final int[][] reminding;
        final int[][] skill;
        final int[] masterOf;
        private final int[] picked;
        int masters;

        Staff() {
            reminding = new int[PUPILS][PUPILS];
            skill = new int[MASTERS][ARTS];
            masterOf = new int[ARTS];
            picked = new int[ARTS];
            masters = 0;
        }

        int noise(int room) {
            int sum = 0;
            for (int p = 0; p < PUPILS; p++) {
                for (int q = p + 1; q < PUPILS; q++) {
                    if (has(room, p) && has(room, q)) {
                        sum += reminding[p][q];
                    }
                }
            }
            return sum;
        }

        /** The room without the lowest pupil. */
        int calmestRoom(int some) {
            int others = some & ~lowestBit(some);
            int best = others;
            int least = noise(others);
            for (int room = 1; room < others; room++) {
                if (areOf(room, others)) {
                    int much = noise(room) + noise(some & ~room);
                    if (much < least || much == least && room < best) {
                        least = much;
                        best = room;
                    }
                }
            }
            return best;
        }

        /** The most skill; masterOf tells of each art its master. */
        int assign(int some, int arts) {
            int most = NONE;
            int rows = power(MASTERS, Math.min(MASTERS, Integer.bitCount(arts)));
            for (int code = 0; code < rows; code++) {
                int sum = skillOf(code, rows, some, arts);
                if (sum > most) {
                    most = sum;
                    for (int k = 0; k < ARTS; k++) {
                        masterOf[k] = picked[k];
                    }
                }
            }
            return most;
        }

        private static int power(int base, int times) {
            int product = 1;
            for (int t = 0; t < times; t++) {
                product *= base;
            }
            return product;
        }

        /** A code's digits, the highest first, are the masters by arts; NONE if they are not these, each once. */
        private int skillOf(int code, int rows, int some, int arts) {
            int left = some;
            int sum = 0;
            int unit = rows / MASTERS;
            for (int k = 0; k < ARTS; k++) {
                if (has(arts, k) && unit > 0) {
                    int m = code / unit % MASTERS;
                    if (!has(left, m)) {
                        return NONE;
                    }
                    left &= ~(1 << m);
                    sum += skill[m][k];
                    picked[k] = m;
                    unit /= MASTERS;
                }
            }
            return sum;
        }
    }

    /** How many of an exam's facts are remembered, and how likely. */
    private static final class Odds {
        static final int MOST = 8;
        private final int[] ways;
        private int facts;
        int above;
        int below;

        Odds() {
            ways = new int[MOST + 1];
            facts = 0;
            above = 0;
            below = 1;
        }

        void begin() {
            for (int right = 0; right <= MOST; right++) {
                ways[right] = right == 0 ? 1 : 0;
            }
            facts = 0;
            above = 0;
            below = 1;
        }

        /** Ways of so many facts remembered, of 10 draws for each. */
        void ask(int tenths) {
            if (facts >= MOST) {
                return;
            }
            facts++;
            below *= 10;
            for (int right = facts; right >= 0; right--) {
                int fewer = right > 0 ? ways[right - 1] : 0;
                ways[right] = ways[right] * (10 - tenths) + fewer * tenths;
            }
        }

        void shorten(int limit) {
            for (int right = 0; right <= limit && right <= MOST; right++) {
                above += ways[right];
            }
            for (int t = 0; t < facts; t++) {
                shortenBy(2);
                shortenBy(5);
            }
        }

        private void shortenBy(int divisor) {
            if (divisor != 0 && above % divisor == 0 && below % divisor == 0) {
                above /= divisor;
                below /= divisor;
            }
        }
    }
}
