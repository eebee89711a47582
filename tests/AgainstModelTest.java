import java.util.Random;

/** Long runs of chance calls (with fixed seeds), each answer held against the model's. */
public final class AgainstModelTest {
    private static final int RUNS = 2400;
    /** An object is used for 512 calls at most: one call() makes some 17 at most, and the end 57. */
    private static final int CALLS = 512 - 57 - 20;
    private final Due due = new Due("AgainstModelTest");
    private Random chance;
    private ForgetSchool x;
    private Model m;
    private String log;

    public static void main(String[] args) {
        AgainstModelTest test = new AgainstModelTest();
        for (int seed = 1; seed <= RUNS; seed++) {
            test.run(seed);
        }
        test.due.end();
    }

    private void run(int seed) {
        chance = new Random(seed);
        x = new ForgetSchool();
        m = new Model();
        int before = due.asked();
        begin(seed % 4);
        for (int c = 0; due.asked() - before < CALLS; c++) {
            log = "run " + seed + " call " + c + " ";
            call();
        }
        for (int what = -2; what < 55; what++) {
            log = "run " + seed + " end ";
            due.is(log + "count(" + what + ")", x.count(what), m.count(what));
        }
    }

    /** Some runs begin with much that is told already. */
    private void begin(int much) {
        for (int i = 0; i < 4 * much; i++) {
            log = "begin ";
            fact();
            pupil();
        }
        for (int i = 0; i < 8 * much; i++) {
            link();
            knows();
        }
    }

    private int to(int n) {
        return chance.nextInt(n);
    }

    /** Mostly 0 to n - 1, at times beside it. */
    private int about(int n) {
        int dice = to(60);
        if (dice == 0) return -1;
        if (dice == 1) return n;
        if (dice == 2) return new int[] {Integer.MIN_VALUE, Integer.MAX_VALUE, -2, 100, 31, 32, 33, 64}[to(8)];
        return to(n);
    }

    private int bits(int told) {
        int dice = to(30);
        if (dice == 0) return about(4096);
        if (dice == 1) return told;
        return told & (to(3) == 0 ? to(4096) & to(4096) : to(4096));
    }

    private void fact() {
        int i = about(12);
        int k = about(to(2) == 0 ? 3 : 9);
        due.is(log + "fact(" + i + ", " + k + ")", x.fact(i, k), m.fact(i, k));
    }

    private void link() {
        int i = about(12);
        int j = about(12);
        int n = about(10);
        due.is(log + "link(" + i + ", " + j + ", " + n + ")", x.link(i, j, n), m.link(i, j, n));
    }

    private void pupil() {
        int p = about(8);
        int g = to(3) == 0 ? 10 - to(3) : about(11);
        int a = about(100);
        due.is(log + "pupil(" + p + ", " + g + ", " + a + ")", x.pupil(p, g, a), m.pupil(p, g, a));
    }

    private void knows() {
        int p = about(8);
        int i = about(12);
        int n = to(4) == 0 ? 0 : to(2) == 0 ? about(100) : about(20);
        due.is(log + "knows(" + p + ", " + i + ", " + n + ")", x.knows(p, i, n), m.knows(p, i, n));
    }

    private void feed(String text) {
        for (int at = 0; at < text.length(); at += 20) {
            int[] five = new int[5];
            for (int i = 0; i < 20; i++) {
                int one = at + i < text.length() ? text.charAt(at + i) : to(256);
                five[i / 4] = five[i / 4] << 8 | one;
            }
            due.is(log + "feed", x.feed(five[0], five[1], five[2], five[3], five[4]), m.feed(five));
        }
    }

    private String marred(String text, String signs) {
        StringBuilder s = new StringBuilder(text);
        if (to(4) != 0) return text;
        int at = to(s.length() + 1);
        char c = to(10) == 0 ? (char) to(256) : signs.charAt(to(signs.length()));
        int dice = to(3);
        if (dice == 0) s.insert(at, c);
        else if (at < s.length() && dice == 1) s.setCharAt(at, c);
        else if (at < s.length() && s.length() > 1) s.deleteCharAt(at);
        return s.toString();
    }

    private String steps(int open) {
        StringBuilder s = new StringBuilder();
        for (int n = 1 + to(5); n > 0; n--) {
            if (to(3) == 0) s.append((char) ('2' + to(to(4) == 0 ? 8 : 2)));
            int dice = to(8);
            if (dice == 0 && open < 3) s.append('(').append(steps(open + 1)).append(')');
            else if (dice < 3) s.append((char) ('A' + to(to(2) == 0 ? 3 : 9)));
            else if (dice == 3) s.append('.');
            else if (dice < 6) s.append('+').append((char) ('a' + to(12)));
            else s.append((char) ('a' + to(12)));
        }
        return s.toString();
    }

    private void art() {
        String text = marred(steps(to(3)), "al+.(()23AIjzJ1");
        if (text.length() > 60) text = text.substring(0, 60);
        feed(text);
        int k = about(6);
        int n = to(30) == 0 ? about(62) : text.length();
        due.is(log + "art(" + k + ", " + n + ") " + text, x.art(k, n), m.art(k, n));
    }

    private String e(int deep) {
        StringBuilder s = new StringBuilder();
        for (int n = to(3); n >= 0; n--) {
            int dice = to(10);
            if (dice == 0 && deep > 0) s.append('[').append(e(deep - 1)).append(']');
            else if (dice < 5) s.append(to(3) == 0 ? to(100000) : to(12));
            else s.append("fkvpcany".charAt(to(8)));
            if (n > 0) s.append("+-*/%".charAt(to(5)));
        }
        return s.toString();
    }

    private String c(int deep) {
        StringBuilder s = new StringBuilder();
        for (int n = to(3); n >= 0; n--) {
            int dice = to(8);
            if (dice == 0 && deep > 0) s.append('(').append(c(deep - 1)).append(')');
            else if (dice == 1 && deep > 0) s.append("!(").append(c(deep - 1)).append(')');
            else if (dice == 2) s.append('!').append(e(1)).append("<>=".charAt(to(3))).append(e(1));
            else s.append(e(deep)).append("<>=".charAt(to(3))).append(e(deep));
            if (n > 0) s.append("|&".charAt(to(2)));
        }
        return s.toString();
    }

    private String clauses() {
        // by some laws nothing is recalled, so that facts are forgotten for good
        StringBuilder s = new StringBuilder(to(3) == 0 ? "h999(1=1);w40(v>f);" : "");
        for (int n = to(5); n >= 0; n--) {
            char letter = "wsrhx".charAt(to(5));
            s.append(letter);
            if (letter != 'x') s.append(to(2) == 0 ? "" + to(30) : e(3));
            s.append('(').append(to(3) == 0 ? "1=1" : c(3)).append(')');
            if (n > 0) s.append(';');
        }
        return s.toString();
    }

    private String law() {
        int dice = to(12);
        if (dice == 0) return "w" + "[".repeat(to(9)) + e(1) + "]".repeat(6) + "(1=1)";
        if (dice == 1) return "x(" + "!(".repeat(to(5)) + c(1) + "))))";
        if (dice == 2) return "x(n=1);".repeat(14 + to(4)) + "wsrhxy".charAt(to(6)) + "1(v>2)";
        return clauses();
    }

    private void readLaw() {
        String text = marred(law(), "wsrhx()[]!&|<>=+-*/%0123456789fkvpcany;;");
        if (text.length() > 240) text = text.substring(0, 240);
        feed(text);
        int n = to(30) == 0 ? about(242) : text.length();
        due.is(log + "law(" + n + ") " + text, x.law(n), m.law(n));
    }

    private int what(int... some) {
        return to(20) == 0 ? about(60) : some[to(some.length)];
    }

    private int weeksNumber() {
        return to(3) == 0 ? about(62) : 1 + to(6);
    }

    private void call() {
        int dice = to(40);
        switch (dice) {
            case 0: fact(); break;
            case 1: link(); link(); break;
            case 2: if (to(3) == 0) pupil(); break;
            case 3: knows(); knows(); break;
            case 4: art(); break;
            case 5: case 6: readLaw(); break;
            case 7: simple(); break;
            case 8: simple(); break;
            case 9: weeks(); break;
            case 10: tried(); tried(); break;
            case 11: other(); other(); break;
            case 12: due.is(log + "copy()", x.copy(), m.copy()); break;
            case 13: first(); break;
            case 14: does(); break;
            case 15: pupilIs(); break;
            case 16: strengths(); break;
            case 17: case 18: case 19: order(); break;
            case 20: still(); break;
            case 21: cut(); break;
            case 22: due.is(log + "root()", x.root(), m.root()); break;
            case 23: case 24: sets(); break;
            case 25: case 26: questions(); break;
            case 27: reminds(); break;
            case 28: parted(); break;
            case 29: skill(); break;
            case 30: taught(); break;
            case 31: case 32: hummed(); break;
            case 33: odds(); break;
            case 34: crib(); break;
            case 35: keeping(); break;
            case 36: check(); break;
            case 37: count(); break;
            case 38: for (int n = 0; n < 4; n++) knows(); break;
            default: for (int n = 0; n < 4; n++) link(); break;
        }
    }

    private void simple() {
        if (to(2) == 0) {
            int c = about(10);
            int k = about(7) - 1;
            due.is(log + "grade(" + c + ", " + k + ")", x.grade(c, k), m.grade(c, k));
        } else {
            int facts = to(20) == 0 ? about(4097) : to(4096);
            int limit = about(13);
            due.is(log + "exam(" + facts + ", " + limit + ")", x.exam(facts, limit), m.exam(facts, limit));
        }
    }

    private void weeks() {
        int n = weeksNumber();
        due.is(log + "weeks(" + n + ")", x.weeks(n), m.weeks(n));
    }

    private void tried() {
        int n = weeksNumber();
        int what = what(0, 1, 2, 3, 10 + to(8), 20 + to(8), 30 + to(12));
        due.is(log + "tried(" + n + ", " + what + ")", x.tried(n, what), m.tried(n, what));
    }

    private void other() {
        int n = weeksNumber();
        int what = what(0, 1, 2, 3, 10 + to(8), 20 + to(8), 30 + to(12));
        due.is(log + "other(" + n + ", " + what + ")", x.other(n, what), m.other(n, what));
    }

    private void first() {
        int n = weeksNumber();
        int i = about(12);
        for (int turn = to(5); turn > 0; turn--) {
            int p = to(8);
            int c = 1 + to(9);
            int age = to(100);
            int strength = 1 + to(40);
            int k = to(6);
            due.is(log + "pupil(" + p + ", " + c + ", " + age + ")", x.pupil(p, c, age), m.pupil(p, c, age));
            due.is(log + "knows(" + p + ", " + i + ", " + strength + ")", x.knows(p, i, strength), m.knows(p, i, strength));
            due.is(log + "grade(" + c + ", " + k + ")", x.grade(c, k), m.grade(c, k));
        }
        int what = what(0, 1);
        due.is(log + "first(" + n + ", " + i + ", " + what + ")", x.first(n, i, what), m.first(n, i, what));
    }

    private void does() {
        int p = about(8);
        int k = about(6);
        due.is(log + "does(" + p + ", " + k + ")", x.does(p, k), m.does(p, k));
    }

    private void pupilIs() {
        int p = about(8);
        int what = about(5);
        due.is(log + "pupilIs(" + p + ", " + what + ")", x.pupilIs(p, what), m.pupilIs(p, what));
    }

    private void strengths() {
        int p = about(8);
        int i = about(12);
        due.is(log + "strength(" + p + ", " + i + ")", x.strength(p, i), m.strength(p, i));
        due.is(log + "heard(" + p + ", " + i + ")", x.heard(p, i), m.heard(p, i));
    }

    private void order() {
        int p = about(8);
        int arts = to(20) == 0 ? about(64) : m.count(5) & to(64);
        int gone = bits(m.count(3)) & (to(2) == 0 ? to(4096) & to(4096) : -1);
        int kept = bits(m.count(3)) & (to(20) == 0 ? -1 : ~gone) & to(4096) & to(4096);
        for (int what : new int[] {20, 0, 1, what(2, 3, 4)}) {
            String call = log + "order(" + p + ", " + arts + ", " + gone + ", " + kept + ", " + what + ")";
            due.is(call, x.order(p, arts, gone, kept, what), m.order(p, arts, gone, kept, what));
        }
    }

    private void still() {
        int p = about(8);
        int k = about(6);
        for (int what : new int[] {0, what(1)}) {
            due.is(log + "still(" + p + ", " + k + ", " + what + ")", x.still(p, k, what), m.still(p, k, what));
        }
    }

    private void cut() {
        int i = about(12);
        int j = about(12);
        int what = what(0, 1);
        due.is(log + "cut(" + i + ", " + j + ", " + what + ")", x.cut(i, j, what), m.cut(i, j, what));
    }

    private void sets() {
        int i = about(12);
        due.is(log + "recalls(" + i + ")", x.recalls(i), m.recalls(i));
        int what = what(100, i);
        due.is(log + "kin(" + what + ")", x.kin(what), m.kin(what));
    }

    private void questions() {
        int some = bits(m.count(4));
        for (int what : new int[] {0, what(1)}) {
            due.is(log + "questions(" + some + ", " + what + ")", x.questions(some, what), m.questions(some, what));
        }
    }

    private void reminds() {
        for (int turn = 0; turn < 3; turn++) {
            int p = about(8);
            int q = about(8);
            int n = about(to(2) == 0 ? 100 : 3);
            due.is(log + "reminds(" + p + ", " + q + ", " + n + ")", x.reminds(p, q, n), m.reminds(p, q, n));
        }
    }

    private void parted() {
        int some = bits(m.count(4));
        for (int what : new int[] {0, what(1)}) {
            due.is(log + "parted(" + some + ", " + what + ")", x.parted(some, what), m.parted(some, what));
        }
    }

    private void skill() {
        for (int turn = 0; turn < 3; turn++) {
            int master = about(5);
            int k = about(6);
            int n = about(to(2) == 0 ? 100 : 3);
            due.is(log + "skill(" + master + ", " + k + ", " + n + ")", x.skill(master, k, n), m.skill(master, k, n));
        }
    }

    private void taught() {
        int masters = to(20) == 0 ? about(33) : m.count(6) & to(32);
        int arts = about(65);
        for (int turn = 0; turn < 50 && Integer.bitCount(arts) != Integer.bitCount(masters); turn++) {
            arts = about(65);
        }
        for (int what : new int[] {20, 0, 1, 2, 3, 4, 5, what(6)}) {
            String call = log + "taught(" + masters + ", " + arts + ", " + what + ")";
            due.is(call, x.taught(masters, arts, what), m.taught(masters, arts, what));
        }
    }

    private void hummed() {
        int n = to(20) == 0 ? about(8) : 1 + to(to(3) == 0 ? 6 : 3);
        StringBuilder s = new StringBuilder();
        for (int i = 0; i < 6; i++) {
            s.append((char) (to(60) == 0 ? to(256) : to(12)));
        }
        int least = to(20) == 0 ? about(10) : 1 + to(4);
        for (int what : new int[] {0, what(1)}) {
            feed(s.toString());
            due.is(log + "hummed(" + n + ", " + least + ", " + what + ")", x.hummed(n, least, what),
                    m.hummed(n, least, what));
        }
    }

    private void odds() {
        int p = about(8);
        int facts = bits(m.count(3));
        int limit = about(to(3) == 0 ? 14 : 4);
        for (int what : new int[] {0, what(1)}) {
            String call = log + "odds(" + p + ", " + facts + ", " + limit + ", " + what + ")";
            due.is(call, x.odds(p, facts, limit, what), m.odds(p, facts, limit, what));
        }
    }

    private void crib() {
        int p = about(8);
        for (int what : new int[] {0, what(1)}) {
            due.is(log + "crib(" + p + ", " + what + ")", x.crib(p, what), m.crib(p, what));
        }
    }

    private void keeping() {
        int dice = to(6);
        if (dice == 0) {
            int seed = about(65536);
            due.is(log + "seed(" + seed + ")", x.seed(seed), m.seed(seed));
        } else if (dice < 4) {
            due.is(log + "keep()", x.keep(), m.keep());
        } else {
            due.is(log + "undo()", x.undo(), m.undo());
        }
    }

    private void check() {
        int p = about(8);
        int n = about(14);
        StringBuilder s = new StringBuilder();
        for (int i = 0; i < 12; i++) {
            int right = p >= 0 && p < 8 ? m.now.v[p][i] : 0;
            s.append((char) (to(15) == 0 ? to(256) : right));
        }
        if (to(4) != 0) feed(s.toString());
        due.is(log + "check(" + p + ", " + n + ")", x.check(p, n), m.check(p, n));
    }

    private void count() {
        int what = to(20) == 0 ? about(60) : to(55);
        due.is(log + "count(" + what + ")", x.count(what), m.count(what));
    }
}
