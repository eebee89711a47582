/** Promises 1 to 5, 18, 19, 22 to 25, 31 and 38: facts, links, pupils, what they know, the net. */
public final class NetTest {
    private static final Due DUE = new Due("NetTest");

    public static void main(String[] args) {
        newObject();
        facts();
        links();
        pupils();
        knowing();
        strengths();
        heard();
        cut();
        recalls();
        root();
        kin();
        hummed();
        counts();
        DUE.end();
    }

    private static void newObject() {
        ForgetSchool x = new ForgetSchool();
        DUE.is("NONE", ForgetSchool.NONE, -1);
        for (int what = 0; what <= 11; what++) {
            DUE.is("1: count(" + what + ")", x.count(what), what == 9 ? 1 : 0);
        }
        for (int c = 1; c <= 9; c++) {
            DUE.is("1: class " + c, x.count(30 + c), -2);
        }
        DUE.is("1: root", x.root(), -2);
        DUE.is("1: kin", x.kin(100), 0);
        DUE.is("1: copy", x.copy(), 0);
        DUE.is("1: undo", x.undo(), false);
        DUE.is("1: weeks", x.weeks(60), 0);
        DUE.is("1: week", x.count(0), 60);
    }

    private static void facts() {
        ForgetSchool x = new ForgetSchool();
        DUE.is("2: fact(0,0)", x.fact(0, 0), true);
        DUE.is("2: fact(11,8)", x.fact(11, 8), true);
        DUE.is("2: fact(12,0)", x.fact(12, 0), false);
        DUE.is("2: fact(-1,0)", x.fact(-1, 0), false);
        DUE.is("2: fact(32,0)", x.fact(32, 0), false);
        DUE.is("2: fact(1,9)", x.fact(1, 9), false);
        DUE.is("2: fact(1,-1)", x.fact(1, -1), false);
        DUE.is("2: told", x.count(3), 1 | 1 << 11);
        x.fact(1, 3);
        x.link(0, 1, 7);
        x.link(1, 0, 5);
        Due.pupil(x, 0, 1, 10, 40, 60);
        DUE.is("2: again", x.fact(1, 4), true);
        DUE.is("2: the kind is the new one", x.count(41), 4);
        DUE.is("2: strengths stay", x.strength(0, 1), 60);
        DUE.is("2: links stay", x.heard(0, 1), 28);
        DUE.is("2: links stay", x.heard(0, 0), 30);
        DUE.is("2: a wrong one changes nothing", x.fact(1, 9), false);
        DUE.is("2: kind", x.count(41), 4);
    }

    private static void links() {
        ForgetSchool x = Due.school(0, 0, 0);
        DUE.is("3: link(0,1,9)", x.link(0, 1, 9), true);
        DUE.is("3: link(0,1,10)", x.link(0, 1, 10), false);
        DUE.is("3: link(0,1,-1)", x.link(0, 1, -1), false);
        DUE.is("3: itself", x.link(1, 1, 3), false);
        DUE.is("3: not told", x.link(0, 3, 3), false);
        DUE.is("3: not told", x.link(3, 0, 3), false);
        DUE.is("3: no such one", x.link(-1, 0, 3), false);
        DUE.is("3: no such one", x.link(0, 12, 3), false);
        DUE.is("3: one way only", x.recalls(1), 0);
        DUE.is("3: the one recalls the other", x.recalls(0), 2);
        DUE.is("3: back to 0", x.link(0, 1, 0), true);
        DUE.is("3: no more", x.recalls(0), 0);
    }

    private static void pupils() {
        ForgetSchool x = Due.school(0, 0);
        DUE.is("4: pupil(0,1,0)", x.pupil(0, 1, 0), true);
        DUE.is("4: pupil(7,9,99)", x.pupil(7, 9, 99), true);
        DUE.is("4: p 8", x.pupil(8, 1, 0), false);
        DUE.is("4: p -1", x.pupil(-1, 1, 0), false);
        DUE.is("4: class 0", x.pupil(1, 0, 0), false);
        DUE.is("4: class 10", x.pupil(1, 10, 0), false);
        DUE.is("4: age -1", x.pupil(1, 1, -1), false);
        DUE.is("4: age 100", x.pupil(1, 1, 100), false);
        DUE.is("4: told", x.count(4), 129);
        x.knows(7, 1, 50);
        x.reminds(0, 7, 9);
        x.exam(0, 0);
        DUE.is("4: a wrong one changes nothing", x.pupil(7, 10, 5), false);
        DUE.is("4: strength", x.strength(7, 1), 50);
        DUE.is("4: again", x.pupil(7, 2, 5), true);
        DUE.is("4: all strengths 0", x.pupilIs(7, 4), 0);
        DUE.is("4: class", x.pupilIs(7, 0), 2);
        DUE.is("4: age", x.pupilIs(7, 1), 5);
        x.pupil(7, 9, 5);
        x.exam(1, 0);
        x.weeks(4);
        DUE.is("4: out", x.pupilIs(7, 0), 10);
        x.pupil(7, 9, 5);
        DUE.is("4: not out any more", x.pupilIs(7, 0), 9);
    }

    private static void knowing() {
        ForgetSchool x = Due.school(0, -1, 0);
        x.pupil(3, 1, 1);
        DUE.is("5: knows(3,0,99)", x.knows(3, 0, 99), true);
        DUE.is("5: strength 100", x.knows(3, 0, 100), false);
        DUE.is("5: strength -1", x.knows(3, 0, -1), false);
        DUE.is("5: fact not told", x.knows(3, 1, 5), false);
        DUE.is("5: fact -1", x.knows(3, -1, 5), false);
        DUE.is("5: fact 12", x.knows(3, 12, 5), false);
        DUE.is("5: pupil not told", x.knows(2, 0, 5), false);
        DUE.is("5: pupil 8", x.knows(8, 0, 5), false);
        DUE.is("5: pupil -1", x.knows(-1, 0, 5), false);
        DUE.is("5: stays", x.strength(3, 0), 99);
        DUE.is("5: 0 is not known", x.knows(3, 0, 0), true);
        DUE.is("5: 0", x.pupilIs(3, 2), 0);
    }

    private static void strengths() {
        ForgetSchool x = Due.school(0, -1, 0);
        Due.pupil(x, 1, 1, 1, 7, 0, 0);
        DUE.is("18: strength", x.strength(1, 0), 7);
        DUE.is("18: strength 0", x.strength(1, 2), 0);
        DUE.is("18: fact not told", x.strength(1, 1), -1);
        DUE.is("18: fact 12", x.strength(1, 12), -1);
        DUE.is("18: fact -1", x.strength(1, -1), -1);
        DUE.is("18: pupil not told", x.strength(0, 0), -1);
        DUE.is("18: pupil 8", x.strength(8, 0), -1);
        DUE.is("18: pupil -1", x.strength(-1, 0), -1);
    }

    private static void heard() {
        ForgetSchool x = Due.school(0, 0, 0);
        x.link(0, 2, 9);
        x.link(1, 2, 3);
        x.link(2, 0, 9);
        Due.pupil(x, 0, 1, 1, 99, 19, 55);
        DUE.is("19: each rounded down", x.heard(0, 2), 89 + 5);
        DUE.is("19: known ones too", x.heard(0, 0), 49);
        DUE.is("19: nothing", x.heard(0, 1), 0);
        DUE.is("19: fact not told", x.heard(0, 3), -1);
        DUE.is("19: fact 12", x.heard(0, 12), -1);
        DUE.is("19: pupil not told", x.heard(1, 0), -1);
        DUE.is("19: pupil -1", x.heard(-1, 0), -1);
    }

    private static void cut() {
        ForgetSchool x = Due.school(0, 0, 0, 0, 0, 0);
        x.link(0, 1, 1);
        x.link(0, 2, 1);
        x.link(1, 3, 1);
        x.link(2, 3, 1);
        x.link(3, 4, 1);
        x.link(4, 5, 1);
        DUE.is("22: one does", x.cut(0, 5, 0), 1);
        DUE.is("22: the least bits", x.cut(0, 5, 1), 8);
        DUE.is("22: two needed", x.cut(0, 3, 0), 2);
        DUE.is("22: both", x.cut(0, 3, 1), 6);
        DUE.is("22: never recalled", x.cut(5, 0, 0), 0);
        DUE.is("22: never recalled", x.cut(5, 0, 1), 0);
        DUE.is("22: a link", x.cut(0, 1, 0), -2);
        DUE.is("22: a link", x.cut(0, 1, 1), -2);
        DUE.is("22: no such question first", x.cut(0, 1, 2), -1);
        DUE.is("22: no such question", x.cut(0, 3, -1), -1);
        DUE.is("22: the same", x.cut(0, 0, 0), -1);
        DUE.is("22: not told", x.cut(0, 6, 0), -1);
        DUE.is("22: not told", x.cut(6, 0, 0), -1);
        DUE.is("22: no such one", x.cut(-1, 12, 0), -1);
        x.link(2, 5, 4);
        DUE.is("22: 2 and one of 1, 3, 4", x.cut(0, 5, 1), 6);
        x.link(3, 1, 1);
        DUE.is("22: 2 and one of 1, 3, 4", x.cut(0, 5, 0), 2);
    }

    private static void recalls() {
        ForgetSchool x = Due.school(0, 0, 0, 0);
        x.link(0, 1, 1);
        x.link(1, 2, 1);
        DUE.is("23: step by step, not itself", x.recalls(0), 6);
        x.link(2, 0, 9);
        DUE.is("23: itself, since it comes back", x.recalls(0), 7);
        DUE.is("23: alone", x.recalls(3), 0);
        DUE.is("23: not told", x.recalls(4), -1);
        DUE.is("23: no such one", x.recalls(-1), -1);
        DUE.is("23: no such one", x.recalls(12), -1);
    }

    private static void root() {
        ForgetSchool x = Due.school(-1, -1, 0, 0, 0, 0);
        DUE.is("24: of like ones the lowest", x.root(), 2);
        x.link(3, 4, 1);
        x.link(5, 2, 1);
        DUE.is("24: of like ones the lowest", x.root(), 3);
        x.link(5, 4, 1);
        DUE.is("24: the most", x.root(), 5);
        x.link(4, 3, 1);
        DUE.is("24: by what comes step by step", x.root(), 5);
        DUE.is("24: none told", new ForgetSchool().root(), -2);
        x = Due.school(0, 0, 0);
        x.link(0, 1, 1);
        DUE.is("24: fact 0 too", x.root(), 0);
        x.link(1, 0, 1);
        x.link(2, 0, 1);
        DUE.is("24: itself counts where it comes back", x.root(), 0);
    }

    private static void kin() {
        ForgetSchool x = Due.school(0, 0, 0, 0, -1, 0);
        x.link(0, 1, 1);
        x.link(1, 0, 1);
        x.link(1, 2, 1);
        x.link(2, 3, 1);
        x.link(3, 2, 1);
        DUE.is("25: groups", x.kin(100), 3);
        DUE.is("25: of 0", x.kin(0), 3);
        DUE.is("25: of 3", x.kin(3), 12);
        DUE.is("25: alone", x.kin(5), 32);
        x.link(3, 0, 1);
        DUE.is("25: groups", x.kin(100), 2);
        DUE.is("25: of 2", x.kin(2), 15);
        DUE.is("25: not told", x.kin(4), -1);
        DUE.is("25: no such one", x.kin(12), -1);
        DUE.is("25: no such one", x.kin(99), -1);
        DUE.is("25: no such one", x.kin(101), -1);
        DUE.is("25: no such one", x.kin(-1), -1);
    }

    private static void hummed() {
        ForgetSchool x = Due.school(0, 0, 0, 0);
        x.link(0, 1, 5);
        x.link(1, 2, 5);
        x.link(0, 2, 4);
        x.link(2, 0, 3);
        DUE.is("31: with one or none between", Due.hummed(x, 3, 0, 0, 2), 2);
        DUE.is("31: heard in all", Due.hummed(x, 3, 1, 0, 2), 5);
        DUE.is("31: only by the one between", Due.hummed(x, 5, 0, 0, 2), 1);
        DUE.is("31: it too", Due.hummed(x, 5, 1, 0, 2), 7);
        DUE.is("31: no way", Due.hummed(x, 6, 0, 0, 2), 0);
        DUE.is("31: no way", Due.hummed(x, 6, 1, 0, 2), 0);
        DUE.is("31: one back to itself", Due.hummed(x, 3, 0, 0, 0), 1);
        DUE.is("31: by 2", Due.hummed(x, 3, 1, 0, 0), 5);
        DUE.is("31: ways times ways", Due.hummed(x, 3, 0, 0, 2, 0, 2), 4);
        DUE.is("31: not two between", Due.hummed(x, 3, 0, 1, 1), 0);
        DUE.is("31: one alone", Due.hummed(x, 9, 0, 3), 1);
        DUE.is("31: one alone", Due.hummed(x, 9, 1, 3), 8);
        DUE.is("31: fact 0 between", Due.hummed(x, 3, 0, 2, 1), 1);
        DUE.is("31: fact 0 between", Due.hummed(x, 3, 1, 2, 1), 7);
        DUE.is("31: one not told", Due.hummed(x, 3, 0, 0, 2, 4), -2);
        DUE.is("31: the tape is empty then", x.count(8), 0);
        DUE.is("31: six", Due.hummed(x, 1, 0, 0, 2, 0, 2, 0, 2), 8);
        DUE.is("31: the tape is empty then", x.count(8), 0);
        hummedWrongly(x);
    }

    private static void hummedWrongly(ForgetSchool x) {
        DUE.is("31: not so many", x.hummed(1, 3, 0), -1);
        Due.feed(x, 0, 2, 0, 2, 0, 2, 0, 2);
        DUE.is("31: n 0", x.hummed(0, 3, 0), -1);
        DUE.is("31: n 7", x.hummed(7, 3, 0), -1);
        DUE.is("31: n 6", x.hummed(6, 4, 0), 0);
        Due.feed(x, 12, 2);
        DUE.is("31: no such fact", x.hummed(1, 3, 0), -1);
        Due.feed(x, 0);
        DUE.is("31: no such fact", x.hummed(2, 3, 0), -1);
        x.pupil(0, 1, 1);
        x.check(0, 0);
        Due.feed(x, 0, 2, 12);
        DUE.is("31: least 0", x.hummed(2, 0, 0), -1);
        DUE.is("31: least 10", x.hummed(2, 10, 0), -1);
        DUE.is("31: what 2", x.hummed(2, 3, 2), -1);
        DUE.is("31: what -1", x.hummed(2, 3, -1), -1);
        DUE.is("31: no such fact", x.hummed(3, 3, 0), -1);
        DUE.is("31: the tape stays", x.count(8), 20);
        DUE.is("31: and does", x.hummed(2, 3, 0), 2);
    }

    private static void counts() {
        ForgetSchool x = Due.school(2, -1, 5);
        x.pupil(6, 1, 1);
        x.skill(4, 0, 1);
        Due.art(x, 5, "a3b");
        Due.law(x, "w1(1=1);x(f=1)");
        x.grade(4, 2);
        x.exam(4000, 7);
        x.seed(77);
        Due.feed(x, "something");
        DUE.is("38: facts", x.count(3), 5);
        DUE.is("38: pupils", x.count(4), 64);
        DUE.is("38: arts", x.count(5), 32);
        DUE.is("38: masters", x.count(6), 16);
        DUE.is("38: clauses", x.count(7), 2);
        DUE.is("38: tape", x.count(8), 20);
        DUE.is("38: X", x.count(9), 77);
        DUE.is("38: asked", x.count(10), 4000);
        DUE.is("38: limit", x.count(11), 7);
        DUE.is("38: steps", x.count(25), 4);
        DUE.is("38: steps of none", x.count(24), -1);
        DUE.is("38: art of a class", x.count(34), 2);
        DUE.is("38: none", x.count(35), -2);
        DUE.is("38: kind", x.count(40), 2);
        DUE.is("38: kind", x.count(42), 5);
        for (int what : new int[] {-1, 12, 19, 20, 26, 29, 30, 41, 43, 51, 52, 100, Integer.MIN_VALUE, Integer.MAX_VALUE}) {
            DUE.is("38: count(" + what + ")", x.count(what), -1);
        }
    }
}
