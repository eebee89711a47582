import java.util.ArrayList;
import java.util.List;

/** A call that is refused changes nothing; of several reasons which is told; all memory is the school's own. */
public final class RefusedTest {
    private static final Due DUE = new Due("RefusedTest");
    /** What lies on the tape at first: pupil 7 knows it, so that check() tells whether it is still there. */
    private static final int[] ON_TAPE = {0, 1, 2, 40, 97, 77, 0, 2, 3, 4, 5, 6};

    interface Call {
        int answer(ForgetSchool x);
    }

    public static void main(String[] args) {
        refusedTelling();
        refusedTexts();
        refusedAsking();
        faultsChangeTheTapeAlone();
        askingChangesNothing();
        severalReasons();
        twoSchools();
        fiveHundredTwelve();
        DUE.end();
    }

    private static int bit(boolean answer) {
        return answer ? 1 : 0;
    }

    private static final int[] EVERY = {0, 1, 2, 3, 4, 5, 6, 7};

    private static ForgetSchool rich() {
        ForgetSchool x = new ForgetSchool();
        for (int i = 0; i < 11; i++) {
            x.fact(i, i % 4);
        }
        for (int i = 0; i < 10; i++) {
            x.link(i, i + 1, 1 + i % 9);
            x.link(i, 0, 2);
        }
        for (int p : new int[] {0, 1, 2, 3, 4, 7}) {
            x.pupil(p, 9 - p, 10 * p);
            x.knows(p, p, 30 + p);
            x.knows(p, 9 - p, 60 - p);
            x.reminds(p, (p + 1) % 4, 10 + p);
        }
        x.pupil(7, 2, 70);
        for (int i = 0; i < 11; i++) {
            x.knows(7, i, Math.min(99, ON_TAPE[i]));
        }
        Due.art(x, 0, "a2b.");
        Due.art(x, 1, "+cA3d");
        Due.art(x, 3, "e");
        Due.law(x, "w9(1=1);s4(1=1)");
        x.copy();
        Due.law(x, "w3(f<5);w1(1=1);s7(1=1);r2(1=1);h4(1=1);x(f=7)");
        for (int c = 1; c <= 9; c++) {
            x.grade(c, c % 4);
        }
        x.exam(0x3f, 2);
        x.skill(0, 0, 5);
        x.skill(0, 3, 6);
        x.skill(3, 1, 7);
        x.seed(4711);
        x.weeks(1);
        x.keep();
        x.knows(0, 5, 8);
        x.pupil(7, 2, 70);
        for (int i = 0; i < 11; i++) {
            x.knows(7, i, Math.min(99, ON_TAPE[i]));
        }
        x.weeks(1);
        x.pupil(7, 2, 70);
        for (int i = 0; i < 11; i++) {
            x.knows(7, i, Math.min(99, ON_TAPE[i]));
        }
        Due.feed(x, ON_TAPE);
        return x;
    }

    /** All that can be asked about it, within what is left of 512 calls. */
    private static List<Integer> all(ForgetSchool x) {
        List<Integer> all = new ArrayList<>();
        for (int what = 0; what < 52; what++) {
            all.add(x.count(what));
        }
        for (int p : EVERY) {
            for (int what = 0; what < 5; what++) {
                all.add(x.pupilIs(p, what));
            }
            for (int i = 0; i < 11; i += 2) {
                all.add(x.strength(p, i));
            }
            all.add(x.tried(12, 10 + p));
            all.add(x.other(12, 10 + p));
            all.add(x.parted(1 << p | 6, 0));
        }
        for (int i = 0; i < 12; i++) {
            all.add(x.heard(2, i));
            all.add(x.recalls(i));
        }
        for (int k = 0; k < 4; k++) {
            all.add(x.taught(1, 1 << k, 20));
            all.add(x.taught(8, 1 << k, 20));
            all.add(x.still(1, k, 0));
        }
        all.add(x.tried(12, 0));
        all.add(x.tried(12, 3));
        all.add(x.order(0, 11, 1, 4, 20));
        all.add(x.check(7, 11));
        all.add(x.count(8));
        all.add(bit(x.undo()));
        for (int p : EVERY) {
            all.add(x.pupilIs(p, 4));
        }
        for (int what : new int[] {0, 1, 2, 9}) {
            all.add(x.count(what));
        }
        return all;
    }

    private static void nothingChanged(String name, ForgetSchool x) {
        DUE.is(name + " changes nothing", all(x).equals(all(rich())), true);
    }

    private static void refused(String name, int due, Call call) {
        ForgetSchool x = rich();
        DUE.is(name, call.answer(x), due);
        nothingChanged(name, x);
    }

    private static void refusedTelling() {
        DUE.is("the tape stays where nothing is refused", all(rich()).contains(-1), true);
        for (int wrong : new int[] {-1, 12, 32, Integer.MIN_VALUE, Integer.MAX_VALUE}) {
            refused("2: fact i " + wrong, 0, x -> bit(x.fact(wrong, 1)));
            refused("2: fact kind " + wrong, 0, x -> bit(x.fact(1, wrong)));
            refused("3: link i " + wrong, 0, x -> bit(x.link(wrong, 1, 5)));
            refused("3: link j " + wrong, 0, x -> bit(x.link(1, wrong, 5)));
            refused("3: link n " + wrong, 0, x -> bit(x.link(0, 1, wrong)));
            refused("4: pupil p " + wrong, 0, x -> bit(x.pupil(wrong, 1, 1)));
            refused("4: pupil grade " + wrong, 0, x -> bit(x.pupil(1, wrong, 1)));
            refused("5: knows p " + wrong, 0, x -> bit(x.knows(wrong, 1, 1)));
            refused("5: knows i " + wrong, 0, x -> bit(x.knows(1, wrong, 1)));
            refused("9: grade c " + wrong, 0, x -> bit(x.grade(wrong, 1)));
            refused("10: exam limit " + (wrong + 1), 0, x -> bit(x.exam(1, wrong == -1 ? -1 : wrong + 1)));
            refused("27: reminds p " + wrong, 0, x -> bit(x.reminds(wrong, 1, 1)));
            refused("27: reminds q " + wrong, 0, x -> bit(x.reminds(1, wrong, 1)));
            refused("29: skill m " + wrong, 0, x -> bit(x.skill(wrong, 0, 1)));
            refused("29: skill k " + wrong, 0, x -> bit(x.skill(0, wrong, 1)));
        }
        for (int wrong : new int[] {-1, 100, 256, 65536, Integer.MIN_VALUE, Integer.MAX_VALUE}) {
            refused("4: pupil age " + wrong, 0, x -> bit(x.pupil(1, 1, wrong)));
            refused("5: knows strength " + wrong, 0, x -> bit(x.knows(1, 1, wrong)));
            refused("27: reminds n " + wrong, 0, x -> bit(x.reminds(0, 1, wrong)));
            refused("29: skill n " + wrong, 0, x -> bit(x.skill(0, 0, wrong)));
        }
        refused("3: link to itself", 0, x -> bit(x.link(1, 1, 1)));
        refused("3: link of 11, not told", 0, x -> bit(x.link(11, 1, 1)));
        refused("3: link to 11, not told", 0, x -> bit(x.link(1, 11, 1)));
        refused("4: pupil of class 0", 0, x -> bit(x.pupil(1, 0, 1)));
        refused("4: pupil of class 10", 0, x -> bit(x.pupil(1, 10, 1)));
        refused("5: knows of 5, not told", 0, x -> bit(x.knows(5, 1, 1)));
        refused("5: knows 11, not told", 0, x -> bit(x.knows(1, 11, 1)));
        refused("9: grade 0", 0, x -> bit(x.grade(0, 1)));
        refused("9: grade 10", 0, x -> bit(x.grade(10, 1)));
        refused("9: grade art 6", 0, x -> bit(x.grade(1, 6)));
        refused("9: grade art -2", 0, x -> bit(x.grade(1, -2)));
        refused("10: exam facts 4096", 0, x -> bit(x.exam(4096, 1)));
        refused("10: exam facts -1", 0, x -> bit(x.exam(-1, 1)));
        refused("27: reminds itself", 0, x -> bit(x.reminds(1, 1, 1)));
        refused("27: reminds 5, not told", 0, x -> bit(x.reminds(1, 5, 1)));
        refused("27: 5 reminds, not told", 0, x -> bit(x.reminds(5, 1, 1)));
        refused("29: skill of master 5", 0, x -> bit(x.skill(5, 1, 1)));
        refused("29: skill for art 6", 0, x -> bit(x.skill(1, 6, 1)));
        refused("34: seed -1", 0, x -> bit(x.seed(-1)));
        refused("34: seed 65536", 0, x -> bit(x.seed(65536)));
    }

    /** The tape stays, too. */
    private static void refusedTexts() {
        refused("7: art -1", -1, x -> x.art(-1, 3));
        refused("7: art 6", -1, x -> x.art(6, 3));
        refused("7: art of 0 bytes", -1, x -> x.art(0, 0));
        refused("7: art of 61 bytes", -1, x -> x.art(0, 61));
        refused("7: art of 21 bytes of 20", -1, x -> x.art(0, 21));
        refused("8: law of 0 bytes", -1, x -> x.law(0));
        refused("8: law of 241 bytes", -1, x -> x.law(241));
        refused("8: law of 21 bytes of 20", -1, x -> x.law(21));
        refused("31: hummed of 0 bytes", -1, x -> x.hummed(0, 1, 0));
        refused("31: hummed of 7 bytes", -1, x -> x.hummed(7, 1, 0));
        refused("31: hummed least 0", -1, x -> x.hummed(3, 0, 0));
        refused("31: hummed least 10", -1, x -> x.hummed(3, 10, 0));
        refused("31: hummed what 2", -1, x -> x.hummed(3, 1, 2));
        refused("31: hummed byte 40", -1, x -> x.hummed(4, 1, 0));
        refused("37: check 13", -2, x -> x.check(7, 13));
        refused("37: check -1", -2, x -> x.check(7, -1));
        refused("37: check of 5, not told", -2, x -> x.check(5, 2));
        refused("37: check of 8", -2, x -> x.check(8, 2));
        ForgetSchool x = rich();
        for (int n = 2; n <= 13; n++) {
            DUE.is("6: feed", x.feed(0, 0, 0, 0, 0), 20 * n);
        }
        DUE.is("6: more than 260", x.feed(1, 1, 1, 1, 1), -1);
        DUE.is("6: the tape stays", x.count(8), 260);
        DUE.is("6: the tape stays", x.check(7, 11), -1);
        DUE.is("6: empty then", x.feed(1, 1, 1, 1, 1), 20);
        x.check(7, 0);
        refusedOnAnEmptyTape("7: art", -1, y -> y.art(0, 1));
        refusedOnAnEmptyTape("8: law", -1, y -> y.law(1));
        refusedOnAnEmptyTape("31: hummed", -1, y -> y.hummed(1, 1, 0));
        refusedOnAnEmptyTape("37: check", -2, y -> y.check(7, 1));
    }

    private static void refusedOnAnEmptyTape(String name, int due, Call call) {
        ForgetSchool x = rich();
        x.check(7, 0);
        DUE.is(name + " of an empty tape", call.answer(x), due);
        DUE.is(name + " of an empty tape leaves it", x.count(8), 0);
        Due.feed(x, ON_TAPE);
        nothingChanged(name + " of an empty tape", x);
    }

    private static void refusedAsking() {
        refused("11: weeks 0", -1, x -> x.weeks(0));
        refused("11: weeks 61", -1, x -> x.weeks(61));
        refused("11: weeks -1", -1, x -> x.weeks(-1));
        refused("12: tried 61", -1, x -> x.tried(61, 0));
        refused("12: tried what 15", -1, x -> x.tried(3, 15));
        refused("13: other 61", -1, x -> x.other(61, 0));
        refused("13: other what 41", -1, x -> x.other(3, 41));
        refused("15: first 61", -1, x -> x.first(61, 0, 0));
        refused("15: first of 11", -1, x -> x.first(3, 11, 0));
        refused("16: does of 5", -1, x -> x.does(5, 0));
        refused("16: does art 2", -1, x -> x.does(0, 2));
        refused("16: does art 6", -1, x -> x.does(0, 6));
        refused("17: pupilIs 5", -1, x -> x.pupilIs(5, 0));
        refused("20: order of both", -1, x -> x.order(0, 1, 1, 1, 20));
        refused("20: order of arts not told", -1, x -> x.order(0, 4, 1, 0, 20));
        refused("20: order not by five", -2, x -> x.order(0, 1, 0x200, 0, 20));
        refused("20: order no such place", -4, x -> x.order(0, 1, 0, 0, 0));
        refused("21: still of art 2", -1, x -> x.still(0, 2, 0));
        refused("22: cut of the same", -1, x -> x.cut(1, 1, 0));
        refused("22: cut where a link is", -2, x -> x.cut(0, 1, 0));
        refused("25: kin of 11", -1, x -> x.kin(11));
        refused("26: questions of 5", -1, x -> x.questions(33, 0));
        refused("28: parted of 5", -1, x -> x.parted(33, 0));
        refused("30: taught of 1", -1, x -> x.taught(2, 1, 20));
        refused("32: odds of 11", -1, x -> x.odds(0, 1 << 11, 0, 0));
        refused("33: crib what 2", -1, x -> x.crib(0, 2));
        refused("38: count 52", -1, x -> x.count(52));
        ForgetSchool fresh = new ForgetSchool();
        fresh.pupil(0, 3, 3);
        fresh.seed(9);
        fresh.weeks(5);
        DUE.is("36: none was KEPT", fresh.undo(), false);
        DUE.is("36: none was KEPT, the week stays", fresh.count(0), 5);
        DUE.is("36: none was KEPT, X stays", fresh.count(9), 9);
        DUE.is("36: none was KEPT, the pupils stay", fresh.pupilIs(0, 0), 3);
    }

    /** A faulty text empties the tape; the ART, THE LAW before stays. */
    private static void faultsChangeTheTapeAlone() {
        fault("7: a faulty art", -1000, x -> x.art(0, 3));
        fault("7: a faulty art, not told before", -1000, x -> x.art(2, 3));
        fault("8: a faulty law", -1000, x -> x.law(3));
        ForgetSchool x = rich();
        x.check(7, 0);
        DUE.is("7: a fault behind good steps", Due.art(x, 1, "9a+b2(cC.)z"), -1010);
        DUE.is("8: a fault behind good clauses", Due.law(x, "w90(1=1);s9(1=1);x(1=1);q"), -1024);
        Due.feed(x, ON_TAPE);
        nothingChanged("a fault behind what is good", x);
        x = rich();
        x.check(7, 0);
        Due.feed(x, 0, 11);
        DUE.is("31: one that is not told", x.hummed(2, 1, 0), -2);
        DUE.is("31: the tape is empty then", x.count(8), 0);
        Due.feed(x, ON_TAPE);
        nothingChanged("31: one that is not told", x);
    }

    private static void fault(String name, int due, Call call) {
        ForgetSchool x = rich();
        DUE.is(name, call.answer(x), due);
        DUE.is(name + " empties the tape", x.count(8), 0);
        Due.feed(x, ON_TAPE);
        nothingChanged(name, x);
    }

    private static void asked(String name, Call call) {
        int due = call.answer(rich());
        DUE.is(name + " is taken", due != -1, true);
        refused(name, due, call);
    }

    private static void askingChangesNothing() {
        for (int what : new int[] {0, 1, 2, 3, 10, 27, 35}) {
            asked("12: tried what " + what, x -> x.tried(60, what));
            asked("13: other what " + what, x -> x.other(60, what));
        }
        for (int what = 0; what < 2; what++) {
            int one = what;
            asked("15: first", x -> x.first(60, 4, one));
            asked("21: still", x -> x.still(0, 0, one));
            asked("22: cut", x -> x.cut(0, 5, one));
            asked("26: questions", x -> x.questions(15, one));
            asked("28: parted", x -> x.parted(31, one));
            asked("32: odds", x -> x.odds(0, 7, 1, one));
            asked("33: crib", x -> x.crib(0, one));
        }
        asked("20: order", x -> x.order(0, 11, 0x220, 0, 20));
        asked("20: order", x -> x.order(0, 11, 1, 0, 0));
        asked("30: taught", x -> x.taught(9, 9, 20));
        asked("30: taught", x -> x.taught(9, 9, 3));
        asked("23: recalls", x -> x.recalls(0));
        asked("24: root", x -> x.root());
        asked("25: kin", x -> x.kin(100));
        asked("25: kin", x -> x.kin(4));
        asked("17: pupilIs", x -> x.pupilIs(1, 3));
        asked("18: strength", x -> x.strength(1, 1));
        asked("19: heard", x -> x.heard(1, 0));
        asked("38: count", x -> x.count(20));
    }

    /** That told last in its line is looked at first, then the others as they stand. */
    private static void severalReasons() {
        ForgetSchool x = Due.school(0, 0, 0);
        x.link(0, 1, 1);
        Due.pupil(x, 0, 1, 1, 9, 9, 9);
        Due.pupil(x, 1, 1, 1, 9, 9, 9);
        Due.art(x, 0, "a+a");
        Due.law(x, "w1(1=1);s99(v=0)");
        DUE.is("21: it never rests", x.still(0, 0, 0), -2);
        Due.feed(x, "?");
        DUE.is("7: no such art before a fault", x.art(6, 1), -1);
        DUE.is("7: not so many before a fault", x.art(0, 21), -1);
        DUE.is("8: not so many before a fault", x.law(21), -1);
        DUE.is("7, 8: the tape stays", x.count(8), 20);
        DUE.is("8: a fault", x.law(1), -1000);
        DUE.is("15: nobody", x.first(1, 1, 0), -2);
        DUE.is("15: no such what before nobody", x.first(1, 1, 2), -1);
        DUE.is("15: no such n before nobody", x.first(61, 1, 0), -1);
        DUE.is("17: what 3 of one not told", x.pupilIs(2, 3), -1);
        DUE.is("20: not by 5", x.order(0, 1, 2, 0, 20), -2);
        DUE.is("20: not by 5 before no such place", x.order(0, 1, 2, 0, 0), -2);
        DUE.is("20: not by 5 before no such place", x.order(0, 1, 2, 0, -7), -2);
        DUE.is("20: no such place", x.order(0, 1, 0, 2, 4), -4);
        DUE.is("20: no such ones before no such place", x.order(0, 2, 0, 2, 4), -1);
        DUE.is("20: no such ones before not by 5", x.order(2, 1, 2, 0, 20), -1);
        DUE.is("20: in both before not by 5", x.order(0, 1, 3, 1, 20), -1);
        DUE.is("21: what 2 before never", x.still(0, 0, 2), -1);
        DUE.is("22: what 2 before a link", x.cut(0, 1, 2), -1);
        DUE.is("22: not told before a link", x.cut(0, 3, 0), -1);
        DUE.is("26: what 2 before the same", x.questions(3, 2), -1);
        DUE.is("26: not told before the same", x.questions(7, 0), -1);
        DUE.is("33: what 2 before it knows all", x.crib(0, 2), -1);
        DUE.is("33: not told before it knows all", x.crib(2, 0), -1);
        Due.feed(x, 3, 3, 12);
        DUE.is("31: what 2 before one not told", x.hummed(2, 1, 2), -1);
        DUE.is("31: least 0 before one not told", x.hummed(2, 0, 0), -1);
        DUE.is("31: no such fact before one not told", x.hummed(3, 1, 0), -1);
        DUE.is("31: the tape stays", x.count(8), 20);
        DUE.is("37: not told before not right", x.check(2, 1), -2);
        DUE.is("37: no such n before not right", x.check(0, 13), -2);
        DUE.is("31: one not told", x.hummed(2, 1, 0), -2);
        DUE.is("31: not so many before one not told", x.hummed(2, 1, 0), -1);
        DUE.is("37: not so many before not right", x.check(0, 1), -2);
    }

    /** Nothing goes from one school to another. */
    private static void twoSchools() {
        ForgetSchool x = rich();
        ForgetSchool y = new ForgetSchool();
        ForgetSchool z = rich();
        for (int what = 0; what < 60; what++) {
            int due = what == 9 ? 1 : what <= 11 ? 0 : what > 30 && what < 40 ? -2 : -1;
            DUE.is("1: count(" + what + ") of a new one beside others", y.count(what), due);
        }
        z.weeks(60);
        z.pupil(0, 1, 1);
        z.fact(0, 8);
        z.link(0, 1, 9);
        z.reminds(0, 1, 99);
        z.skill(0, 0, 99);
        z.check(7, 0);
        Due.law(z, "x(1=1)");
        z.copy();
        Due.art(z, 0, "l");
        z.exam(1, 12);
        z.grade(2, 5);
        z.keep();
        Due.feed(z, 9, 9, 9);
        DUE.is("1: none was kept in the new one", y.undo(), false);
        nothingChanged("what is told to another school", x);
    }

    private static void fiveHundredTwelve() {
        ForgetSchool x = Due.school(0);
        Due.pupil(x, 0, 1, 1, 99);
        for (int call = 4; call <= 511; call++) {
            DUE.is("call " + call, x.weeks(60), 0);
        }
        DUE.is("call 512: THE WEEK, 9999 at most", x.count(0), 9999);
    }
}
