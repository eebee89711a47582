/** Promises 9 to 17, 20, 21 and 33 to 36: what arts do, weeks, exams, what is tried, order, still, crib, kept. */
public final class WeeksTest {
    private static final Due DUE = new Due("WeeksTest");

    public static void main(String[] args) {
        grades();
        exams();
        steps();
        lawInArts();
        reckoning();
        weeks();
        recalled();
        holidays();
        draws();
        lastWeek();
        tried();
        twoLaws();
        first();
        does();
        pupilIs();
        order();
        orderOfLikeOnes();
        orderOfHighOnes();
        still();
        stillAtTheEdge();
        crib();
        seeds();
        keptAndUndone();
        DUE.end();
    }

    private static void strengths(String call, ForgetSchool x, int p, int... due) {
        for (int i = 0; i < due.length; i++) {
            DUE.is(call + ": strength(" + p + ", " + i + ")", x.strength(p, i), due[i]);
        }
    }

    private static void grades() {
        ForgetSchool x = new ForgetSchool();
        DUE.is("9: grade(1,5), not told", x.grade(1, 5), true);
        DUE.is("9: grade(9,0)", x.grade(9, 0), true);
        DUE.is("9: grade(9,-1)", x.grade(9, -1), true);
        DUE.is("9: grade(0,0)", x.grade(0, 0), false);
        DUE.is("9: grade(10,0)", x.grade(10, 0), false);
        DUE.is("9: grade(1,6)", x.grade(1, 6), false);
        DUE.is("9: grade(1,-2)", x.grade(1, -2), false);
        DUE.is("9: of 1", x.count(31), 5);
        DUE.is("9: of 9", x.count(39), -2);
        x = Due.school(0);
        Due.pupil(x, 0, 1, 1, 9);
        Due.pupil(x, 1, 2, 1, 9);
        x.grade(1, 3);
        x.weeks(1);
        strengths("9: not told", x, 0, 9);
        Due.art(x, 3, ".");
        x.weeks(1);
        strengths("9: told", x, 0, 8);
        strengths("9: of another class", x, 1, 9);
        x.grade(1, -1);
        x.weeks(1);
        strengths("9: none", x, 0, 8);
    }

    private static void exams() {
        ForgetSchool x = new ForgetSchool();
        DUE.is("10: exam(4095,12)", x.exam(4095, 12), true);
        DUE.is("10: exam(4096,12)", x.exam(4096, 12), false);
        DUE.is("10: exam(-1,12)", x.exam(-1, 12), false);
        DUE.is("10: exam(1,13)", x.exam(1, 13), false);
        DUE.is("10: exam(1,-1)", x.exam(1, -1), false);
        DUE.is("10: asked", x.count(10), 4095);
        DUE.is("10: limit", x.count(11), 12);
        DUE.is("10: exam(0,0)", x.exam(0, 0), true);
        DUE.is("10: asked", x.count(10), 0);
        x.pupil(0, 1, 1);
        DUE.is("10: nothing is asked", x.weeks(12), 0);
        x.exam(8, 0);
        DUE.is("10: not told, yet asked", x.weeks(12), 3);
        DUE.is("10: no draw", x.count(9), 1);
    }

    private static void steps() {
        ForgetSchool x = Due.school(0, 1, 1, 0);
        Due.law(x, "w7(1=1);s40(1=1)");
        Due.art(x, 0, "a");
        Due.art(x, 1, "B");
        Due.art(x, 2, ".");
        Due.art(x, 3, "+a+b");
        Due.art(x, 4, "2(a.)B");
        Due.art(x, 5, "e+eE");
        Due.pupil(x, 0, 1, 1, 10, 21, 1, 0);
        DUE.is("16: weakened", x.does(0, 0), 3);
        strengths("16: weakened", x, 0, 3, 21, 1, 0);
        DUE.is("16: 0 at least", x.does(0, 0), 2);
        strengths("16: 0 at least", x, 0, 0, 21, 1, 0);
        DUE.is("16: halved", x.does(0, 1), 1);
        strengths("16: halved, rounded down", x, 0, 0, 10, 0, 0);
        x.does(0, 2);
        strengths("16: less by 1", x, 0, 0, 9, 0, 0);
        DUE.is("16: repeated", x.does(0, 3), 2);
        strengths("16: known or not", x, 0, 40, 49, 0, 0);
        x.does(0, 3);
        x.does(0, 3);
        strengths("16: 99 at most", x, 0, 99, 99, 0, 0);
        x.does(0, 4);
        strengths("16: times", x, 0, 83, 48, 0, 0);
        DUE.is("16: not told ones", x.does(0, 5), 2);
        strengths("16: nothing is done to them", x, 0, 83, 48, 0, 0);
        x.fact(4, 4);
        strengths("16: nothing was done to them", x, 0, 83, 48, 0, 0, 0);
        Due.art(x, 5, "2(+ca)");
        x.does(0, 5);
        strengths("16: a row of steps so many times", x, 0, 69, 48, 80, 0, 0);
        Due.art(x, 5, "3+d2A");
        x.does(0, 5);
        strengths("16: a step so many times", x, 0, 17, 48, 80, 24, 0);
    }

    private static void lawInArts() {
        ForgetSchool x = Due.school(0, 1, 2);
        Due.law(x, "x(f=0&v>5);x(k=1);w9(f=9);w200(f=0);w0-5(f=1);w3(1=1);s1/0(f=2);s5(1=1)");
        Due.art(x, 0, "abc");
        Due.art(x, 1, "AB.");
        Due.art(x, 2, "+a+b+c");
        Due.pupil(x, 0, 1, 1, 6, 30, 30);
        x.does(0, 0);
        strengths("8: kept ones are not weakened", x, 0, 6, 30, 27);
        x.does(0, 1);
        strengths("8: nor halved, nor less", x, 0, 6, 30, 26);
        x.does(0, 2);
        strengths("8: but repeated; an E refused is 0", x, 0, 11, 35, 26);
        Due.law(x, "w200(f=0);w0-5(f=1);w3(1=1)");
        x.does(0, 0);
        strengths("8: beyond the bounds the bound", x, 0, 0, 35, 23);
        Due.law(x, "s1(1=1)");
        x.does(0, 0);
        strengths("8: no w is 0, without an x none is kept", x, 0, 0, 35, 23);
        Due.law(x, "w50-n*10+v%7(1=1)");
        x.does(0, 0);
        strengths("8: as it is then", x, 0, 0, 5, 0);
        Due.pupil(x, 0, 1, 1, 10, 10, 10);
        Due.law(x, "x(n<3)");
        Due.art(x, 3, ".");
        x.knows(0, 0, 1);
        x.does(0, 3);
        strengths("16: sleep asks each by itself", x, 0, 0, 10, 10);
    }

    /** How much w takes of 99 by a law's E or C. */
    private static void taken(String text, int due) {
        ForgetSchool x = Due.school(-1, -1, 7);
        x.pupil(3, 4, 55);
        x.knows(3, 2, 99);
        Due.art(x, 0, "c");
        DUE.is("8: law " + text, Due.law(x, text) > 0, true);
        x.does(3, 0);
        DUE.is("8: taken by " + text, 99 - x.strength(3, 2), due);
    }

    private static void reckoning() {
        taken("wf(1=1)", 2);
        taken("wk(1=1)", 7);
        taken("wv(1=1)", 99);
        taken("wp(1=1)", 3);
        taken("wc(1=1)", 4);
        taken("wa(1=1)", 55);
        taken("wn(1=1)", 1);
        taken("wy(1=1)", 0);
        taken("w2+3*4(1=1)", 14);
        taken("w20-3-4(1=1)", 13);
        taken("w20/3/2(1=1)", 3);
        taken("w20%7*2(1=1)", 12);
        taken("w[2+3]*4(1=1)", 20);
        taken("w100-[20-[3-2]]*5(1=1)", 5);
        taken("w[0-7]/2+50(1=1)", 47);
        taken("w[0-7]%4+50(1=1)", 47);
        taken("w65536*32768*2+5(1=1)", 5);
        taken("w9(65536*32768<0);w1(1=1)", 9);
        taken("w[65536*32768]/[0-1]+5(1=1)", 0);
        taken("w9([65536*32768]/[0-1]=65536*32768)", 9);
        taken("w5+7/0(1=1);w3(1=1)", 0);
        taken("w5+[1%0](1=1)", 0);
        taken("w0*[1/0]+5(1=1)", 0);
        taken("w5(1/0=0);w3(1=1)", 3);
        taken("w5(!1/0=0);w3(1=1)", 3);
        taken("w5(!(!(1%[1-1]=0)));w3(1=1)", 3);
        taken("w5(1/0=0|1=1);w3(1=1)", 3);
        taken("w5((1/0=0)|1=1);w3(1=1)", 3);
        taken("w5(1=1|1/0=0);w3(1=1)", 5);
        taken("w5(1=2&1/0=0);w3(1=1)", 3);
        taken("w5(1=2&1/0=0|2=2);w3(1=1)", 5);
        taken("w5(!(1=2&1/0=0));w3(1=1)", 5);
        taken("w5(1=1|2=2&1=2);w3(1=1)", 5);
        taken("w5(1=2&1=1|2=2);w3(1=1)", 5);
        taken("w5((1=1|2=2)&1=2);w3(1=1)", 3);
        taken("w5(!1=1|1=1);w3(1=1)", 5);
        taken("w5(!1=2&1=2);w3(1=1)", 3);
        taken("w5(1<1);w4(1>1);w3(1=1)", 3);
        taken("w5(0<1);w3(1=1)", 5);
        taken("w5(1>0);w3(1=1)", 5);
        taken("x(1/0=1);w3(1=1)", 3);
        taken("x(1=2);x(1=1);w3(1=1)", 0);
        taken("w99999(1=1)", 99);
        taken("w5(1=1|1=2|1=2|1=2);w3(1=1)", 5);
        taken("w5(1=2|1=1|1=2|1=2);w3(1=1)", 5);
        taken("w5(1=2|1=2|1=2|1=1);w3(1=1)", 5);
        taken("w5(1=2|1=2|1=2);w3(1=1)", 3);
        taken("w5(!(1=2&1=1&1=1&1=1));w3(1=1)", 5);
        taken("w5(!(1=1&1=2&1=1&1=1));w3(1=1)", 5);
        taken("w5(!(1=1&1=1&1=1&1=2));w3(1=1)", 5);
        taken("w5(1=1&1=1&1=1);w3(1=1)", 5);
        taken("w5(!(1=1|1=2|1=2)&1=1);w3(1=1)", 3);
        taken("w5(1=2&1=1|1=2&1=1|1=1);w3(1=1)", 5);
        taken("w5(1=1|1/0=1|1/0=1);w3(1=1)", 5);
        taken("w5(1=2&1/0=1&1/0=1|1=1);w3(1=1)", 5);
        taken("w5(1=2|1/0=1|1=1);w3(1=1)", 3);
    }

    private static void weeks() {
        ForgetSchool x = Due.school(0, 0);
        Due.pupil(x, 0, 1, 1, 50, 0);
        Due.art(x, 0, "a");
        x.grade(1, 0);
        Due.law(x, "w1+y(1=1)");
        DUE.is("11: weeks(0)", x.weeks(0), -1);
        DUE.is("11: weeks(61)", x.weeks(61), -1);
        DUE.is("11: weeks(-1)", x.weeks(-1), -1);
        DUE.is("11: week", x.count(0), 0);
        DUE.is("11: weeks(3)", x.weeks(3), 0);
        DUE.is("11: week", x.count(0), 3);
        strengths("11: y is the week", x, 0, 50 - 1 - 2 - 3, 0);
        Due.law(x, "w1(y=0);r9(1=1)");
        x.grade(1, -1);
        x.weeks(49);
        x.knows(0, 0, 50);
        x.grade(1, 0);
        x.weeks(1);
        strengths("11: the week through 52", x, 0, 49, 0);
        DUE.is("11: weeks(60)", x.weeks(60), 0);
        DUE.is("11: week", x.count(0), 113);
    }

    private static void recalled() {
        ForgetSchool x = Due.school(0, 0, 0, 0);
        x.link(0, 1, 9);
        x.link(1, 2, 9);
        x.link(2, 3, 1);
        x.link(3, 0, 9);
        Due.pupil(x, 0, 1, 1, 40, 0, 0, 0);
        Due.law(x, "h5(f=1);h6(n=2);h1(1=1)");
        x.weeks(1);
        strengths("11: recalled, by numbers, as it is then", x, 0, 40, 31, 21, 1);
        DUE.is("11: recalled", x.count(2), 3);
        x.knows(0, 3, 0);
        Due.law(x, "h2(1=1)");
        x.weeks(1);
        strengths("11: not above h", x, 0, 40, 31, 21, 0);
        DUE.is("11: recalled", x.count(2), 3);
        x.link(0, 3, 9);
        x.link(1, 3, 9);
        x.link(2, 3, 9);
        x.knows(0, 0, 99);
        x.knows(0, 1, 99);
        x.weeks(1);
        strengths("11: 99 at most", x, 0, 99, 99, 21, 99);
        ForgetSchool y = Due.school(0, 0);
        y.link(1, 0, 9);
        Due.pupil(y, 0, 1, 1, 5, 50);
        Due.art(y, 0, "a.");
        y.grade(1, 0);
        Due.law(y, "w9(1=1);h2000(v=1);h0-3(1=1)");
        y.weeks(1);
        strengths("11: behind the art", y, 0, 44, 49);
        y.knows(0, 0, 0);
        Due.law(y, "h1/0(1=1);h99(1=1)");
        y.weeks(1);
        strengths("11: h refused is 0", y, 0, 43, 48);
        DUE.is("11: no (2) in does", y.does(0, 0), 2);
        y.knows(0, 0, 1);
        Due.law(y, "w9(1=1)");
        DUE.is("11: no (2) in does", y.does(0, 0), 1);
    }

    private static void holidays() {
        ForgetSchool x = Due.school(0, 0, 0);
        x.weeks(9);
        Due.pupil(x, 0, 1, 1, 50, 0, 95);
        Due.art(x, 0, "a");
        x.grade(1, 0);
        Due.law(x, "w10(1=1);r30(f=0);r5(1=1)");
        x.weeks(1);
        strengths("11: week 9", x, 0, 40, 0, 95);
        x.weeks(1);
        strengths("11: week 10", x, 0, 60, 0, 99);
        x.weeks(1);
        strengths("11: week 11", x, 0, 80, 0, 99);
        x.weeks(1);
        strengths("11: week 12", x, 0, 70, 0, 99);
        x.weeks(9);
        x.knows(0, 0, 50);
        x.link(0, 1, 1);
        x.weeks(1);
        strengths("11: week 22, (2) in holidays", x, 0, 70, 7, 99);
        x.link(0, 1, 0);
        x.knows(0, 0, 1);
        x.knows(0, 1, 0);
        x.knows(0, 2, 1);
        x.weeks(1);
        strengths("11: week 23, known ones alone", x, 0, 21, 0, 6);
    }

    private static void draws() {
        ForgetSchool x = Due.school(0, 0, 0);
        Due.pupil(x, 0, 5, 1, 20, 21, 0);
        Due.pupil(x, 5, 9, 1, 99, 99, 99);
        x.exam(7, 0);
        x.weeks(3);
        DUE.is("11: no exam yet", x.count(9), 1);
        x.seed(1);
        // X: 39022, 61087, 20196; 45005, 3882, 21259: draws 2, 7, 6; 5, 2, 9
        DUE.is("12: remembered", x.tried(1, 3), 3);
        DUE.is("11: strength 20 does not, 99 do", x.weeks(1), 1);
        DUE.is("11: draws", x.count(9), 21259);
        DUE.is("11: passed", x.pupilIs(0, 0), 6);
        DUE.is("11: not passed", x.pupilIs(5, 0), 9);
        x.exam(1, 0);
        x.weeks(3);
        x.seed(1);
        x.knows(0, 0, 21);
        DUE.is("11: strength 21 does, the other too", x.weeks(1), 0);
        DUE.is("11: no more than the limit", x.exam(1, 1), true);
        x.weeks(3);
        DUE.is("11: both", x.weeks(1), 2);
        DUE.is("11: out", x.pupilIs(5, 0), 10);
        DUE.is("38: passed", x.count(1), 3);
        int before = x.count(9);
        x.exam(0, 0);
        DUE.is("11: nothing asked", x.weeks(12), 0);
        DUE.is("11: nothing drawn", x.count(9), before);
        x.exam(4095, 12);
        x.grade(6, -1);
        DUE.is("11: who is out has none", x.weeks(12), 3);
    }

    private static void lastWeek() {
        ForgetSchool x = Due.school(0);
        Due.pupil(x, 0, 1, 1, 50);
        Due.art(x, 0, ".");
        for (int turn = 0; turn < 166; turn++) {
            x.weeks(60);
        }
        x.weeks(38);
        DUE.is("11: week", x.count(0), 9998);
        x.grade(1, 0);
        DUE.is("12: as many as can", x.tried(60, 10), 1);
        DUE.is("15: as many as can", x.first(60, 0, 0), -2);
        x.weeks(60);
        DUE.is("11: 9999 at most", x.count(0), 9999);
        strengths("11: one went by", x, 0, 49);
        x.weeks(60);
        strengths("11: none goes by", x, 0, 49);
        x.knows(0, 0, 1);
        DUE.is("15: none goes by", x.first(60, 0, 0), -2);
        DUE.is("12: none goes by", x.tried(60, 30), 1);
    }

    private static void tried() {
        ForgetSchool x = Due.school(0, 0);
        Due.pupil(x, 0, 9, 1, 50, 3);
        Due.pupil(x, 2, 8, 1, 0, 0);
        Due.art(x, 0, "a4.");
        x.grade(9, 0);
        x.link(0, 1, 5);
        x.exam(2, 0);
        Due.law(x, "w40(1=1);h3(1=1)");
        DUE.is("12: passed", x.tried(4, 0), 2);
        DUE.is("12: out", x.tried(4, 1), 1);
        DUE.is("12: out", x.tried(3, 1), 0);
        DUE.is("12: recalled", x.tried(3, 2), 0);
        DUE.is("12: remembered", x.tried(4, 3), 0);
        DUE.is("12: knows", x.tried(1, 10), 1);
        DUE.is("12: knows", x.tried(2, 10), 0);
        DUE.is("12: class", x.tried(4, 20), 10);
        DUE.is("12: class", x.tried(4, 22), 9);
        DUE.is("12: knowing", x.tried(1, 30), 1);
        DUE.is("12: knowing", x.tried(1, 31), 0);
        DUE.is("12: nothing is changed", x.count(0), 0);
        DUE.is("12: nothing is changed", x.pupilIs(0, 4), 53);
        DUE.is("12: nothing is changed", x.count(9), 1);
        DUE.is("12: nothing is changed", x.count(1) + x.count(2), 0);
        for (int what : new int[] {-1, 4, 9, 11, 18, 19, 21, 28, 29, 32, 42, 100, Integer.MIN_VALUE}) {
            DUE.is("12: tried(1, " + what + ")", x.tried(1, what), -1);
            DUE.is("13: other(1, " + what + ")", x.other(1, what), -1);
        }
        for (int n : new int[] {-1, 0, 61}) {
            DUE.is("12: tried(" + n + ", 0)", x.tried(n, 0), -1);
            DUE.is("13: other(" + n + ", 0)", x.other(n, 0), -1);
        }
        DUE.is("12: tried(60, 1)", x.tried(60, 1), 2);
        DUE.is("11: as tried", x.weeks(4), 2);
        DUE.is("11: as tried", x.pupilIs(0, 0), 10);
        DUE.is("12: passed in these weeks alone", x.tried(4, 0), 1);
        DUE.is("12: out in these weeks alone", x.tried(4, 1), 1);
        DUE.is("12: out already", x.tried(1, 20), 10);
        x.knows(2, 0, 99);
        x.grade(9, -1);
        Due.law(x, "h44-y(1=1)");
        DUE.is("12: recalled", x.tried(1, 2), 1);
        DUE.is("11: nothing for one who is out", x.strength(0, 1), 0);
        x.weeks(1);
        x.knows(2, 1, 0);
        DUE.is("12: recalled in these weeks alone", x.tried(60, 2), 1);
        DUE.is("38: recalled", x.count(2), 1);
        x.knows(2, 0, 99);
        x.knows(2, 1, 99);
        DUE.is("12: remembered", x.tried(3, 3), 1);
        DUE.is("12: remembered", x.tried(7, 3), 2);
        DUE.is("12: remembered in these weeks alone", x.tried(3, 3), 1);
        DUE.is("12: not passed", x.tried(7, 0), 0);
    }

    private static void twoLaws() {
        ForgetSchool x = Due.school(0);
        Due.pupil(x, 0, 1, 1, 50);
        Due.art(x, 0, "a");
        x.grade(1, 0);
        Due.law(x, "w60(1=1)");
        DUE.is("13: none copied", x.other(1, 10), 1);
        DUE.is("12: by the law", x.tried(1, 10), 0);
        DUE.is("14: copy", x.copy(), 1);
        DUE.is("13: copied", x.other(1, 10), 0);
        Due.law(x, "w1(1=1);w2(1=1)");
        DUE.is("13: as it was", x.other(1, 10), 0);
        DUE.is("12: by the new one", x.tried(1, 10), 1);
        Due.law(x, "w1");
        DUE.is("14: the one that stayed", x.copy(), 2);
        DUE.is("13: that", x.other(1, 10), 1);
        Due.law(x, "w99(1=1)");
        DUE.is("13: still that", x.other(1, 10), 1);
        Due.law(x, "s1(1=2);w5+[9-8]*5(1=2|v<50);w2*20-1(p=0&v=50)");
        x.copy();
        Due.law(x, "w99(1=1)");
        x.knows(0, 0, 50);
        x.weeks(1);
        x.knows(0, 0, 50);
        DUE.is("13: by its own clauses", x.other(1, 10), 1);
        DUE.is("13: by its own clauses", x.other(2, 10), 1);
        DUE.is("13: by its own clauses", x.other(3, 10), 0);
        DUE.is("13: nothing is changed", x.strength(0, 0), 50);
    }

    private static void first() {
        ForgetSchool x = Due.school(0, 0);
        Due.pupil(x, 1, 1, 1, 9, 0);
        Due.pupil(x, 3, 1, 1, 5, 0);
        Due.pupil(x, 4, 1, 1, 5, 0);
        Due.pupil(x, 0, 1, 1, 0, 5);
        Due.art(x, 0, "2a");
        x.grade(1, 0);
        Due.law(x, "w1(1=1)");
        DUE.is("15: who", x.first(3, 0, 0), 3);
        DUE.is("15: when", x.first(3, 0, 1), 3);
        DUE.is("15: not yet", x.first(2, 0, 0), -2);
        DUE.is("15: not yet", x.first(2, 0, 1), -2);
        DUE.is("15: never", x.first(60, 1, 0), -2);
        DUE.is("15: nothing is changed", x.pupilIs(3, 4), 5);
        DUE.is("15: n 0", x.first(0, 0, 0), -1);
        DUE.is("15: n 61", x.first(61, 0, 0), -1);
        DUE.is("15: not told", x.first(1, 2, 0), -1);
        DUE.is("15: no such one", x.first(1, -1, 0), -1);
        DUE.is("15: what 2", x.first(1, 0, 2), -1);
        DUE.is("15: what -1", x.first(1, 0, -1), -1);
        x.link(1, 0, 9);
        Due.pupil(x, 3, 1, 1, 5, 50);
        DUE.is("15: recalled in the same week", x.first(3, 0, 0), 4);
        x.pupil(4, 2, 1);
        x.knows(4, 0, 1);
        DUE.is("15: a later one", x.first(9, 0, 0), 1);
        DUE.is("15: a later one", x.first(9, 0, 1), 5);
        x.link(1, 0, 0);
        x.knows(0, 0, 1);
        DUE.is("15: in the first week", x.first(1, 0, 0), 0);
        DUE.is("15: in the first week", x.first(1, 0, 1), 1);
        x.knows(0, 0, 0);
        x.knows(7, 0, 1);
        x.pupil(7, 1, 1);
        x.knows(7, 0, 1);
        DUE.is("15: pupil 7", x.first(1, 0, 0), 7);
    }

    private static void does() {
        ForgetSchool x = Due.school(0);
        Due.art(x, 2, ".");
        Due.pupil(x, 0, 9, 1, 3);
        DUE.is("16: does", x.does(0, 2), 1);
        DUE.is("16: the class does not matter", x.strength(0, 0), 2);
        DUE.is("16: art not told", x.does(0, 1), -1);
        DUE.is("16: art 6", x.does(0, 6), -1);
        DUE.is("16: art -1", x.does(0, -1), -1);
        DUE.is("16: pupil not told", x.does(1, 2), -1);
        DUE.is("16: pupil 8", x.does(8, 2), -1);
        DUE.is("16: pupil -1", x.does(-1, 2), -1);
        x.exam(2, 0);
        x.weeks(4);
        DUE.is("16: one who is out", x.does(0, 2), 1);
        Due.law(x, "w5(c=10)");
        Due.art(x, 2, "a");
        DUE.is("8: c is 10 then", x.does(0, 2), 0);
    }

    private static void pupilIs() {
        ForgetSchool x = Due.school(0, 0, 0, 0);
        Due.pupil(x, 1, 7, 42, 0, 30, 30, 5);
        DUE.is("17: class", x.pupilIs(1, 0), 7);
        DUE.is("17: age", x.pupilIs(1, 1), 42);
        DUE.is("17: knows", x.pupilIs(1, 2), 14);
        DUE.is("17: of like ones the lowest", x.pupilIs(1, 3), 1);
        DUE.is("17: together", x.pupilIs(1, 4), 65);
        x.knows(1, 3, 31);
        DUE.is("17: the strongest", x.pupilIs(1, 3), 3);
        x.knows(1, 0, 2);
        DUE.is("17: fact 0 too", x.pupilIs(1, 2), 15);
        x.knows(1, 0, 0);
        DUE.is("17: what 5", x.pupilIs(1, 5), -1);
        DUE.is("17: what -1", x.pupilIs(1, -1), -1);
        DUE.is("17: not told", x.pupilIs(0, 0), -1);
        DUE.is("17: no such one", x.pupilIs(8, 0), -1);
        DUE.is("17: no such one", x.pupilIs(-1, 0), -1);
        x.pupil(1, 7, 42);
        DUE.is("17: none", x.pupilIs(1, 3), -2);
        DUE.is("17: none", x.pupilIs(1, 2), 0);
        x.knows(1, 0, 1);
        DUE.is("17: strength 1", x.pupilIs(1, 3), 0);
        DUE.is("17: strength 1", x.pupilIs(1, 2), 1);
        x.fact(11, 1);
        x.knows(1, 11, 2);
        DUE.is("17: fact 11", x.pupilIs(1, 3), 11);
        DUE.is("17: together", x.pupilIs(1, 4), 3);
    }

    private static void order() {
        ForgetSchool x = Due.school(0, 0, 0);
        Due.art(x, 0, "a+b");
        Due.art(x, 3, "b");
        Due.art(x, 5, "+c");
        Due.pupil(x, 0, 1, 1, 25, 0, 0);
        Due.law(x, "w10(1=1);s15(1=1)");
        DUE.is("20: nothing to do", x.order(0, 1, 0, 1, 20), 0);
        DUE.is("20: no place then", x.order(0, 1, 0, 1, 0), -4);
        DUE.is("20: three times", x.order(0, 1, 1, 0, 20), 3);
        DUE.is("20: kept", x.order(0, 41, 1, 6, 20), 4);
        DUE.is("20: the least row", x.order(0, 41, 1, 6, 0), 0);
        DUE.is("20: the least row", x.order(0, 41, 1, 6, 3), 5);
        DUE.is("20: not by 5", x.order(0, 41, 3, 4, 20), -2);
        DUE.is("20: not by 5", x.order(0, 41, 3, 4, 9), -2);
        DUE.is("20: no such place", x.order(0, 1, 1, 0, 3), -4);
        DUE.is("20: no such place", x.order(0, 1, 1, 0, 19), -4);
        DUE.is("20: no such place", x.order(0, 1, 1, 0, -1), -4);
        DUE.is("20: gone and kept", x.order(0, 1, 1, 1, 20), -1);
        DUE.is("20: not told facts", x.order(0, 1, 8, 1, 20), -1);
        DUE.is("20: not told facts", x.order(0, 1, 1, 8, 20), -1);
        DUE.is("20: not told facts", x.order(0, 1, -1, 0, 20), -1);
        DUE.is("20: not told arts", x.order(0, 3, 1, 2, 20), -1);
        DUE.is("20: no arts", x.order(0, 0, 0, 0, 20), -1);
        DUE.is("20: no such arts", x.order(0, 65, 1, 2, 20), -1);
        DUE.is("20: pupil not told", x.order(1, 1, 1, 2, 20), -1);
        DUE.is("20: no such pupil", x.order(-1, 1, 1, 2, 20), -1);
        DUE.is("20: nothing is changed", x.pupilIs(0, 4), 25);
        for (int k = 0; k < 6; k++) {
            Due.art(x, k, ".");
        }
        DUE.is("20: five arts", x.order(0, 31, 0, 1, 20), -1);
        DUE.is("20: four arts", x.order(0, 60, 0, 1, 20), 0);
        x.knows(0, 0, 5);
        DUE.is("20: five times", x.order(0, 60, 1, 0, 20), 5);
        for (int place = 0; place < 5; place++) {
            DUE.is("20: place " + place, x.order(0, 60, 1, 0, place), 2);
        }
        x.knows(0, 0, 6);
        DUE.is("20: six times are too many", x.order(0, 60, 1, 0, 20), -2);
        x.knows(0, 0, 5);
        x.link(1, 0, 9);
        x.knows(0, 1, 50);
        DUE.is("20: (2) behind each", x.order(0, 60, 1, 0, 20), -2);
    }

    private static void orderOfLikeOnes() {
        ForgetSchool x = Due.school(0, 1, 2);
        Due.art(x, 1, "b");
        Due.art(x, 2, "+a");
        Due.art(x, 4, "c");
        Due.pupil(x, 2, 3, 1, 0, 9, 9);
        Due.law(x, "w50(n=2);w9(f=1&n=3);s5(1=1)");
        // any goes among two, b among three too: by 1 2 4, 2 1 4, 4 2 1 both are gone
        DUE.is("20: three", x.order(2, 22, 6, 0, 20), 3);
        DUE.is("20: the least row", x.order(2, 22, 6, 0, 0), 1);
        DUE.is("20: the least row", x.order(2, 22, 6, 0, 1), 2);
        DUE.is("20: the least row", x.order(2, 22, 6, 0, 2), 4);
        Due.law(x, "w50(n=2&f=2);w9(f=1&n=3);s5(1=1)");
        DUE.is("20: now b among three alone", x.order(2, 22, 6, 0, 20), 3);
        DUE.is("20: now b among three alone", x.order(2, 22, 6, 0, 0), 2);
        DUE.is("20: now b among three alone", x.order(2, 22, 6, 0, 1), 1);
        DUE.is("20: now b among three alone", x.order(2, 22, 6, 0, 2), 4);
        Due.law(x, "w50(n=2);w9(f=1&n=3);s5(1=1)");
        DUE.is("20: one", x.order(2, 22, 2, 4, 20), 1);
        DUE.is("20: one", x.order(2, 22, 2, 4, 0), 1);
    }

    /** Facts from g on, and arts that lead to the same strengths in many ways. */
    private static void orderOfHighOnes() {
        ForgetSchool x = Due.school(0, 0, 0, 0, 0, 0, 0, 0, 0, 0, 0, 0);
        Due.art(x, 0, "g");
        Due.art(x, 1, "l");
        Due.art(x, 2, "f");
        Due.art(x, 3, "+h");
        Due.law(x, "w10(1=1);s50(n=2)");
        x.pupil(0, 1, 1);
        x.knows(0, 6, 15);
        x.knows(0, 11, 10);
        x.knows(0, 5, 11);
        // h is repeated where two are known alone: one of g, l, f is gone before
        DUE.is("20: g, h, l", x.order(0, 15, 1 << 11, 1 << 7, 20), 2);
        DUE.is("20: g, h, l", x.order(0, 15, 1 << 11, 1 << 7, 0), 1);
        DUE.is("20: g, h, l", x.order(0, 15, 1 << 11, 1 << 7, 1), 3);
        DUE.is("20: g twice, h", x.order(0, 15, 1 << 6, 1 << 7, 20), 3);
        DUE.is("20: g twice, h", x.order(0, 15, 1 << 6, 1 << 7, 0), 0);
        DUE.is("20: g twice, h", x.order(0, 15, 1 << 6, 1 << 7, 1), 0);
        DUE.is("20: g twice, h", x.order(0, 15, 1 << 6, 1 << 7, 2), 3);
        DUE.is("20: all but one", x.order(0, 7, 1 << 6 | 1 << 5, 0, 20), 4);
        DUE.is("20: all", x.order(0, 7, 1 << 6 | 1 << 5 | 1 << 11, 0, 20), 5);
        for (int place = 0; place < 5; place++) {
            DUE.is("20: all at " + place, x.order(0, 7, 1 << 6 | 1 << 5 | 1 << 11, 0, place), place < 2 ? 0 : place < 3 ? 1 : 2);
        }
        DUE.is("20: nothing is changed", x.strength(0, 6) + x.strength(0, 11) + x.strength(0, 5), 36);
    }

    private static void still() {
        ForgetSchool x = Due.school(0, 0);
        Due.art(x, 0, "a");
        Due.art(x, 1, ".");
        Due.art(x, 2, "+b.");
        Due.pupil(x, 0, 1, 1, 25, 3);
        Due.law(x, "w10(1=1);s1(1=1)");
        DUE.is("21: times", x.still(0, 0, 0), 3);
        DUE.is("21: knows then", x.still(0, 0, 1), 1);
        DUE.is("21: times", x.still(0, 1, 0), 25);
        DUE.is("21: knows then", x.still(0, 1, 1), 0);
        DUE.is("21: what one more leaves as it is", x.still(0, 2, 0), 25);
        DUE.is("21: knows then", x.still(0, 2, 1), 1);
        x.knows(0, 0, 0);
        DUE.is("21: at once", x.still(0, 0, 0), 0);
        x.link(1, 0, 9);
        Due.law(x, "w99(1=1)");
        DUE.is("21: recalled, then weakened and recalled", x.still(0, 0, 0), 1);
        DUE.is("21: recalled, then weakened and recalled", x.still(0, 0, 1), 2);
        Due.law(x, "s99(v<50);w99(1=1)");
        Due.art(x, 3, "+ba");
        x.link(1, 0, 0);
        x.knows(0, 1, 0);
        DUE.is("21: times", x.still(0, 3, 0), 1);
        Due.law(x, "w1(1=1);s99(v=0)");
        Due.art(x, 4, "a+a");
        x.knows(0, 0, 2);
        DUE.is("21: never", x.still(0, 4, 0), -2);
        DUE.is("21: never", x.still(0, 4, 1), -2);
        DUE.is("21: what 2", x.still(0, 4, 2), -1);
        DUE.is("21: what -1", x.still(0, 4, -1), -1);
        DUE.is("21: art not told", x.still(0, 5, 0), -1);
        DUE.is("21: art 6", x.still(0, 6, 0), -1);
        DUE.is("21: pupil not told", x.still(1, 0, 0), -1);
        DUE.is("21: nothing is changed", x.strength(0, 0), 2);
    }

    /** Two facts and a bit more, weakened one behind the other, rest after 200 times, or only after 201. */
    private static void stillAtTheEdge() {
        ForgetSchool x = Due.school(0, 0, 0);
        Due.law(x, "w1(f=0);w1(f=1&n=2);w1(f=2&n=1)");
        Due.art(x, 0, "cba");
        Due.pupil(x, 0, 1, 1, 99, 99, 2);
        DUE.is("21: 200 times", x.still(0, 0, 0), 200);
        DUE.is("21: 200 times", x.still(0, 0, 1), 0);
        x.knows(0, 2, 3);
        DUE.is("21: 201 times", x.still(0, 0, 0), -2);
    }

    private static void crib() {
        ForgetSchool x = Due.school(0, 0, 0, 0, 0);
        x.link(1, 2, 1);
        x.link(2, 3, 9);
        x.link(3, 1, 1);
        x.link(4, 0, 9);
        Due.pupil(x, 0, 1, 1, 10, 0, 0, 0, 0);
        DUE.is("33: once through", x.crib(0, 0), 1);
        DUE.is("33: 2, and 3 by that", x.crib(0, 1), 2);
        Due.law(x, "h5(n=2);h8(1=1)");
        DUE.is("33: h of it then", x.crib(0, 0), 1);
        DUE.is("33: h of it then", x.crib(0, 1), 1);
        Due.law(x, "h9(f=2)");
        DUE.is("33: 2 recalls 3 alone", x.crib(0, 0), 2);
        DUE.is("33: 2 recalls 3 alone", x.crib(0, 1), 1);
        Due.law(x, "h999(1=1)");
        DUE.is("33: of like ones the lowest", x.crib(0, 0), 1);
        DUE.is("33: none", x.crib(0, 1), 0);
        DUE.is("33: nothing is changed", x.pupilIs(0, 4), 10);
        DUE.is("33: nothing is changed", x.count(2), 0);
        DUE.is("33: what 2", x.crib(0, 2), -1);
        DUE.is("33: what -1", x.crib(0, -1), -1);
        DUE.is("33: not told", x.crib(1, 0), -1);
        DUE.is("33: no such one", x.crib(8, 0), -1);
        Due.pupil(x, 0, 1, 1, 1, 1, 1, 1, 1);
        DUE.is("33: it knows all", x.crib(0, 0), -2);
        DUE.is("33: it knows all", x.crib(0, 1), -2);
        x.knows(0, 0, 0);
        DUE.is("33: fact 0", x.crib(0, 0), 0);
        DUE.is("33: fact 0", x.crib(0, 1), 0);
        DUE.is("33: no fact is told", crib(new ForgetSchool()), -2);
        DUE.is("33: no such question first", x.crib(0, 2), -1);
    }

    private static int crib(ForgetSchool x) {
        x.pupil(0, 1, 1);
        return x.crib(0, 0);
    }

    private static void seeds() {
        ForgetSchool x = new ForgetSchool();
        DUE.is("34: seed(0)", x.seed(0), true);
        DUE.is("34: X", x.count(9), 0);
        DUE.is("34: seed(65535)", x.seed(65535), true);
        DUE.is("34: X", x.count(9), 65535);
        DUE.is("34: seed(65536)", x.seed(65536), false);
        DUE.is("34: seed(-1)", x.seed(-1), false);
        DUE.is("34: X", x.count(9), 65535);
        x.fact(0, 0);
        x.pupil(0, 1, 1);
        x.exam(1, 0);
        x.weeks(4);
        DUE.is("34: the next", x.count(9), (25173 * 65535 + 13849) % 65536);
    }

    private static void keptAndUndone() {
        ForgetSchool x = Due.school(0, 0);
        DUE.is("36: none was kept", x.undo(), false);
        Due.pupil(x, 0, 9, 33, 50, 0);
        x.link(0, 1, 5);
        x.exam(1, 1);
        Due.art(x, 0, "b");
        x.weeks(4);
        x.pupil(0, 9, 33);
        x.knows(0, 0, 50);
        DUE.is("35: the week", x.keep(), 4);
        int drawn = x.count(9);
        x.weeks(5);
        x.pupil(1, 1, 1);
        x.pupil(0, 3, 44);
        x.reminds(0, 1, 7);
        x.knows(0, 0, 3);
        x.seed(5);
        x.fact(2, 2);
        x.exam(2, 2);
        x.grade(3, 0);
        Due.law(x, "w1(1=1)");
        DUE.is("36: undone", x.undo(), true);
        DUE.is("36: week", x.count(0), 4);
        DUE.is("36: passed", x.count(1), 1);
        DUE.is("36: recalled", x.count(2), 1);
        DUE.is("36: pupils", x.count(4), 1);
        DUE.is("36: X", x.count(9), drawn);
        DUE.is("36: class", x.pupilIs(0, 0), 9);
        DUE.is("36: age", x.pupilIs(0, 1), 33);
        strengths("36", x, 0, 50, 0);
        DUE.is("36: facts stay", x.count(3), 7);
        DUE.is("36: the exam stays", x.count(10) + x.count(11), 4);
        DUE.is("36: the art of a class stays", x.count(33), 0);
        DUE.is("36: the law stays", x.count(7), 1);
        x.pupil(1, 1, 1);
        DUE.is("36: reminding stays", x.parted(3, 0) + x.parted(3, 1), 2);
        x.knows(0, 0, 9);
        DUE.is("36: again", x.undo(), true);
        strengths("36: again", x, 0, 50, 0);
        x.weeks(8);
        DUE.is("35: later", x.keep(), 12);
        x.weeks(1);
        x.undo();
        DUE.is("36: as kept last", x.count(0), 12);
    }
}
