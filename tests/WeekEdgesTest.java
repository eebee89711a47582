/** What the terms say of A WEEK, AN EXAM, DRAWS, TRIED, TWO LAWS, THE FIRST, KEPT, sentence by sentence, at its edges. */
public final class WeekEdgesTest {
    private static final Due DUE = new Due("WeekEdgesTest");

    public static void main(String[] args) {
        atFirst();
        drawBelowStrength();
        draws();
        drawsByNumbers();
        noMoreThanLimit();
        weeksOfExams();
        askedOrNot();
        classes();
        out();
        artOfItsClass();
        holidays();
        heard();
        recalledByNumbers();
        recalledThenExamined();
        lastWeek();
        weeksAnswer();
        tried();
        byNoClauses();
        copies();
        first();
        firstOfOneWeek();
        doesOnlyTheArt();
        pupilIs();
        keptLast();
        keptAll();
        checked();
        tapeFull();
        DUE.end();
    }

    /** "0 at first", "not at first", "none at first", "THE SEED 1". */
    private static void atFirst() {
        ForgetSchool x = new ForgetSchool();
        for (int what = 0; what <= 11; what++) {
            DUE.is("1: " + what, x.count(what), what == 9 ? 1 : 0);
        }
        for (int n = 0; n < 12; n++) {
            DUE.is("1: FACT " + n + " is not told", x.count(40 + n), -1);
            DUE.is("1: ART " + n + " is not told", x.count(20 + n % 6), -1);
            DUE.is("1: PUPIL " + n + " is not told", x.pupilIs(n, 0), -1);
            DUE.is("1: MASTER " + n + " is not told", x.taught(1 << n, 1, 20), -1);
        }
        x.pupil(0, 9, 50);
        x.pupil(1, 9, 50);
        x.pupil(2, 9, 50);
        DUE.is("4: not OUT", x.pupilIs(0, 0), 9);
        x.fact(3, 2);
        x.fact(4, 2);
        DUE.is("5: STRENGTH 0, of a FACT told behind the PUPIL", x.strength(0, 3), 0);
        DUE.is("3: LINK 0", x.recalls(3), 0);
        DUE.is("27: REMINDING 0", x.parted(7, 0), 0);
        x.skill(2, 3, 4);
        DUE.is("29: SKILL 0", x.taught(4, 1, 20), 0);
        DUE.is("14: no CLAUSES", x.copy(), 0);
        DUE.is("36: none was KEPT", x.undo(), false);
        DUE.is("33: none recalls", x.crib(0, 1), 0);
    }

    /** A seed behind which the first draw is this one. */
    private static int seedFor(int draw) {
        int seed = 0;
        while ((25173 * seed + 13849) % 65536 % 10 != draw) {
            seed++;
        }
        return seed;
    }

    private static ForgetSchool examined(int strength, int draw) {
        ForgetSchool x = Due.school(0);
        x.weeks(3);
        Due.pupil(x, 0, 1, 1, strength);
        x.exam(1, 0);
        x.seed(seedFor(draw));
        return x;
    }

    /** "remembered, if that is below STRENGTH through 10 (rounded up)". */
    private static void drawBelowStrength() {
        for (int strength = 0; strength <= 99; strength++) {
            for (int draw = 0; draw <= 9; draw++) {
                boolean remembered = 10 * draw < strength;
                ForgetSchool x = examined(strength, draw);
                String name = "strength " + strength + ", draw " + draw;
                DUE.is("12: remembered, " + name, x.tried(1, 3), remembered ? 1 : 0);
                DUE.is("11: PASSED, " + name, x.weeks(1), remembered ? 0 : 1);
                DUE.is("11: class, " + name, x.pupilIs(0, 0), remembered ? 1 : 2);
            }
        }
    }

    /** "X = (25173 X + 13849) modulo 65536". */
    private static void draws() {
        for (int seed : new int[] {0, 1, 2, 3, 32767, 32768, 65534, 65535}) {
            ForgetSchool x = Due.school(0);
            x.pupil(0, 1, 1);
            x.exam(1, 12);
            DUE.is("34: seed", x.seed(seed), true);
            DUE.is("34: X, too", x.count(9), seed);
            long next = seed;
            for (int turn = 0; turn < 8; turn++) {
                x.weeks(4);
                next = (25173 * next + 13849) % 65536;
                DUE.is("11: X behind seed " + seed, x.count(9), next);
            }
        }
    }

    /** "each told FACT that is asked, by numbers, with a DRAW", "each told PUPIL that is not OUT, by numbers". */
    private static void drawsByNumbers() {
        ForgetSchool x = Due.school(0, -1, 0, 0);
        x.weeks(3);
        Due.pupil(x, 1, 3, 1, 50, 0, 50, 50);
        Due.pupil(x, 6, 3, 1, 50, 0, 50, 50);
        Due.pupil(x, 3, 3, 1, 50, 0, 50, 50);
        x.exam(0x807, 12);
        for (int limit = 0; limit <= 2; limit++) {
            x.exam(0x807, limit);
            for (int seed = 0; seed < 24; seed++) {
                x.seed(seed);
                long next = seed;
                int all = 0;
                int passed = 0;
                for (int p : new int[] {1, 3, 6}) {
                    int right = 0;
                    for (int i : new int[] {0, 2}) {
                        next = (25173 * next + 13849) % 65536;
                        right += next % 10 < 5 ? 1 : 0;
                    }
                    all += right;
                    passed += right <= limit ? 1 : 0;
                    DUE.is("12: class of " + p + ", seed " + seed, x.tried(1, 20 + p), right <= limit ? 4 : 3);
                }
                DUE.is("12: remembered, seed " + seed, x.tried(1, 3), all);
                DUE.is("12: passed, seed " + seed, x.tried(1, 0), passed);
            }
        }
    }

    /** "If no more than LIMIT are remembered it PASSED". */
    private static void noMoreThanLimit() {
        for (int asked = 0; asked <= 12; asked++) {
            for (int limit = 0; limit <= 12; limit++) {
                ForgetSchool x = Due.school(0, 0, 0, 0, 0, 0, 0, 0, 0, 0, 0, 0);
                x.weeks(3);
                x.pupil(0, 1, 1);
                for (int i = 0; i < 12; i++) {
                    x.knows(0, i, 99);
                }
                x.exam((1 << asked) - 1, limit);
                boolean passed = asked > 0 && asked <= limit;
                DUE.is("12: remembered of " + asked, x.tried(1, 3), asked);
                DUE.is("11: limit " + limit + " of " + asked, x.weeks(1), passed ? 1 : 0);
                DUE.is("38: PASSED", x.count(1), passed ? 1 : 0);
            }
        }
    }

    /** "In WEEKS 3, 7, 11 through 12 AN EXAM". */
    private static void weeksOfExams() {
        ForgetSchool x = Due.school(0);
        x.exam(1, 0);
        for (int week = 0; week < 60; week++) {
            x.pupil(0, 1, 1);
            boolean exam = week % 12 == 3 || week % 12 == 7 || week % 12 == 11;
            DUE.is("12: WEEK " + week, x.tried(1, 0), exam ? 1 : 0);
            DUE.is("11: WEEK " + week, x.weeks(1), exam ? 1 : 0);
            DUE.is("11: THE WEEK", x.count(0), week + 1);
        }
    }

    /** "if something is asked (told or not)". */
    private static void askedOrNot() {
        ForgetSchool x = Due.school(0);
        x.weeks(3);
        Due.pupil(x, 0, 1, 1, 99);
        DUE.is("11: nothing is asked at first", x.tried(1, 0), 0);
        x.exam(0, 12);
        DUE.is("11: nothing is asked", x.tried(1, 0), 0);
        x.exam(1 << 11, 0);
        DUE.is("11: only what is not told", x.tried(1, 0), 1);
        DUE.is("11: none is remembered", x.tried(1, 3), 0);
        x.exam(1 | 1 << 11, 0);
        DUE.is("11: told and not told", x.tried(1, 0), 0);
        DUE.is("11: the told one is remembered", x.tried(1, 3), 1);
        x.exam(1 << 11, 0);
        x.weeks(1);
        DUE.is("11: no draw for one not told", x.count(9), 1);
    }

    /** "its CLASS is one more; from CLASS 9 it is OUT". */
    private static void classes() {
        ForgetSchool x = Due.school(0);
        x.pupil(4, 1, 1);
        x.exam(1, 0);
        for (int c = 1; c <= 9; c++) {
            DUE.is("17: class", x.pupilIs(4, 0), c);
            DUE.is("12: class then", x.tried(4, 24), c + 1);
            DUE.is("12: OUT then", x.tried(4, 1), c == 9 ? 1 : 0);
            DUE.is("12: OUT in 36 WEEKS", x.tried(36, 1), 1);
            DUE.is("11: passed", x.weeks(4), 1);
        }
        DUE.is("17: OUT", x.pupilIs(4, 0), 10);
        DUE.is("12: OUT already", x.tried(60, 1), 0);
        DUE.is("12: class of one who is OUT", x.tried(60, 24), 10);
        DUE.is("11: no exam", x.weeks(60), 0);
        DUE.is("38: PASSED", x.count(1), 9);
    }

    /** "each told PUPIL that is not OUT". */
    private static void out() {
        ForgetSchool x = Due.school(0, 0, 0);
        x.pupil(0, 9, 1);
        x.exam(1 << 9, 0);
        x.weeks(4);
        DUE.is("17: OUT", x.pupilIs(0, 0), 10);
        x.knows(0, 0, 40);
        x.knows(0, 1, 40);
        x.link(0, 2, 9);
        Due.art(x, 0, "a.");
        for (int c = 1; c <= 9; c++) {
            x.grade(c, 0);
        }
        Due.law(x, "w9(1=1);r9(1=1)");
        x.exam(3, 0);
        x.weeks(20);
        DUE.is("11: nothing is weakened", x.strength(0, 0), 40);
        DUE.is("11: nothing is less, nothing stronger", x.strength(0, 1), 40);
        DUE.is("11: nothing is recalled", x.strength(0, 2), 0);
        DUE.is("11: nothing is drawn", x.count(9), 1);
        DUE.is("38: RECALLED", x.count(2), 0);
        DUE.is("16: an ART is done", x.does(0, 0), 2);
        DUE.is("16: an ART is done", x.strength(0, 0), 30);
        DUE.is("17: KNOWS", x.pupilIs(0, 2), 3);
        DUE.is("12: KNOWS then", x.tried(9, 10), 2);
        DUE.is("12: who KNOWS then", x.tried(9, 31), 1);
        DUE.is("32: ODDS", x.odds(0, 1, 0, 0), 7);
        DUE.is("33: CRIB", x.crib(0, 0), 2);
        DUE.is("21: STILL", x.still(0, 0, 0) > 0, true);
        x.pupil(0, 9, 1);
        DUE.is("4: not OUT any more", x.pupilIs(0, 0), 9);
        x.knows(0, 0, 40);
        x.weeks(1);
        DUE.is("4: not OUT any more", x.strength(0, 0), 30);
    }

    /** "else the ART of its CLASS is done, if that is told"; "(NONE: none; it need not be told)". */
    private static void artOfItsClass() {
        ForgetSchool x = Due.school(0);
        for (int c = 1; c <= 9; c++) {
            DUE.is("38: none", x.count(30 + c), -2);
            DUE.is("9: not told", x.grade(c, c % 6), true);
            DUE.is("38: not told, yet its own", x.count(30 + c), c % 6);
        }
        Due.art(x, 2, "3.");
        for (int c = 1; c <= 9; c++) {
            Due.pupil(x, 0, c, 1, 50);
            DUE.is("11: class " + c, x.tried(1, 10), 1);
            x.weeks(1);
            boolean holiday = (x.count(0) - 1) % 12 >= 10;
            DUE.is("11: class " + c, x.strength(0, 0), c % 6 == 2 && !holiday ? 47 : 50);
        }
        DUE.is("9: none again", x.grade(2, -1), true);
        DUE.is("38: none again", x.count(32), -2);
        ForgetSchool y = Due.school(0, 0);
        Due.art(y, 0, ".");
        Due.art(y, 1, "5.");
        y.grade(1, 0);
        y.grade(2, 1);
        Due.pupil(y, 0, 1, 1, 0, 50);
        y.exam(1, 0);
        y.weeks(4);
        DUE.is("11: by the ART of class 1", y.strength(0, 1), 46);
        y.weeks(1);
        DUE.is("11: by that of class 2", y.strength(0, 1), 41);
    }

    /** "in WEEKS 10 and 11 through 12 (what is left; holidays)". */
    private static void holidays() {
        ForgetSchool x = Due.school(0, 0, 0);
        Due.pupil(x, 0, 1, 1, 50, 0, 50);
        Due.art(x, 0, "ab+b");
        x.grade(1, 0);
        Due.law(x, "w2(1=1);r3(1=1);x(f=2)");
        for (int week = 0; week < 60; week++) {
            x.knows(0, 0, 50);
            x.knows(0, 1, 0);
            x.knows(0, 2, 50);
            x.weeks(1);
            boolean holiday = week % 12 == 10 || week % 12 == 11;
            DUE.is("11: WEEK " + week, x.strength(0, 0), holiday ? 53 : 48);
            DUE.is("11: not KNOWN, WEEK " + week, x.strength(0, 1), 0);
            DUE.is("11: kept, yet stronger, WEEK " + week, x.strength(0, 2), holiday ? 53 : 50);
        }
        x.weeks(10);
        Due.law(x, "r5(f=0);r[n-1]*4(f=2)");
        for (int strength = 90; strength <= 99; strength++) {
            x.keep();
            x.knows(0, 0, strength);
            x.knows(0, 2, 80);
            x.weeks(1);
            DUE.is("11: 99 at most", x.strength(0, 0), Math.min(99, strength + 5));
            DUE.is("11: by numbers, as it is then", x.strength(0, 2), 84);
            x.undo();
        }
    }

    /** "STRENGTH times the LINK through 10 (each rounded down), added up". */
    private static void heard() {
        for (int strength = 0; strength <= 99; strength += 3) {
            for (int n = 0; n <= 9; n++) {
                ForgetSchool x = Due.school(0, 0, 0, -1);
                x.link(0, 2, n);
                x.link(1, 2, n);
                Due.pupil(x, 0, 1, 1, strength, 99 - strength, 0);
                int due = strength * n / 10 + (99 - strength) * n / 10;
                DUE.is("19: of " + strength + " by " + n, x.heard(0, 2), due);
                DUE.is("19: nothing the other way", x.heard(0, 0), 0);
                x.knows(0, 2, 77);
                DUE.is("19: its own STRENGTH does not matter", x.heard(0, 2), due);
                x.knows(0, 2, 0);
                x.weeks(1);
                DUE.is("11: RECALLED, its STRENGTH", x.strength(0, 2), due);
                DUE.is("38: RECALLED", x.count(2), due > 0 ? 1 : 0);
            }
        }
        ForgetSchool y = Due.school(0, 0, 0, 0, 0, 0, 0, 0, 0, 0, 0, 0);
        y.pupil(0, 1, 1);
        for (int i = 0; i < 12; i++) {
            y.knows(0, i, 99);
            if (i != 11) {
                y.link(i, 11, 9);
            }
        }
        DUE.is("19: the most", y.heard(0, 11), 979);
    }

    /** "(2) Each told FACT of STRENGTH 0, by numbers, as it is then". */
    private static void recalledByNumbers() {
        ForgetSchool x = Due.school(0, 0, 0, 0);
        x.link(3, 2, 9);
        x.link(2, 1, 9);
        x.link(1, 0, 9);
        Due.pupil(x, 0, 1, 1, 0, 0, 0, 99);
        int[][] due = {{0, 0, 89, 99}, {0, 80, 89, 99}, {72, 80, 89, 99}, {72, 80, 89, 99}};
        for (int week = 0; week < 4; week++) {
            x.weeks(1);
            for (int i = 0; i < 4; i++) {
                DUE.is("11: one a WEEK, " + week + ", " + i, x.strength(0, i), due[week][i]);
            }
            DUE.is("38: RECALLED", x.count(2), Math.min(3, week + 1));
        }
        ForgetSchool y = Due.school(0, 0, 0, 0);
        y.link(0, 1, 9);
        y.link(1, 2, 9);
        y.link(2, 3, 9);
        Due.pupil(y, 0, 1, 1, 99, 0, 0, 0);
        y.weeks(1);
        DUE.is("11: all in one WEEK", y.pupilIs(0, 2), 15);
        DUE.is("38: RECALLED", y.count(2), 3);
    }

    /** "(3)" is behind "(2)", and "(2)" behind "(1)". */
    private static void recalledThenExamined() {
        ForgetSchool x = Due.school(0, 0);
        x.link(0, 1, 9);
        x.weeks(3);
        Due.pupil(x, 0, 1, 1, 99, 99);
        Due.art(x, 0, "b");
        Due.law(x, "w99(1=1)");
        x.grade(1, 0);
        x.exam(2, 0);
        x.seed(seedFor(8));
        DUE.is("12: recalled, of STRENGTH 89, remembered by draw 8", x.tried(1, 3), 1);
        x.seed(seedFor(9));
        DUE.is("12: not by draw 9", x.tried(1, 3), 0);
        DUE.is("12: RECALLED", x.tried(1, 2), 1);
        DUE.is("11: PASSED", x.weeks(1), 1);
        DUE.is("18: STRENGTH", x.strength(0, 1), 89);
    }

    /** "THE WEEK is one more (9999 at most: then none goes by)". */
    private static void lastWeek() {
        ForgetSchool x = Due.school(0, 0);
        for (int turn = 0; turn < 166; turn++) {
            x.weeks(60);
        }
        x.weeks(35);
        DUE.is("11: THE WEEK", x.count(0), 9995);
        // 9995 is 11 through 12: an exam
        Due.pupil(x, 0, 1, 1, 50, 0);
        Due.art(x, 0, "a");
        x.grade(1, 0);
        x.grade(2, 0);
        Due.law(x, "w9(1=1);r1(1=1)");
        x.exam(2, 0);
        DUE.is("12: as many as can", x.tried(60, 0), 1);
        DUE.is("15: as many as can", x.first(60, 0, 0), -2);
        x.knows(0, 0, 27);
        DUE.is("15: 28, 19, 10, 1", x.first(60, 0, 1), -2);
        x.knows(0, 0, 26);
        DUE.is("15: 27, 18, 9, none", x.first(60, 0, 1), 4);
        x.knows(0, 0, 17);
        DUE.is("15: 18, 9, none", x.first(60, 0, 1), 3);
        DUE.is("15: 18, 9, none", x.first(3, 0, 1), 3);
        DUE.is("15: 18, 9, none", x.first(2, 0, 1), -2);
        x.knows(0, 0, 50);
        x.copy();
        DUE.is("13: as many as can", x.other(60, 0), 1);
        DUE.is("11: as many as can", x.weeks(60), 1);
        DUE.is("11: THE WEEK, 9999 at most", x.count(0), 9999);
        DUE.is("11: four went by", x.strength(0, 0), 50 + 1 - 27);
        x.keep();
        DUE.is("11: none goes by", x.weeks(1), 0);
        DUE.is("11: none goes by", x.strength(0, 0), 24);
        DUE.is("12: none goes by", x.tried(60, 0), 0);
        x.knows(0, 0, 1);
        DUE.is("12: none goes by", x.tried(60, 10), 1);
        DUE.is("13: none goes by", x.other(60, 30), 1);
        DUE.is("15: none goes by", x.first(60, 0, 0), -2);
        DUE.is("35: THE WEEK", x.keep(), 9999);
        DUE.is("16: an ART is done", x.does(0, 0), 0);
    }

    /** "how often an EXAM was PASSED": in these WEEKS alone, by all. */
    private static void weeksAnswer() {
        ForgetSchool x = Due.school(0);
        for (int p = 0; p < 8; p++) {
            x.pupil(p, p + 2, 1);
        }
        x.exam(1, 0);
        DUE.is("11: none", x.weeks(3), 0);
        DUE.is("11: each", x.weeks(1), 8);
        DUE.is("11: one is out", x.weeks(4), 7);
        DUE.is("11: one after the other is out", x.weeks(60), 6 + 5 + 4 + 3 + 2 + 1);
        DUE.is("38: all", x.count(1), 8 + 7 + 21);
    }

    /** "n WEEKS by the DRAWS that will come (nothing is changed)". */
    private static void tried() {
        ForgetSchool x = Due.school(0, 0, 0);
        x.link(0, 1, 4);
        x.link(1, 2, 4);
        Due.law(x, "w30(1=1);r7(1=1);h9(1=1)");
        Due.art(x, 0, "ab.");
        for (int p = 0; p < 8; p++) {
            Due.pupil(x, p, 9 - p, p, 99 - 11 * p, 10 * p, p);
            x.grade(9 - p, p % 2 - 1);
        }
        x.exam(7, 1);
        for (int n = 4; n <= 60; n += 8) {
            int[] then = new int[40];
            for (int what = 0; what < 4; what++) {
                then[what] = x.tried(n, what);
            }
            for (int p = 0; p < 8; p++) {
                then[10 + p] = x.tried(n, 10 + p);
                then[20 + p] = x.tried(n, 20 + p);
            }
            for (int i = 0; i < 3; i++) {
                then[30 + i] = x.tried(n, 30 + i);
            }
            x.keep();
            int recalled = x.count(2);
            DUE.is("12: PASSED in " + n, then[0], x.weeks(n));
            DUE.is("12: RECALLED in " + n, then[2], x.count(2) - recalled);
            int out = 0;
            for (int p = 0; p < 8; p++) {
                DUE.is("12: KNOWS then, " + p, then[10 + p], Integer.bitCount(x.pupilIs(p, 2)));
                DUE.is("12: CLASS then, " + p, then[20 + p], x.pupilIs(p, 0));
                out += x.pupilIs(p, 0) == 10 ? 1 : 0;
            }
            DUE.is("12: OUT in " + n, then[1], out);
            x.undo();
        }
    }

    /** "none at first: by no CLAUSES". */
    private static void byNoClauses() {
        ForgetSchool x = Due.school(0, 0);
        Due.pupil(x, 0, 1, 1, 9, 0);
        x.link(0, 1, 9);
        Due.art(x, 0, "a+b");
        x.grade(1, 0);
        Due.law(x, "w99(1=1);s99(1=1);h99(1=1)");
        DUE.is("13: not weakened, and so recalled", x.other(1, 10), 2);
        DUE.is("13: RECALLED", x.other(1, 2), 1);
        DUE.is("12: weakened, repeated, not recalled", x.tried(1, 30), 0);
        DUE.is("12: RECALLED", x.tried(1, 2), 0);
        DUE.is("14: CLAUSES", x.copy(), 3);
        DUE.is("13: as tried", x.other(1, 30), 0);
        DUE.is("14: again", x.copy(), 3);
    }

    /** "THE LAW as it was when it was COPIED". */
    private static void copies() {
        ForgetSchool x = Due.school(0);
        Due.pupil(x, 0, 1, 1, 40);
        Due.art(x, 0, "a");
        x.grade(1, 0);
        Due.law(x, "x(1=1);".repeat(15) + "x(1=1)");
        DUE.is("14: sixteen", x.copy(), 16);
        Due.law(x, "w40(1=1)");
        DUE.is("12: by THE LAW", x.tried(1, 10), 0);
        DUE.is("13: kept by that one", x.other(60, 10), 1);
        Due.law(x, "q");
        DUE.is("14: THE LAW that stayed", x.copy(), 1);
        DUE.is("13: nothing of the sixteen is left", x.other(1, 10), 0);
        x.keep();
        Due.law(x, "w1(1=1)");
        x.undo();
        DUE.is("36: the COPY stays", x.other(1, 10), 0);
        DUE.is("36: THE LAW stays", x.tried(1, 10), 1);
        for (int turn = 1; turn <= 9; turn++) {
            Due.law(x, "w" + turn + "(1=1)");
            DUE.is("14: again and again", x.copy(), 1);
            Due.law(x, "w" + (turn + 20) + "(1=1)");
            x.knows(0, 0, turn);
            DUE.is("13: by the COPY", x.other(1, 10), 0);
            x.knows(0, 0, turn + 1);
            DUE.is("13: by the COPY", x.other(1, 10), 1);
            DUE.is("12: by THE LAW", x.tried(1, 10), 0);
        }
    }

    /** "who does not KNOW a told FACT any more at the end of a WEEK, having KNOWN it when they began; in which". */
    private static void first() {
        for (int strength = 1; strength <= 12; strength++) {
            ForgetSchool x = Due.school(0);
            Due.pupil(x, 5, 1, 1, strength);
            Due.art(x, 0, ".");
            x.grade(1, 0);
            // the tenth and eleventh week are holidays: nothing is less
            int due = strength <= 10 ? strength : strength + 2;
            DUE.is("15: in the week " + due, x.first(60, 0, 1), due);
            DUE.is("15: just so many weeks", x.first(due, 0, 1), due);
            DUE.is("15: just so many weeks, who", x.first(due, 0, 0), 5);
            DUE.is("15: one week less", due == 1 ? -2 : x.first(due - 1, 0, 1), -2);
            DUE.is("15: one week less, who", due == 1 ? -2 : x.first(due - 1, 0, 0), -2);
        }
        ForgetSchool x = Due.school(0, 0);
        Due.pupil(x, 0, 1, 1, 0, 9);
        DUE.is("15: not KNOWN when they began", x.first(60, 0, 0), -2);
        x.link(1, 0, 2);
        Due.art(x, 0, "a4.");
        x.grade(1, 0);
        Due.law(x, "w9(1=1);h2(n=1)");
        DUE.is("15: recalled, gone again, yet not KNOWN when they began", x.first(60, 0, 0), -2);
        DUE.is("15: the other is", x.first(60, 1, 1), 3);
        DUE.is("15: no pupil", Due.school(0).first(60, 0, 0), -2);
    }

    /** "(of those of one WEEK the lowest)". */
    private static void firstOfOneWeek() {
        for (int lowest = 0; lowest < 8; lowest++) {
            ForgetSchool x = Due.school(0);
            Due.art(x, 0, ".");
            x.grade(1, 0);
            for (int p = 7; p >= 0; p--) {
                Due.pupil(x, p, 1, 1, p < lowest ? 5 : 4);
            }
            DUE.is("15: the lowest of those", x.first(60, 0, 0), lowest);
            DUE.is("15: in WEEK 4", x.first(60, 0, 1), 4);
        }
        ForgetSchool x = Due.school(0);
        Due.art(x, 0, ".");
        x.grade(1, 0);
        Due.pupil(x, 0, 1, 1, 9);
        Due.pupil(x, 7, 1, 1, 2);
        DUE.is("15: the first, not the lowest", x.first(60, 0, 0), 7);
    }

    /** "(no (2))". */
    private static void doesOnlyTheArt() {
        ForgetSchool x = Due.school(0, 0);
        x.link(0, 1, 9);
        Due.pupil(x, 0, 1, 1, 99, 0);
        Due.art(x, 0, ".");
        DUE.is("16: no (2)", x.does(0, 0), 1);
        DUE.is("16: less by 1", x.strength(0, 0), 98);
        DUE.is("16: nothing is recalled", x.count(2), 0);
        DUE.is("16: no WEEK goes by", x.count(0), 0);
        x.weeks(10);
        x.knows(0, 1, 0);
        DUE.is("16: in holidays, too", x.does(0, 0), 1);
        DUE.is("16: in holidays, too", x.strength(0, 0), 97);
        DUE.is("16: one who KNOWS nothing", none(), 0);
    }

    private static int none() {
        ForgetSchool x = new ForgetSchool();
        x.pupil(0, 1, 1);
        Due.art(x, 0, "a.A+b");
        return x.does(0, 0);
    }

    /** "the FACT that is strongest (of like ones the lowest; -2: none)". */
    private static void pupilIs() {
        ForgetSchool x = Due.school(0, 0, 0, 0, 0, 0, 0, 0, 0, 0, 0, 0);
        x.pupil(0, 1, 0);
        DUE.is("17: none", x.pupilIs(0, 3), -2);
        DUE.is("17: none", x.pupilIs(0, 2), 0);
        DUE.is("17: none", x.pupilIs(0, 4), 0);
        for (int i = 11; i >= 0; i--) {
            x.knows(0, i, 1);
            DUE.is("17: of like ones the lowest", x.pupilIs(0, 3), i);
            DUE.is("17: KNOWS", x.pupilIs(0, 2), 4096 - (1 << i));
            DUE.is("17: together", x.pupilIs(0, 4), 12 - i);
        }
        for (int i = 0; i < 12; i++) {
            x.knows(0, i, 2 + i);
            DUE.is("17: the strongest", x.pupilIs(0, 3), i);
        }
        for (int i = 0; i < 12; i++) {
            x.knows(0, i, 99);
        }
        DUE.is("17: together, the most", x.pupilIs(0, 4), 1188);
        DUE.is("17: KNOWS all", x.pupilIs(0, 2), 4095);
        DUE.is("17: of like ones the lowest", x.pupilIs(0, 3), 0);
        DUE.is("17: AGE 0", x.pupilIs(0, 1), 0);
        x.pupil(0, 9, 99);
        DUE.is("17: AGE 99", x.pupilIs(0, 1), 99);
        DUE.is("17: CLASS 9", x.pupilIs(0, 0), 9);
    }

    /** "UNDONE: as they were KEPT last". */
    private static void keptLast() {
        ForgetSchool x = new ForgetSchool();
        DUE.is("36: none was KEPT", x.undo(), false);
        DUE.is("35: THE WEEK 0", x.keep(), 0);
        x.weeks(60);
        DUE.is("36: back to 0", x.undo(), true);
        DUE.is("36: back to 0", x.count(0), 0);
        for (int turn = 1; turn <= 5; turn++) {
            x.weeks(turn);
            int week = turn * (turn + 1) / 2;
            DUE.is("35: THE WEEK", x.keep(), week);
            x.weeks(9);
            DUE.is("36: as KEPT last", x.undo(), true);
            DUE.is("36: as KEPT last", x.count(0), week);
            x.weeks(30);
            DUE.is("36: again", x.undo(), true);
            DUE.is("36: again", x.count(0), week);
        }
        x.pupil(3, 4, 5);
        DUE.is("36: a PUPIL told behind it", x.undo(), true);
        DUE.is("36: is not told any more", x.pupilIs(3, 0), -1);
        DUE.is("36: is not told any more", x.count(4), 0);
    }

    /** "KEPT: PUPILS, STRENGTHS, THE WEEK, PASSED, RECALLED, X". */
    private static void keptAll() {
        ForgetSchool x = Due.school(0, 0, 0, 0, 0, 0, 0, 0, 0, 0, 0, 0);
        x.link(0, 1, 9);
        for (int p = 0; p < 8; p++) {
            x.pupil(p, 9 - p, 10 * p);
            x.knows(p, 0, 99 - p);
            x.knows(p, 11, p);
        }
        x.exam(1 << 10, 0);
        x.weeks(4);
        x.exam(1, 12);
        x.weeks(4);
        x.keep();
        int[] counts = new int[10];
        for (int what = 0; what < 10; what++) {
            counts[what] = x.count(what);
        }
        int[][] pupils = new int[8][5];
        for (int p = 0; p < 8; p++) {
            for (int what = 0; what < 5; what++) {
                pupils[p][what] = x.pupilIs(p, what);
            }
        }
        for (int p = 0; p < 8; p++) {
            x.pupil(p, p + 1, p);
            x.knows(p, 0, 50);
        }
        x.weeks(60);
        x.seed(5);
        DUE.is("36: undone", x.undo(), true);
        for (int what = 0; what < 10; what++) {
            DUE.is("36: count " + what, x.count(what), counts[what]);
        }
        for (int p = 0; p < 8; p++) {
            for (int what = 0; what < 5; what++) {
                DUE.is("36: pupil " + p + ", " + what, x.pupilIs(p, what), pupils[p][what]);
            }
            DUE.is("36: strength 11", x.strength(p, 11), p);
            DUE.is("36: strength 0", x.strength(p, 0), 99 - p);
        }
        DUE.is("36: the first is OUT as before", x.pupilIs(0, 0), 10);
        // what is not kept
        x.fact(0, 7);
        x.link(5, 6, 3);
        x.grade(4, 3);
        x.exam(77, 3);
        x.skill(3, 3, 33);
        x.reminds(2, 3, 44);
        x.reminds(1, 2, 45);
        x.reminds(1, 3, 46);
        Due.art(x, 3, "ab");
        Due.law(x, "x(1=1);x(2=2)");
        Due.feed(x, "tape");
        x.undo();
        DUE.is("36: KINDS are not KEPT", x.count(40), 7);
        DUE.is("36: LINKS are not KEPT", x.recalls(5), 64);
        DUE.is("36: ARTS of CLASSES are not KEPT", x.count(34), 3);
        DUE.is("36: THE EXAM is not KEPT", x.count(10) + x.count(11), 80);
        DUE.is("36: SKILL is not KEPT", x.taught(8, 8, 20), 33);
        DUE.is("36: REMINDING is not KEPT", x.parted(14, 0), 44);
        DUE.is("36: ARTS are not KEPT", x.count(23), 2);
        DUE.is("36: THE LAW is not KEPT", x.count(7), 2);
        DUE.is("36: the tape is not KEPT", x.count(8), 20);
    }

    /** "NONE: right; else the first FACT that is not so", "of FACTS that are not told 0", "(0 to 12; empty then)". */
    private static void checked() {
        ForgetSchool x = Due.school(0, -1, 0, -1, 0, -1, 0, -1, 0, -1, 0, -1);
        x.pupil(0, 1, 1);
        int[] right = new int[12];
        for (int i = 0; i < 12; i += 2) {
            right[i] = 99 - 9 * i;
            x.knows(0, i, right[i]);
        }
        for (int n = 0; n <= 12; n++) {
            Due.feed(x, right);
            DUE.is("37: right, " + n, x.check(0, n), -1);
            DUE.is("37: empty then", x.count(8), 0);
            for (int wrong = 0; wrong < 12; wrong += 5) {
                int[] bytes = right.clone();
                for (int i = wrong; i < 12; i++) {
                    bytes[i] = right[i] ^ 128 >> wrong % 8;
                }
                Due.feed(x, bytes);
                DUE.is("37: wrong from " + wrong + " on, " + n, x.check(0, n), wrong < n ? wrong : -1);
                DUE.is("37: empty then", x.count(8), 0);
            }
        }
        DUE.is("37: of an empty tape none", x.check(0, 0), -1);
        DUE.is("37: not so many", x.check(0, 1), -2);
        Due.feed(x, right);
        DUE.is("37: 13", x.check(0, 13), -2);
        DUE.is("37: the tape stays", x.count(8), 20);
        DUE.is("37: not told", x.check(1, 12), -2);
        DUE.is("37: the tape stays", x.count(8), 20);
        DUE.is("37: right", x.check(0, 12), -1);
    }

    /** "Twenty bytes come behind the tape, the highest of each int first", "NONE if that would be more than 260". */
    private static void tapeFull() {
        ForgetSchool x = Due.school(0, 0, 0, 0, 0, 0, 0, 0, 0, 0, 0, 0);
        x.pupil(0, 1, 1);
        for (int i = 0; i < 12; i++) {
            x.knows(0, i, i + 1);
        }
        x.feed(0x01020304, 0x05060708, 0x090a0b0c, 0x0d0e0f10, 0x11121314);
        for (int n = 2; n <= 13; n++) {
            DUE.is("6: behind the tape", x.feed(-1, -1, -1, -1, -1), 20 * n);
        }
        DUE.is("6: 260 at most", x.feed(-1, -1, -1, -1, -1), -1);
        DUE.is("6: as it was", x.count(8), 260);
        DUE.is("6: the first ones are the first still", x.check(0, 12), -1);
        DUE.is("6: empty then, and fed again", x.feed(0, 0, 0, 0, 0), 20);
        x.check(0, 0);
        x.feed(0x80ff7f00, 0, 0, 0, 0);
        DUE.is("37: byte 128 is no STRENGTH", x.check(0, 1), 0);
        // a text that goes over several feeds
        ForgetSchool y = new ForgetSchool();
        String text = "w1(1=1);s2(2=2);r3(3=3);h4(4=4);x(5=5)";
        DUE.is("6: one text by two feeds", Due.law(y, text), 5);
        for (int byteAt = 0; byteAt < 20; byteAt++) {
            ForgetSchool z = new ForgetSchool();
            int[] bytes = new int[20];
            for (int i = 0; i < 20; i++) {
                bytes[i] = i == byteAt ? 200 : 'a';
            }
            Due.feed(z, bytes);
            DUE.is("6: byte " + byteAt, z.art(0, 20), -1000 - byteAt);
        }
    }
}
