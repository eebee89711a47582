/** Promises 26 to 30 and 32: questions, rooms, masters, odds. */
public final class RoomsTest {
    private static final Due DUE = new Due("RoomsTest");

    public static void main(String[] args) {
        questions();
        reminds();
        parted();
        skill();
        taught();
        odds();
        DUE.end();
    }

    private static void questions() {
        ForgetSchool x = Due.school(0, 0, 0, 0);
        Due.pupil(x, 0, 1, 1, 0, 0, 1, 9);
        Due.pupil(x, 1, 1, 1, 1, 0, 1, 0);
        Due.pupil(x, 2, 1, 1, 0, 9, 1, 0);
        Due.pupil(x, 3, 1, 1, 1, 9, 1, 0);
        DUE.is("26: one", x.questions(3, 0), 1);
        DUE.is("26: the least bits", x.questions(3, 1), 1);
        DUE.is("26: by 1 or 3", x.questions(5, 1), 2);
        DUE.is("26: two", x.questions(15, 0), 2);
        DUE.is("26: two", x.questions(15, 1), 3);
        x.knows(0, 0, 1);
        DUE.is("26: three", x.questions(15, 0), 3);
        DUE.is("26: three", x.questions(15, 1), 11);
        x.knows(3, 1, 0);
        DUE.is("26: two know the same", x.questions(15, 0), -2);
        DUE.is("26: two know the same", x.questions(10, 1), -2);
        DUE.is("26: not these two", x.questions(7, 0), 2);
        DUE.is("26: no such question first", x.questions(10, 2), -1);
        DUE.is("26: what -1", x.questions(3, -1), -1);
        DUE.is("26: one alone", x.questions(1, 0), -1);
        DUE.is("26: none", x.questions(0, 0), -1);
        DUE.is("26: not told", x.questions(17, 0), -1);
        DUE.is("26: no such ones", x.questions(259, 0), -1);
        DUE.is("26: no such ones", x.questions(-1, 0), -1);
        for (int p = 0; p < 8; p++) {
            Due.pupil(x, p, 1, 1, p & 1, p & 2, p & 4, 0);
        }
        DUE.is("26: eight", x.questions(255, 0), 3);
        DUE.is("26: eight", x.questions(255, 1), 7);
    }

    private static void reminds() {
        ForgetSchool x = new ForgetSchool();
        x.pupil(0, 1, 1);
        x.pupil(7, 1, 1);
        x.pupil(3, 1, 1);
        DUE.is("27: reminds", x.reminds(7, 0, 99), true);
        DUE.is("27: 100", x.reminds(0, 7, 100), false);
        DUE.is("27: -1", x.reminds(0, 7, -1), false);
        DUE.is("27: the same", x.reminds(0, 0, 5), false);
        DUE.is("27: not told", x.reminds(0, 1, 5), false);
        DUE.is("27: not told", x.reminds(1, 0, 5), false);
        DUE.is("27: no such one", x.reminds(8, 0, 5), false);
        DUE.is("27: no such one", x.reminds(0, -1, 5), false);
        x.reminds(0, 3, 50);
        x.reminds(3, 7, 60);
        DUE.is("27: each other", x.parted(137, 0), 50);
        x.reminds(0, 7, 10);
        DUE.is("27: in place of the one before", x.parted(137, 0), 10);
        x.pupil(7, 2, 2);
        DUE.is("27: stays with a pupil told again", x.parted(137, 0), 10);
        DUE.is("27: 0", x.reminds(7, 0, 0), true);
        DUE.is("27: 0", x.parted(137, 0), 0);
    }

    private static void parted() {
        ForgetSchool x = new ForgetSchool();
        for (int p = 0; p < 8; p++) {
            x.pupil(p, 1, 1);
        }
        DUE.is("28: two", x.parted(3, 0), 0);
        DUE.is("28: two, neither empty", x.parted(3, 1), 2);
        DUE.is("28: like ones, the least bits", x.parted(255, 1), 2);
        DUE.is("28: without the lowest", x.parted(28, 1), 8);
        x.reminds(0, 1, 9);
        x.reminds(1, 2, 5);
        x.reminds(0, 2, 2);
        x.reminds(3, 0, 8);
        x.reminds(3, 2, 1);
        DUE.is("28: both rooms together", x.parted(15, 0), 2);
        DUE.is("28: both rooms together", x.parted(15, 1), 10);
        x.reminds(1, 3, 9);
        DUE.is("28: both rooms together", x.parted(15, 0), 10);
        DUE.is("28: both rooms together", x.parted(15, 1), 12);
        x.reminds(2, 3, 99);
        x.reminds(0, 3, 99);
        DUE.is("28: a room of one", x.parted(13, 1), 8);
        x.reminds(4, 5, 1);
        x.reminds(5, 6, 1);
        x.reminds(4, 6, 1);
        DUE.is("28: the least bits", x.parted(112, 1), 32);
        DUE.is("28: what 2", x.parted(3, 2), -1);
        DUE.is("28: what -1", x.parted(3, -1), -1);
        DUE.is("28: one alone", x.parted(4, 0), -1);
        DUE.is("28: none", x.parted(0, 0), -1);
        DUE.is("28: no such ones", x.parted(257, 0), -1);
        DUE.is("28: no such ones", x.parted(-1, 0), -1);
        ForgetSchool y = new ForgetSchool();
        y.pupil(0, 1, 1);
        DUE.is("28: not told", y.parted(3, 0), -1);
    }

    private static void skill() {
        ForgetSchool x = new ForgetSchool();
        DUE.is("29: skill(0,5,99)", x.skill(0, 5, 99), true);
        DUE.is("29: told by that", x.count(6), 1);
        DUE.is("29: skill(4,0,0)", x.skill(4, 0, 0), true);
        DUE.is("29: m 5", x.skill(5, 0, 1), false);
        DUE.is("29: m -1", x.skill(-1, 0, 1), false);
        DUE.is("29: k 6", x.skill(1, 6, 1), false);
        DUE.is("29: k -1", x.skill(1, -1, 1), false);
        DUE.is("29: 100", x.skill(1, 1, 100), false);
        DUE.is("29: -1", x.skill(1, 1, -1), false);
        DUE.is("29: told", x.count(6), 17);
        DUE.is("29: skill", x.taught(1, 32, 20), 99);
        x.skill(0, 5, 7);
        DUE.is("29: the last one", x.taught(1, 32, 20), 7);
        DUE.is("29: 0 at first", x.taught(1, 16, 20), 0);
        DUE.is("29: art 0", x.skill(0, 0, 3), true);
        DUE.is("29: art 0", x.taught(1, 1, 20), 3);
        DUE.is("29: its master", x.taught(16, 1, 0), 4);
    }

    private static void taught() {
        ForgetSchool x = new ForgetSchool();
        for (int m = 0; m < 5; m++) {
            x.skill(m, 0, 0);
        }
        DUE.is("30: of like ones the least row", x.taught(31, 62, 1), 0);
        DUE.is("30: of like ones the least row", x.taught(31, 62, 5), 4);
        x.skill(0, 1, 9);
        x.skill(0, 3, 9);
        x.skill(2, 1, 8);
        x.skill(2, 3, 5);
        DUE.is("30: most", x.taught(5, 10, 20), 17);
        DUE.is("30: of art 1", x.taught(5, 10, 1), 2);
        DUE.is("30: of art 3", x.taught(5, 10, 3), 0);
        DUE.is("30: not of them", x.taught(5, 10, 2), -1);
        DUE.is("30: not of them", x.taught(5, 10, 0), -1);
        DUE.is("30: what 6", x.taught(5, 10, 6), -1);
        DUE.is("30: what -1", x.taught(5, 10, -1), -1);
        DUE.is("30: not as many", x.taught(5, 2, 20), -1);
        DUE.is("30: not as many", x.taught(1, 10, 20), -1);
        DUE.is("30: none", x.taught(0, 0, 20), -1);
        DUE.is("30: six arts", x.taught(31, 63, 20), -1);
        DUE.is("30: no such arts", x.taught(3, 65, 20), -1);
        DUE.is("30: no such masters", x.taught(33, 3, 20), -1);
        DUE.is("30: no such ones", x.taught(-1, -1, 20), -1);
        x.skill(4, 5, 1);
        x.skill(3, 2, 50);
        x.skill(1, 4, 2);
        DUE.is("30: five", x.taught(31, 62, 20), 8 + 9 + 50 + 2 + 1);
        DUE.is("30: five", x.taught(31, 62, 4), 1);
        ForgetSchool y = new ForgetSchool();
        y.skill(0, 0, 1);
        DUE.is("30: not told", y.taught(2, 1, 20), -1);
    }

    private static void odds(ForgetSchool x, int facts, int limit, int above, int below) {
        DUE.is("32: odds of " + facts + " limit " + limit + " above", x.odds(0, facts, limit, 0), above);
        DUE.is("32: odds of " + facts + " limit " + limit + " below", x.odds(0, facts, limit, 1), below);
    }

    private static void odds() {
        ForgetSchool x = Due.school(0, 0, 0, 0, 0, 0, 0, 0, 0);
        Due.pupil(x, 0, 1, 1, 0, 1, 10, 11, 50, 90, 91, 99, 33);
        odds(x, 0, 0, 1, 1);
        odds(x, 1, 0, 1, 1);
        odds(x, 2, 0, 9, 10);
        odds(x, 4, 0, 9, 10);
        odds(x, 8, 0, 4, 5);
        odds(x, 16, 0, 1, 2);
        odds(x, 32, 0, 1, 10);
        odds(x, 64, 0, 0, 1);
        odds(x, 128, 0, 0, 1);
        odds(x, 128, 1, 1, 1);
        odds(x, 24, 0, 2, 5);
        odds(x, 24, 1, 9, 10);
        odds(x, 24, 12, 1, 1);
        odds(x, 255, 8, 1, 1);
        odds(x, 255, 1, 0, 1);
        odds(x, 255, 2, 81, 2500);
        Due.pupil(x, 0, 1, 1, 41, 0, 0, 0, 0, 0, 0, 0, 0);
        odds(x, 1, 0, 1, 2);
        odds(x, 257, 0, 1, 2);
        for (int i = 0; i < 8; i++) {
            x.knows(0, i, 11 + i);
        }
        odds(x, 255, 0, 65536, 390625);
        odds(x, 255, 7, 390624, 390625);
        x.pupil(0, 1, 1);
        x.knows(0, 0, 1);
        x.knows(0, 1, 69);
        odds(x, 3, 1, 93, 100);
        for (int i = 0; i < 8; i++) {
            x.knows(0, i, 1);
        }
        odds(x, 255, 0, 43046721, 100000000);
        oddsWrongly(x);
    }

    private static void oddsWrongly(ForgetSchool x) {
        DUE.is("32: nine facts", x.odds(0, 511, 0, 0), -1);
        DUE.is("32: not told facts", x.odds(0, 512, 0, 0), -1);
        DUE.is("32: no such facts", x.odds(0, -1, 0, 0), -1);
        DUE.is("32: limit 13", x.odds(0, 1, 13, 0), -1);
        DUE.is("32: limit -1", x.odds(0, 1, -1, 0), -1);
        DUE.is("32: what 2", x.odds(0, 1, 0, 2), -1);
        DUE.is("32: what -1", x.odds(0, 1, 0, -1), -1);
        DUE.is("32: pupil not told", x.odds(1, 1, 0, 0), -1);
        DUE.is("32: no such pupil", x.odds(-1, 1, 0, 0), -1);
        DUE.is("32: no such pupil", x.odds(8, 1, 0, 0), -1);
    }
}
