import java.util.TreeSet;

/** Each argument of each call: its least, its most, what lies beside them, what wraps around to them, what is not told. */
public final class BoundsTest {
    private static final Due DUE = new Due("BoundsTest");

    /** A call with one argument left open; a boolean counts 1 or 0. */
    interface Call {
        int answer(ForgetSchool x, int v);
    }

    public static void main(String[] args) {
        telling();
        tapeAndTexts();
        weeksAndTrials();
        pupilsAndFacts();
        searches();
        net();
        rooms();
        hummedOddsCrib();
        rest();
        toldOnes();
        bitsOfFacts();
        bitsOfPupils();
        bitsOfArtsAndMasters();
        DUE.end();
    }

    private static int bit(boolean answer) {
        return answer ? 1 : 0;
    }

    /** All that can be told is told: twelve facts in a ring, eight pupils, six arts, five masters. */
    private static ForgetSchool full() {
        ForgetSchool x = new ForgetSchool();
        for (int i = 0; i < 12; i++) {
            x.fact(i, i % 9);
        }
        for (int i = 0; i < 12; i++) {
            x.link(i, (i + 1) % 12, 9);
        }
        for (int p = 0; p < 8; p++) {
            x.pupil(p, p + 1, p);
            for (int i = 0; i < 3; i++) {
                x.knows(p, i, 90 * (p >> i & 1));
            }
        }
        for (int k = 0; k < 6; k++) {
            Due.art(x, k, "a");
        }
        for (int m = 0; m < 5; m++) {
            x.skill(m, m, 9);
        }
        return x;
    }

    /** Facts, pupils, arts and masters of even numbers are told, the others are not. */
    private static ForgetSchool half() {
        ForgetSchool x = new ForgetSchool();
        for (int i = 0; i < 12; i += 2) {
            x.fact(i, 0);
        }
        for (int p = 0; p < 8; p += 2) {
            x.pupil(p, 1, 1);
            x.knows(p, p, 10);
        }
        for (int k = 0; k < 6; k += 2) {
            Due.art(x, k, "a");
        }
        for (int m = 0; m < 5; m += 2) {
            x.skill(m, 0, 1);
        }
        return x;
    }

    private static TreeSet<Integer> beside(int least, int most) {
        TreeSet<Integer> all = new TreeSet<>();
        for (int edge : new int[] {least, most, (least + most) / 2}) {
            for (int off : new int[] {-1, 0, 1, 8, 16, 32, 64, 128, 256, 512, 4096, 65536, 1 << 24, 1 << 30, 1 << 31}) {
                all.add(edge + off);
                all.add(edge - off);
            }
        }
        all.add(Integer.MIN_VALUE);
        all.add(Integer.MAX_VALUE);
        return all;
    }

    /** From least to most it is answered, else refused. */
    private static void bounds(String name, int least, int most, int refused, Call call) {
        for (int v : beside(least, most)) {
            boolean good = v >= least && v <= most;
            DUE.is(name + " " + v + " is taken", call.answer(full(), v) != refused, good);
        }
    }

    private static void telling() {
        bounds("2: i", 0, 11, 0, (x, v) -> bit(x.fact(v, 0)));
        bounds("2: kind", 0, 8, 0, (x, v) -> bit(x.fact(0, v)));
        bounds("3: i", 0, 10, 0, (x, v) -> v == 11 ? 0 : bit(x.link(v, 11, 0)));
        bounds("3: i", 1, 11, 0, (x, v) -> bit(x.link(v, 0, 0)));
        bounds("3: j", 0, 10, 0, (x, v) -> v == 11 ? 0 : bit(x.link(11, v, 0)));
        bounds("3: j", 1, 11, 0, (x, v) -> bit(x.link(0, v, 0)));
        bounds("3: n", 0, 9, 0, (x, v) -> bit(x.link(3, 4, v)));
        bounds("4: p", 0, 7, 0, (x, v) -> bit(x.pupil(v, 1, 1)));
        bounds("4: grade", 1, 9, 0, (x, v) -> bit(x.pupil(1, v, 1)));
        bounds("4: age", 0, 99, 0, (x, v) -> bit(x.pupil(1, 1, v)));
        bounds("5: p", 0, 7, 0, (x, v) -> bit(x.knows(v, 1, 1)));
        bounds("5: i", 0, 11, 0, (x, v) -> bit(x.knows(1, v, 1)));
        bounds("5: strength", 0, 99, 0, (x, v) -> bit(x.knows(1, 1, v)));
        bounds("9: c", 1, 9, 0, (x, v) -> bit(x.grade(v, 1)));
        bounds("9: k", -1, 5, 0, (x, v) -> bit(x.grade(1, v)));
        bounds("10: facts", 0, 4095, 0, (x, v) -> bit(x.exam(v, 1)));
        bounds("10: limit", 0, 12, 0, (x, v) -> bit(x.exam(1, v)));
        bounds("34: x", 0, 65535, 0, (x, v) -> bit(x.seed(v)));
    }

    private static void tapeAndTexts() {
        bounds("7: k", 0, 5, -1, (x, v) -> {
            Due.feed(x, "abc");
            return x.art(v, 3);
        });
        bounds("7: n", 1, 60, -1, (x, v) -> {
            Due.feed(x, "(a)".repeat(30));
            return x.art(0, v);
        });
        bounds("8: n", 1, 240, -1, (x, v) -> {
            Due.feed(x, "x(1=1);".repeat(34));
            Due.feed(x, ";");
            return x.law(v);
        });
        bounds("37: p", 0, 7, -2, (x, v) -> x.check(v, 0));
        bounds("37: n", 0, 12, -2, (x, v) -> {
            Due.feed(x, 0);
            Due.feed(x, 0);
            return x.check(0, v);
        });
        bounds("31: n", 1, 6, -1, (x, v) -> {
            Due.feed(x, 0, 1, 2, 3, 4, 5, 6, 7, 8, 9, 10, 11);
            return x.hummed(v, 9, 0);
        });
        bounds("31: least", 1, 9, -1, (x, v) -> {
            Due.feed(x, 0, 1, 2);
            return x.hummed(3, v, 0);
        });
        bounds("31: what", 0, 1, -1, (x, v) -> {
            Due.feed(x, 0, 1, 2);
            return x.hummed(3, 9, v);
        });
        for (int b = 0; b < 256; b++) {
            ForgetSchool x = full();
            Due.feed(x, 0, b);
            DUE.is("31: byte " + b + " is a fact", x.hummed(2, 1, 0) != -1, b < 12);
            DUE.is("31: then the tape is empty, else it stays", x.count(8), b < 12 ? 0 : 20);
        }
    }

    private static void weeksAndTrials() {
        bounds("11: n", 1, 60, -1, (x, v) -> x.weeks(v));
        bounds("12: n", 1, 60, -1, (x, v) -> x.tried(v, 0));
        bounds("13: n", 1, 60, -1, (x, v) -> x.other(v, 0));
        bounds("15: n", 1, 60, -1, (x, v) -> x.first(v, 1, 0));
        bounds("15: i", 0, 11, -1, (x, v) -> x.first(1, v, 0));
        bounds("15: what", 0, 1, -1, (x, v) -> x.first(1, 1, v));
        for (int what : beside(0, 41)) {
            triedWhat(what);
        }
        for (int what = -50; what < 80; what++) {
            triedWhat(what);
        }
    }

    private static void triedWhat(int what) {
        boolean good = what >= 0 && what <= 3 || what >= 10 && what <= 17 || what >= 20 && what <= 27
                || what >= 30 && what <= 41;
        DUE.is("12: what " + what + " is taken", full().tried(1, what) != -1, good);
        DUE.is("13: what " + what + " is taken", full().other(1, what) != -1, good);
        boolean even = what >= 0 && what <= 3 || good && what > 3 && what % 2 == 0;
        DUE.is("12: told what " + what + " is taken", half().tried(1, what) != -1, even);
        DUE.is("13: told what " + what + " is taken", half().other(1, what) != -1, even);
    }

    private static void pupilsAndFacts() {
        bounds("16: p", 0, 7, -1, (x, v) -> x.does(v, 0));
        bounds("16: k", 0, 5, -1, (x, v) -> x.does(0, v));
        bounds("17: p", 0, 7, -1, (x, v) -> x.pupilIs(v, 0));
        bounds("17: what", 0, 4, -1, (x, v) -> x.pupilIs(3, v));
        bounds("18: p", 0, 7, -1, (x, v) -> x.strength(v, 0));
        bounds("18: i", 0, 11, -1, (x, v) -> x.strength(0, v));
        bounds("19: p", 0, 7, -1, (x, v) -> x.heard(v, 0));
        bounds("19: i", 0, 11, -1, (x, v) -> x.heard(0, v));
    }

    private static void searches() {
        bounds("20: p", 0, 7, -1, (x, v) -> x.order(v, 1, 0, 0, 20));
        bounds("21: p", 0, 7, -1, (x, v) -> x.still(v, 0, 0));
        bounds("21: k", 0, 5, -1, (x, v) -> x.still(0, v, 0));
        bounds("21: what", 0, 1, -1, (x, v) -> x.still(0, 0, v));
        // five times: the places are 0 to 4, all else but 20 is no place
        for (int what : beside(0, 20)) {
            ForgetSchool x = Due.school(0);
            Due.art(x, 3, ".");
            Due.pupil(x, 0, 1, 1, 5);
            int due = what == 20 ? 5 : what >= 0 && what <= 4 ? 3 : -4;
            DUE.is("20: what " + what, x.order(0, 8, 1, 0, what), due);
        }
    }

    private static void net() {
        bounds("22: i", 0, 10, -1, (x, v) -> v == 11 ? -1 : x.cut(v, 11, 0));
        bounds("22: i", 1, 11, -1, (x, v) -> x.cut(v, 0, 0));
        bounds("22: j", 0, 10, -1, (x, v) -> v == 11 ? -1 : x.cut(11, v, 0));
        bounds("22: j", 1, 11, -1, (x, v) -> x.cut(0, v, 0));
        bounds("22: what", 0, 1, -1, (x, v) -> x.cut(0, 5, v));
        bounds("23: i", 0, 11, -1, (x, v) -> x.recalls(v));
        bounds("25: what", 0, 11, -1, (x, v) -> v == 100 ? -1 : x.kin(v));
        bounds("25: what", 100, 100, -1, (x, v) -> v >= 0 && v <= 11 ? -1 : x.kin(v));
    }

    private static void rooms() {
        bounds("26: what", 0, 1, -1, (x, v) -> x.questions(255, v));
        bounds("27: p", 0, 6, 0, (x, v) -> v == 7 ? 0 : bit(x.reminds(v, 7, 1)));
        bounds("27: p", 1, 7, 0, (x, v) -> bit(x.reminds(v, 0, 1)));
        bounds("27: q", 0, 6, 0, (x, v) -> v == 7 ? 0 : bit(x.reminds(7, v, 1)));
        bounds("27: q", 1, 7, 0, (x, v) -> bit(x.reminds(0, v, 1)));
        bounds("27: n", 0, 99, 0, (x, v) -> bit(x.reminds(3, 4, v)));
        bounds("28: what", 0, 1, -1, (x, v) -> x.parted(255, v));
        bounds("29: m", 0, 4, 0, (x, v) -> bit(x.skill(v, 1, 1)));
        bounds("29: k", 0, 5, 0, (x, v) -> bit(x.skill(1, v, 1)));
        bounds("29: n", 0, 99, 0, (x, v) -> bit(x.skill(1, 1, v)));
        bounds("30: what", 0, 4, -1, (x, v) -> v == 20 ? -1 : x.taught(31, 31, v));
        bounds("30: what", 1, 5, -1, (x, v) -> v == 20 ? -1 : x.taught(31, 62, v));
        bounds("30: what", 20, 20, -1, (x, v) -> v == 3 ? -1 : x.taught(4, 8, v));
    }

    private static void hummedOddsCrib() {
        bounds("32: p", 0, 7, -1, (x, v) -> x.odds(v, 1, 0, 0));
        bounds("32: limit", 0, 12, -1, (x, v) -> x.odds(0, 1, v, 0));
        bounds("32: what", 0, 1, -1, (x, v) -> x.odds(0, 1, 0, v));
        bounds("33: p", 0, 7, -1, (x, v) -> x.crib(v, 0));
        bounds("33: what", 0, 1, -1, (x, v) -> x.crib(0, v));
    }

    private static void rest() {
        for (int what : beside(0, 51)) {
            countWhat(what);
        }
        for (int what = -20; what < 120; what++) {
            countWhat(what);
        }
    }

    private static void countWhat(int what) {
        boolean plain = what >= 0 && what <= 11;
        boolean ofArt = what >= 20 && what <= 25;
        boolean ofClass = what >= 31 && what <= 39;
        boolean ofFact = what >= 40 && what <= 51;
        DUE.is("38: what " + what + " is taken", full().count(what) != -1, plain || ofArt || ofClass || ofFact);
        boolean told = plain || ofClass || (ofArt || ofFact) && what % 2 == 0;
        DUE.is("38: told what " + what + " is taken", half().count(what) != -1, told);
    }

    /** Where only even ones are told, these alone are taken. */
    private static void evenOnes(String name, int most, int refused, Call call) {
        for (int v = -2; v <= most + 2; v++) {
            DUE.is(name + " " + v + " told", call.answer(half(), v) != refused, v >= 0 && v <= most && v % 2 == 0);
        }
    }

    private static void toldOnes() {
        evenOnes("3: i", 10, 0, (x, v) -> bit(v != 0 ? x.link(v, 0, 1) : x.link(0, 2, 1)));
        evenOnes("3: j", 10, 0, (x, v) -> bit(v != 0 ? x.link(0, v, 1) : x.link(2, 0, 1)));
        evenOnes("5: p", 7, 0, (x, v) -> bit(x.knows(v, 0, 1)));
        evenOnes("5: i", 11, 0, (x, v) -> bit(x.knows(0, v, 1)));
        evenOnes("15: i", 11, -1, (x, v) -> x.first(1, v, 0));
        evenOnes("16: p", 7, -1, (x, v) -> x.does(v, 0));
        evenOnes("16: k", 5, -1, (x, v) -> x.does(0, v));
        evenOnes("17: p", 7, -1, (x, v) -> x.pupilIs(v, 0));
        evenOnes("18: p", 7, -1, (x, v) -> x.strength(v, 0));
        evenOnes("18: i", 11, -1, (x, v) -> x.strength(0, v));
        evenOnes("19: p", 7, -1, (x, v) -> x.heard(v, 0));
        evenOnes("19: i", 11, -1, (x, v) -> x.heard(0, v));
        evenOnes("20: p", 7, -1, (x, v) -> x.order(v, 1, 0, 0, 20));
        evenOnes("21: p", 7, -1, (x, v) -> x.still(v, 0, 0));
        evenOnes("21: k", 5, -1, (x, v) -> x.still(0, v, 0));
        evenOnes("22: i", 10, -1, (x, v) -> v != 0 ? x.cut(v, 0, 0) : x.cut(0, 2, 0));
        evenOnes("22: j", 10, -1, (x, v) -> v != 0 ? x.cut(0, v, 0) : x.cut(2, 0, 0));
        evenOnes("23: i", 11, -1, (x, v) -> x.recalls(v));
        evenOnes("25: what", 11, -1, (x, v) -> x.kin(v));
        evenOnes("27: p", 6, 0, (x, v) -> bit(v != 0 ? x.reminds(v, 0, 1) : x.reminds(0, 2, 1)));
        evenOnes("27: q", 6, 0, (x, v) -> bit(v != 0 ? x.reminds(0, v, 1) : x.reminds(2, 0, 1)));
        evenOnes("32: p", 7, -1, (x, v) -> x.odds(v, 1, 0, 0));
        evenOnes("33: p", 7, -1, (x, v) -> x.crib(v, 0));
        evenOnes("37: p", 7, -2, (x, v) -> x.check(v, 0));
        for (int b = 0; b < 12; b++) {
            DUE.is("31: fact " + b + " not told", Due.hummed(half(), 1, 0, b), b % 2 == 0 ? 1 : -2);
            DUE.is("31: fact " + b + " not told behind one", Due.hummed(half(), 1, 0, 0, b), b % 2 == 0 ? 0 : -2);
        }
    }

    /** Facts as bits: told ones alone, no bit beyond the twelve. */
    private static void bitsOfFacts() {
        for (int b = 0; b < 32; b++) {
            boolean good = b < 12;
            boolean told = good && b % 2 == 0;
            DUE.is("20: gone bit " + b, full().order(0, 1, 1 << b, 0, 20) != -1, good);
            DUE.is("20: kept bit " + b, full().order(0, 1, 0, 1 << b, 20) != -1, good);
            DUE.is("32: facts bit " + b, full().odds(0, 1 << b, 0, 0) != -1, good);
            DUE.is("20: told gone bit " + b, half().order(0, 1, 1 << b, 0, 20) != -1, told);
            DUE.is("20: told kept bit " + b, half().order(0, 1, 0, 1 << b, 20) != -1, told);
            DUE.is("32: told facts bit " + b, half().odds(0, 1 << b, 0, 0) != -1, told);
            DUE.is("10: facts bit " + b, half().exam(1 << b, 0), good);
            DUE.is("20: no fact in both, bit " + b, full().order(0, 1, 4095, 4095 & 1 << b, 20) != -1, !good);
        }
        DUE.is("20: all gone, as they are", full().order(0, 1, 4095, 0, 20), 0);
        DUE.is("20: all gone", full().order(7, 1, 4095, 0, 20), -2);
        DUE.is("20: half gone, half kept", full().order(7, 1, 0xff8, 0x007, 20), 0);
        DUE.is("32: eight facts", full().odds(0, 0xff0, 0, 0), 1);
        DUE.is("32: nine facts", full().odds(0, 0xff8, 0, 0), -1);
        DUE.is("32: twelve facts", full().odds(0, 0xfff, 0, 0), -1);
        DUE.is("32: no facts", full().odds(0, 0, 0, 0), 1);
    }

    private static void bitsOfPupils() {
        for (int b = 0; b < 32; b++) {
            int some = 1 << b | (b == 0 ? 4 : 1);
            DUE.is("26: bit " + b, full().questions(some, 0) != -1, b < 8);
            DUE.is("28: bit " + b, full().parted(some, 0) != -1, b < 8);
            DUE.is("26: told bit " + b, half().questions(some, 0) != -1, b < 8 && b % 2 == 0);
            DUE.is("28: told bit " + b, half().parted(some, 0) != -1, b < 8 && b % 2 == 0);
            DUE.is("26: one alone " + b, full().questions(1 << b, 0), -1);
            DUE.is("28: one alone " + b, full().parted(1 << b, 0), -1);
        }
        DUE.is("26: none", full().questions(0, 0), -1);
        DUE.is("28: none", full().parted(0, 0), -1);
        DUE.is("26: eight", full().questions(255, 0), 3);
        DUE.is("28: eight", full().parted(255, 0), 0);
    }

    private static void bitsOfArtsAndMasters() {
        for (int arts = 0; arts < 128; arts++) {
            boolean good = arts < 64 && Integer.bitCount(arts) >= 1 && Integer.bitCount(arts) <= 4;
            DUE.is("20: arts " + arts, full().order(0, arts, 0, 0, 20), good ? 0 : -1);
            DUE.is("20: told arts " + arts, half().order(0, arts, 0, 0, 20), good && (arts & ~21) == 0 ? 0 : -1);
            for (int masters = 0; masters < 64; masters++) {
                boolean same = arts < 64 && masters < 32 && arts != 0 && Integer.bitCount(arts) == Integer.bitCount(masters);
                if (masters % 7 == arts % 7) {
                    DUE.is("30: " + masters + ", " + arts, full().taught(masters, arts, 20) != -1, same);
                    DUE.is("30: told " + masters + ", " + arts, half().taught(masters, arts, 20) != -1,
                            same && (masters & ~21) == 0);
                }
            }
        }
        for (int b = 6; b < 32; b++) {
            DUE.is("20: arts bit " + b, full().order(0, 1 | 1 << b, 0, 0, 20), -1);
            DUE.is("30: arts bit " + b, full().taught(3, 1 | 1 << b, 20), -1);
            DUE.is("30: masters bit " + b, full().taught(1 | 1 << b, 3, 20), -1);
        }
        for (int what = 0; what < 6; what++) {
            DUE.is("30: art " + what + " of them", full().taught(7, 42, what) != -1, (42 >> what & 1) == 1);
        }
        DUE.is("30: an art not told", half().taught(1, 2, 1), 0);
    }
}
