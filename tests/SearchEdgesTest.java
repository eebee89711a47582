import java.util.ArrayList;
import java.util.List;

/** What the terms say of ORDER, STILL, CUT and all that is looked for in them, sentence by sentence, at its edges. */
public final class SearchEdgesTest {
    private static final Due DUE = new Due("SearchEdgesTest");

    public static void main(String[] args) {
        orderOfNone();
        orderOfEachLength();
        orderOfAllRows();
        orderByLeastRow();
        orderAsks();
        stillTimes();
        stillChangesNothing();
        cutEdges();
        recallsEdges();
        rootEdges();
        kinEdges();
        questionsEdges();
        partedEdges();
        partedInEachWay();
        taughtInEachWay();
        taughtEdges();
        hummedEdges();
        hummedInAll();
        oddsEdges();
        cribEdges();
        cribAsks();
        DUE.end();
    }

    /** Twelve facts of kind A. */
    private static ForgetSchool twelve() {
        return Due.school(0, 0, 0, 0, 0, 0, 0, 0, 0, 0, 0, 0);
    }

    /** "(0 to 5)": 0, where all is so already; then there is no place. */
    private static void orderOfNone() {
        ForgetSchool x = twelve();
        Due.art(x, 0, "a");
        Due.pupil(x, 0, 1, 1, 5, 0);
        DUE.is("20: nothing is asked", x.order(0, 1, 0, 0, 20), 0);
        DUE.is("20: KNOWN already", x.order(0, 1, 0, 1, 20), 0);
        DUE.is("20: not KNOWN already", x.order(0, 1, 4094, 0, 20), 0);
        DUE.is("20: both already", x.order(0, 1, 4094, 1, 20), 0);
        for (int place : new int[] {-1, 0, 1, 4, 5, 19, 21}) {
            DUE.is("20: no place " + place, x.order(0, 1, 4094, 1, place), -4);
        }
        DUE.is("20: one alone may be asked", x.order(0, 1, 1, 0, 20), -2);
        DUE.is("20: all may be asked", x.order(0, 1, 0, 4095, 20), -2);
    }

    /** "each as often as one likes", "the fewest times", "-2: not by 5", "-4: no such place". */
    private static void orderOfEachLength() {
        for (int strength = 1; strength <= 7; strength++) {
            ForgetSchool x = Due.school(0, 0);
            Due.art(x, 5, ".");
            Due.pupil(x, 7, 1, 1, strength, 50);
            int times = strength <= 5 ? strength : -2;
            DUE.is("20: " + strength + " times", x.order(7, 32, 1, 0, 20), times);
            DUE.is("20: " + strength + " times, the other KNOWN", x.order(7, 32, 1, 2, 20), times);
            for (int place = -1; place <= 7; place++) {
                int due = times < 0 ? -2 : place >= 0 && place < times ? 5 : -4;
                DUE.is("20: place " + place + " of " + strength, x.order(7, 32, 1, 0, place), due);
            }
            Due.art(x, 2, "2.");
            int fewer = (strength + 1) / 2;
            DUE.is("20: the fewest of " + strength, x.order(7, 36, 1, 0, 20), fewer);
            DUE.is("20: the least row of " + strength, x.order(7, 36, 1, 0, 0), 2);
            DUE.is("20: the least row of " + strength + ", its end", x.order(7, 36, 1, 0, fewer - 1), 2);
        }
        for (int i = 0; i < 12; i++) {
            ForgetSchool x = twelve();
            Due.art(x, 0, ".");
            Due.art(x, 1, "+" + (char) ('a' + (i + 1) % 12) + (char) ('a' + i));
            Due.law(x, "s99(1=1);w31(1=1)");
            x.pupil(0, 1, 1);
            x.knows(0, i, 5);
            DUE.is("20: FACT " + i + " by 5", x.order(0, 1, 1 << i, 0, 20), 5);
            DUE.is("20: FACT " + i + " by 1", x.order(0, 3, 1 << i, 0, 20), 1);
            x.knows(0, i, 94);
            DUE.is("20: FACT " + i + " by 4", x.order(0, 3, 1 << i, 0, 20), 4);
            for (int place = 0; place < 4; place++) {
                DUE.is("20: FACT " + i + ", place " + place, x.order(0, 3, 1 << i, 0, place), place == 0 ? 0 : 1);
            }
        }
    }

    /**
     * By art k the next of the facts a to e is of strength k + 1, so that each of the 341 rows of no to four arts
     * leads to strengths of its own; fact k is recalled where these are high enough.
     */
    private static ForgetSchool allRows(int h, int... arts) {
        ForgetSchool x = twelve();
        x.pupil(0, 1, 1);
        for (int k = 0; k < 4; k++) {
            StringBuilder text = new StringBuilder();
            for (char c : "edcba".toCharArray()) {
                text.append(k == 0 ? "" : "" + (k + 1)).append('+').append(c);
            }
            DUE.is("7: " + text, Due.art(x, arts[k], text.toString()), 5 * (k + 1));
        }
        for (int i = 0; i < 5; i++) {
            x.link(i, 10, 9);
        }
        DUE.is("8: 2 clauses", Due.law(x, "s1(f=n&v=0|f=n-1&v>0);h" + h + "(1=1)"), 2);
        return x;
    }

    private static void row(String name, ForgetSchool x, int arts, int kept, int... due) {
        DUE.is("20: " + name + ", times", x.order(0, arts, 0, kept, 20), due.length);
        for (int place = 0; place < due.length; place++) {
            DUE.is("20: " + name + ", place " + place, x.order(0, arts, 0, kept, place), due[place]);
        }
        DUE.is("20: " + name + ", no more", x.order(0, arts, 0, kept, due.length), -4);
    }

    /** "by 1 to 4 told ARTS, ... the fewest times (0 to 5)": the last row of all is found, too. */
    private static void orderOfAllRows() {
        row("the last of all", allRows(14, 0, 1, 2, 3), 15, 1 << 10, 3, 3, 3, 3, 3);
        row("the last of all, high arts", allRows(14, 1, 2, 4, 5), 54, 1 << 10, 5, 5, 5, 5, 5);
        row("the last of all, fewer arts", allRows(14, 0, 1, 2, 3), 12, 1 << 10, 3, 3, 3, 3, 3);
        row("the last of all, one art", allRows(14, 0, 1, 2, 3), 8, 1 << 10, 3, 3, 3, 3, 3);
        row("the least that is enough", allRows(13, 0, 1, 2, 3), 15, 1 << 10, 2, 3, 3, 3, 3);
        row("the least that is enough", allRows(12, 0, 1, 2, 3), 15, 1 << 10, 1, 3, 3, 3, 3);
        row("four are enough", allRows(11, 0, 1, 2, 3), 15, 1 << 10, 3, 3, 3, 3);
        row("four are enough", allRows(10, 0, 1, 2, 3), 15, 1 << 10, 2, 3, 3, 3);
        row("one is enough", allRows(2, 0, 1, 2, 3), 15, 1 << 10, 3);
        row("one is enough", allRows(0, 0, 1, 2, 3), 15, 1 << 10, 1);
        ForgetSchool x = allRows(15, 0, 1, 2, 3);
        DUE.is("20: not by 5", x.order(0, 15, 0, 1 << 10, 20), -2);
        DUE.is("20: not by 5", x.order(0, 15, 0, 1 << 10, 0), -2);
        x = allRows(14, 0, 1, 2, 3);
        DUE.is("20: not by the others", x.order(0, 7, 0, 1 << 10, 20), -2);
        DUE.is("20: nothing is changed", x.pupilIs(0, 4), 0);
        DUE.is("20: nothing is changed", x.count(2), 0);
    }

    /** "of like ones the least row (by ARTS)". */
    private static void orderByLeastRow() {
        ForgetSchool x = Due.school(0, 0, 0, 0);
        Due.art(x, 1, "a");
        Due.art(x, 2, "b");
        Due.art(x, 3, "c");
        Due.art(x, 4, "d");
        Due.law(x, "w9(1=1)");
        Due.pupil(x, 0, 1, 1, 9, 9, 9, 9);
        int[][] gone = {{1}, {2}, {3}, {4}, {1, 2}, {1, 3}, {2, 4}, {1, 2, 3}, {2, 3, 4}, {1, 2, 3, 4}};
        for (int[] row : gone) {
            int bits = 0;
            for (int k : row) {
                bits |= 1 << k - 1;
            }
            DUE.is("20: times", x.order(0, 30, bits, 15 - bits, 20), row.length);
            for (int place = 0; place < row.length; place++) {
                DUE.is("20: by ARTS, place " + place, x.order(0, 30, bits, 15 - bits, place), row[place]);
            }
        }
        // d goes only where c is gone, c only where b is, b only where a is
        Due.law(x, "w9(f=0);w9(f=1&n=3);w9(f=2&n=2);w9(f=3&n=1)");
        Due.art(x, 1, "d");
        Due.art(x, 2, "c");
        Due.art(x, 3, "b");
        Due.art(x, 4, "a");
        DUE.is("20: none but this", x.order(0, 30, 15, 0, 20), 4);
        for (int place = 0; place < 4; place++) {
            DUE.is("20: none but this, place " + place, x.order(0, 30, 15, 0, place), 4 - place);
        }
        x.knows(0, 0, 10);
        DUE.is("20: none but this, one twice", x.order(0, 30, 15, 0, 20), 5);
        DUE.is("20: none but this, one twice", x.order(0, 30, 15, 0, 1), 4);
        x.knows(0, 0, 19);
        DUE.is("20: six times", x.order(0, 30, 15, 0, 20), -2);
    }

    /** "(2) of a WEEK behind each", THE WEEK as now, also for one who is OUT. */
    private static void orderAsks() {
        ForgetSchool x = Due.school(0, 0, 0);
        x.link(0, 1, 9);
        Due.art(x, 0, ".");
        Due.pupil(x, 0, 1, 1, 99, 0, 9);
        DUE.is("20: RECALLED behind the art", x.order(0, 1, 0, 2, 20), 1);
        DUE.is("20: never gone, since it is RECALLED", x.order(0, 1, 2, 0, 20), 0);
        x.knows(0, 1, 1);
        DUE.is("20: never gone, since it is RECALLED", x.order(0, 1, 2, 0, 20), -2);
        Due.law(x, "h99(1=1)");
        DUE.is("20: gone by h", x.order(0, 1, 2, 0, 20), 1);
        Due.law(x, "h99(y=0)");
        DUE.is("20: THE WEEK as now", x.order(0, 1, 2, 0, 20), 1);
        x.weeks(1);
        x.knows(0, 1, 1);
        DUE.is("20: THE WEEK as now", x.order(0, 1, 2, 0, 20), -2);
        x.exam(1 << 5, 0);
        x.pupil(0, 9, 1);
        x.weeks(3);
        x.knows(0, 2, 3);
        DUE.is("20: one who is OUT", x.order(0, 1, 4, 0, 20), 3);
        Due.law(x, "x(c=10)");
        DUE.is("20: one who is OUT", x.order(0, 1, 4, 0, 20), -2);
    }

    /** "how many times till one more changes nothing (200 at most)", "-2: it never rests (in 200 times)". */
    private static void stillTimes() {
        for (int more = 0; more <= 6; more++) {
            ForgetSchool x = Due.school(0, 0, 0);
            Due.law(x, "w1(f=0);w1(f=1&n=2);w1(f=2&n=1)");
            Due.art(x, 3, "cba");
            Due.pupil(x, 0, 1, 1, 99, 97, more);
            int times = more == 0 ? 99 : 196 + more;
            DUE.is("21: " + times, x.still(0, 3, 0), times <= 200 ? times : -2);
            DUE.is("21: KNOWN then", x.still(0, 3, 1), times > 200 ? -2 : 0);
        }
        for (int strength = 0; strength <= 99; strength++) {
            ForgetSchool x = Due.school(0);
            Due.art(x, 0, ".");
            Due.pupil(x, 0, 1, 1, strength);
            DUE.is("21: sleep", x.still(0, 0, 0), strength);
            DUE.is("21: KNOWN then", x.still(0, 0, 1), 0);
            DUE.is("21: nothing is changed", x.strength(0, 0), strength);
        }
    }

    /** "changes nothing" is asked behind (2); what goes round never rests. */
    private static void stillChangesNothing() {
        ForgetSchool x = Due.school(0, 0);
        x.link(1, 0, 9);
        Due.art(x, 0, "a");
        Due.pupil(x, 0, 1, 1, 45, 50);
        Due.law(x, "w99(1=1)");
        DUE.is("21: gone and RECALLED as it was", x.still(0, 0, 0), 0);
        DUE.is("21: both KNOWN then", x.still(0, 0, 1), 2);
        x.knows(0, 0, 46);
        DUE.is("21: once", x.still(0, 0, 0), 1);
        x.knows(0, 0, 0);
        DUE.is("21: RECALLED once", x.still(0, 0, 0), 1);
        Due.law(x, "w1(1=1)");
        x.knows(0, 0, 5);
        DUE.is("21: it goes round for ever", x.still(0, 0, 0), -2);
        DUE.is("21: it goes round for ever", x.still(0, 0, 1), -2);
        ForgetSchool y = twelve();
        y.pupil(0, 1, 1);
        Due.art(y, 0, "+l");
        Due.law(y, "s1(1=1)");
        DUE.is("21: fact l alone is changed", y.still(0, 0, 0), 99);
        DUE.is("21: KNOWN then", y.still(0, 0, 1), 1);
        Due.art(y, 0, "+g");
        DUE.is("21: fact g alone is changed", y.still(0, 0, 0), 99);
        Due.art(y, 0, "+f");
        DUE.is("21: fact f alone is changed", y.still(0, 0, 0), 99);
        Due.art(y, 0, "+a");
        DUE.is("21: fact a alone is changed", y.still(0, 0, 0), 99);
        DUE.is("38: nothing RECALLED", y.count(2) + x.count(2), 0);
    }

    /** "the fewest FACTS (not these two) without which ...; of like ones the least bits". */
    private static void cutEdges() {
        for (int wide = 0; wide <= 10; wide++) {
            ForgetSchool x = twelve();
            for (int m = 1; m <= wide; m++) {
                x.link(0, m, 1);
                x.link(m, 11, 9);
            }
            DUE.is("22: " + wide + " ways", x.cut(0, 11, 0), wide);
            DUE.is("22: " + wide + " ways, which", x.cut(0, 11, 1), (1 << wide + 1) - 2);
            DUE.is("22: none back", x.cut(11, 0, 0), 0);
            x.link(0, 11, 1);
            DUE.is("22: a LINK", x.cut(0, 11, 0), -2);
            DUE.is("22: a LINK, which", x.cut(0, 11, 1), -2);
            DUE.is("22: no LINK back", x.cut(11, 0, 0), 0);
            x.link(0, 11, 0);
            DUE.is("22: no LINK above 0", x.cut(0, 11, 0), wide);
        }
        ForgetSchool x = twelve();
        for (int i = 0; i < 11; i++) {
            x.link(i, i + 1, 1);
        }
        for (int i = 0; i < 10; i++) {
            DUE.is("22: of like ones the least bits", x.cut(i, 11, 1), 1 << i + 1);
            DUE.is("22: of like ones the least bits", x.cut(0, 11 - i, 1), i == 10 ? -2 : 2);
        }
        ForgetSchool y = Due.school(0, 0, 0, 0, 0);
        y.link(0, 1, 1);
        y.link(0, 2, 1);
        y.link(1, 3, 1);
        y.link(2, 3, 1);
        y.link(3, 4, 1);
        DUE.is("22: the fewest, though the bits are more", y.cut(0, 4, 1), 8);
        DUE.is("22: not these two", y.cut(0, 3, 1), 6);
        y.link(4, 0, 1);
        y.link(3, 0, 1);
        DUE.is("22: back to the one does not matter", y.cut(0, 4, 1), 8);
        DUE.is("22: two alone", Due.school(0, 0).cut(0, 1, 0), 0);
        DUE.is("22: two alone", Due.school(0, 0).cut(1, 0, 1), 0);
    }

    /** "FACTS to which one comes so from a FACT (as bits, not itself, if it does not come back)". */
    private static void recallsEdges() {
        ForgetSchool x = twelve();
        for (int i = 0; i < 11; i++) {
            x.link(i, i + 1, 1 + i % 9);
        }
        for (int i = 0; i < 12; i++) {
            DUE.is("23: not itself", x.recalls(i), 4096 - (2 << i));
        }
        x.link(11, 0, 1);
        for (int i = 0; i < 12; i++) {
            DUE.is("23: itself, too, since it comes back", x.recalls(i), 4095);
        }
        x.link(5, 6, 0);
        DUE.is("23: by LINKS above 0", x.recalls(0), 62);
        DUE.is("23: by LINKS above 0", x.recalls(6), 4095 - 64);
        ForgetSchool y = Due.school(-1, 0, -1, 0);
        DUE.is("23: none", y.recalls(1), 0);
        y.link(1, 3, 1);
        y.link(3, 1, 1);
        DUE.is("23: both", y.recalls(1), 10);
    }

    /** "the one that RECALLS most (by how many bits); of like ones the lowest", "-2: no FACT is told". */
    private static void rootEdges() {
        ForgetSchool x = new ForgetSchool();
        DUE.is("24: none", x.root(), -2);
        for (int i = 11; i >= 0; i--) {
            x.fact(i, 0);
            DUE.is("24: of like ones the lowest", x.root(), i);
        }
        x.link(11, 0, 1);
        DUE.is("24: the last", x.root(), 11);
        x.link(5, 3, 9);
        DUE.is("24: of like ones the lowest", x.root(), 5);
        x.link(3, 5, 1);
        DUE.is("24: both come back", x.root(), 3);
        x.link(9, 11, 1);
        x.link(9, 3, 1);
        DUE.is("24: bits, not their size", x.root(), 9);
        x.link(0, 1, 1);
        DUE.is("24: bits, not their size", x.root(), 9);
    }

    /** "told FACTS each of which is recalled so from each other one are KIN: how many groups". */
    private static void kinEdges() {
        ForgetSchool x = new ForgetSchool();
        DUE.is("25: no groups", x.kin(100), 0);
        for (int i = 0; i < 12; i++) {
            DUE.is("25: not told", x.kin(i), -1);
            x.fact(i, 0);
            DUE.is("25: one alone is a group", x.kin(i), 1 << i);
            DUE.is("25: groups", x.kin(100), i + 1);
        }
        for (int i = 0; i < 11; i++) {
            x.link(i, i + 1, 1);
            DUE.is("25: one way is not enough", x.kin(100), 12);
        }
        x.link(11, 0, 1);
        DUE.is("25: all", x.kin(100), 1);
        for (int i = 0; i < 12; i++) {
            DUE.is("25: all of them", x.kin(i), 4095);
        }
        x.link(11, 0, 0);
        for (int i = 1; i < 12; i++) {
            x.link(i, i - 1, 1);
            DUE.is("25: one more joins", x.kin(100), 12 - i);
            DUE.is("25: one more joins", x.kin(0), (2 << i) - 1);
        }
    }

    /** "the fewest told FACTS by which 2 to 8 PUPILS are told apart; of like ones the least bits". */
    private static void questionsEdges() {
        for (int many = 2; many <= 8; many++) {
            ForgetSchool x = twelve();
            for (int p = 0; p < many; p++) {
                x.pupil(p, 1, 1);
                if (p > 0) {
                    x.knows(p, p + 4, 1);
                }
            }
            int all = (1 << many) - 1;
            DUE.is("26: all but one needed, " + many, x.questions(all, 0), many - 1);
            DUE.is("26: all but one needed, " + many, x.questions(all, 1), (1 << many - 1) - 1 << 5);
            x.pupil(1, 1, 1);
            DUE.is("26: two KNOW the same", x.questions(all, 0), -2);
            DUE.is("26: two KNOW the same", x.questions(all, 1), -2);
        }
        ForgetSchool y = twelve();
        for (int p = 0; p < 8; p++) {
            y.pupil(p, 1, 1);
            for (int i = 0; i < 3; i++) {
                y.knows(p, 9 + i, 99 * (p >> i & 1));
            }
        }
        DUE.is("26: eight by three", y.questions(255, 0), 3);
        DUE.is("26: eight by three", y.questions(255, 1), 0xe00);
        for (int p = 0; p < 8; p++) {
            y.knows(p, 0, p & 1);
            y.knows(p, 5, 1 - (p >> 1 & 1));
        }
        DUE.is("26: of like ones the least bits", y.questions(255, 1), 1 | 1 << 5 | 1 << 11);
        DUE.is("26: KNOWN or not, not how well", y.questions(3, 1), 1);
        ForgetSchool z = Due.school(0);
        Due.pupil(z, 0, 1, 1, 1);
        Due.pupil(z, 7, 1, 1, 99);
        DUE.is("26: both KNOW it", z.questions(129, 0), -2);
        z.knows(7, 0, 0);
        DUE.is("26: one KNOWS it, the other does not", z.questions(129, 1), 1);
        ForgetSchool none = new ForgetSchool();
        none.pupil(0, 1, 1);
        none.pupil(1, 2, 2);
        DUE.is("26: no FACT is told", none.questions(3, 0), -2);
    }

    /** "PUPILS in two rooms (neither empty)", "0 at first". */
    private static void partedEdges() {
        ForgetSchool x = new ForgetSchool();
        for (int p = 0; p < 8; p++) {
            x.pupil(p, 1, 1);
        }
        for (int p = 0; p < 8; p++) {
            for (int q = p + 1; q < 8; q++) {
                DUE.is("28: two are parted", x.parted(1 << p | 1 << q, 1), 1 << q);
                x.reminds(p, q, 99);
                DUE.is("28: two are parted", x.parted(1 << p | 1 << q, 0), 0);
            }
        }
        DUE.is("28: eight, four each", x.parted(255, 0), 12 * 99);
        DUE.is("28: eight, four each, the least bits", x.parted(255, 1), 0x1e);
        DUE.is("28: three", x.parted(0xe0, 0), 99);
        DUE.is("28: three, the least bits of the room without the lowest", x.parted(0xe0, 1), 0x40);
        x.reminds(6, 5, 98);
        DUE.is("28: least", x.parted(0xe0, 1), 0x80);
        x.reminds(5, 7, 97);
        DUE.is("28: least", x.parted(0xe0, 1), 0x40);
        x.reminds(7, 6, 96);
        DUE.is("28: the lowest alone", x.parted(0xe0, 1), 0xc0);
        DUE.is("28: the lowest alone", x.parted(0xe0, 0), 96);
    }

    /** Each room without the lowest is found where it is the only best one. */
    private static void partedInEachWay() {
        for (int room = 2; room < 256; room += 2) {
            ForgetSchool x = new ForgetSchool();
            for (int p = 0; p < 8; p++) {
                x.pupil(p, 1, 1);
            }
            for (int p = 0; p < 8; p++) {
                for (int q = p + 1; q < 8; q++) {
                    x.reminds(p, q, (room >> p & 1) == (room >> q & 1) ? 0 : 1);
                }
            }
            DUE.is("28: room " + room, x.parted(255, 1), room);
            DUE.is("28: room " + room + ", how much", x.parted(255, 0), 0);
        }
    }

    /** "so that SKILL, added up, is most": each row of five is found where it is the only best one. */
    private static void taughtInEachWay() {
        List<int[]> rows = new ArrayList<>();
        for (int code = 0; code < 3125; code++) {
            int[] row = {code / 625, code / 125 % 5, code / 25 % 5, code / 5 % 5, code % 5};
            int bits = 0;
            for (int m : row) {
                bits |= 1 << m;
            }
            if (bits == 31) {
                rows.add(row);
            }
        }
        DUE.is("30: rows", rows.size(), 120);
        for (int[] row : rows) {
            for (int without = 0; without < 6; without += 5) {
                ForgetSchool x = new ForgetSchool();
                for (int m = 0; m < 5; m++) {
                    x.skill(m, 0, 0);
                }
                int at = 0;
                for (int k = 0; k < 6; k++) {
                    if (k != without) {
                        x.skill(row[at++], k, 99);
                    }
                }
                int arts = 63 & ~(1 << without);
                DUE.is("30: most", x.taught(31, arts, 20), 495);
                at = 0;
                for (int k = 0; k < 6; k++) {
                    DUE.is("30: of ART " + k, x.taught(31, arts, k), k == without ? -1 : row[at++]);
                }
            }
        }
    }

    /** "of like ones the least row (by ARTS the MASTER)", "0 at first". */
    private static void taughtEdges() {
        ForgetSchool x = new ForgetSchool();
        for (int m = 0; m < 5; m++) {
            x.skill(m, 5, 0);
        }
        for (int many = 1; many <= 5; many++) {
            int some = (1 << many) - 1;
            DUE.is("30: 0 at first", x.taught(some, some << 1, 20), 0);
            for (int k = 1; k <= many; k++) {
                DUE.is("30: the least row", x.taught(some, some << 1, k), k - 1);
                DUE.is("30: the least row, high masters", x.taught(some << 5 - many, some << 1, k), 4 - many + k);
            }
        }
        x.skill(0, 0, 9);
        x.skill(0, 1, 10);
        x.skill(1, 0, 8);
        x.skill(1, 1, 9);
        DUE.is("30: like ones", x.taught(3, 3, 20), 18);
        DUE.is("30: the least row", x.taught(3, 3, 0), 0);
        x.skill(1, 0, 9);
        DUE.is("30: one more", x.taught(3, 3, 20), 19);
        DUE.is("30: one more", x.taught(3, 3, 0), 1);
        DUE.is("30: one more", x.taught(3, 3, 1), 0);
    }

    /** "between two of these one FACT, or none, may have been hummed without a sound". */
    private static void hummedEdges() {
        ForgetSchool x = twelve();
        for (int i = 0; i < 12; i++) {
            for (int j = 0; j < 12; j++) {
                x.link(i, j, 8);
            }
        }
        int ways = 1;
        for (int n = 1; n <= 6; n++) {
            Due.feed(x, 0, 1, 2, 3, 4, 5);
            DUE.is("31: ways of " + n, x.hummed(n, 8, 0), ways);
            Due.feed(x, 0, 1, 2, 3, 4, 5);
            DUE.is("31: in all of these, " + n, x.hummed(n, 8, 1), (1 << n) - 1);
            Due.feed(x, 11, 11, 11, 11, 11, 11);
            DUE.is("31: the same again, ways of " + n, x.hummed(n, 8, 0), ways);
            Due.feed(x, 11, 11, 11, 11, 11, 11);
            DUE.is("31: the same again, in all of " + n, x.hummed(n, 8, 1), 1 << 11);
            Due.feed(x, 11, 0, 11, 0, 11, 0);
            DUE.is("31: so much at least, " + n, x.hummed(n, 9, 0), n == 1 ? 1 : 0);
            Due.feed(x, 11, 0, 11, 0, 11, 0);
            DUE.is("31: so much at least, " + n, x.hummed(n, 9, 1), n == 1 ? 1 << 11 : 0);
            Due.feed(x, 11, 0, 11, 0, 11, 0);
            DUE.is("31: so much at least, " + n, x.hummed(n, 1, 0), ways);
            ways *= 11;
        }
    }

    /** "FACTS (as bits) that were hummed in all of these, with a sound or without (none, if there is no way)". */
    private static void hummedInAll() {
        ForgetSchool x = Due.school(0, 0, 0, 0, 0, 0);
        x.link(0, 1, 3);
        x.link(1, 2, 3);
        DUE.is("31: by 1 alone", Due.hummed(x, 3, 1, 0, 2), 7);
        x.link(0, 3, 3);
        x.link(3, 2, 3);
        DUE.is("31: by 1 or 3", Due.hummed(x, 3, 0, 0, 2), 2);
        DUE.is("31: by 1 or 3, not in all", Due.hummed(x, 3, 1, 0, 2), 5);
        x.link(3, 2, 2);
        DUE.is("31: by 1 alone again", Due.hummed(x, 3, 1, 0, 2), 7);
        x.link(0, 2, 9);
        DUE.is("31: by 1 or none", Due.hummed(x, 3, 0, 0, 2), 2);
        DUE.is("31: by 1 or none, not in all", Due.hummed(x, 3, 1, 0, 2), 5);
        DUE.is("31: by none alone", Due.hummed(x, 4, 1, 0, 2), 5);
        x.link(2, 1, 3);
        DUE.is("31: 1 had a sound, too", Due.hummed(x, 3, 1, 0, 2, 1), 7);
        DUE.is("31: 1 had a sound, too", Due.hummed(x, 3, 0, 0, 2, 1), 2);
        DUE.is("31: a gap that is not to be gone", Due.hummed(x, 3, 0, 0, 2, 4), 0);
        DUE.is("31: none, if there is no way", Due.hummed(x, 3, 1, 0, 2, 4), 0);
        DUE.is("31: none, if there is no way", Due.hummed(x, 3, 1, 4, 0, 2), 0);
        x.link(2, 4, 3);
        x.link(4, 5, 3);
        DUE.is("31: one between, not two", Due.hummed(x, 3, 0, 1, 5), 0);
        DUE.is("31: one between", Due.hummed(x, 3, 0, 1, 4), 1);
        DUE.is("31: one between", Due.hummed(x, 3, 1, 1, 4), 22);
        DUE.is("31: six, each by one alone", Due.hummed(x, 9, 0, 0, 2), 1);
        DUE.is("31: the first of them is not told", Due.hummed(x, 3, 0, 6, 0), -2);
        DUE.is("31: the last of them is not told", Due.hummed(x, 3, 0, 0, 1, 2, 1, 2, 6), -2);
        DUE.is("31: what is behind these does not matter", x.feed(0x00010600, 0, 0, 0, 0), 20);
        DUE.is("31: what is behind these does not matter", x.hummed(2, 3, 0), 2);
        DUE.is("31: empty then", x.count(8), 0);
    }

    private static void odds(ForgetSchool x, int facts, int limit, int above, int below) {
        DUE.is("32: of " + facts + ", " + limit + ", above", x.odds(0, facts, limit, 0), above);
        DUE.is("32: of " + facts + ", " + limit + ", below", x.odds(0, facts, limit, 1), below);
    }

    /** "some told FACTS (8 at most) with a LIMIT", "above, below the line, without a common divisor". */
    private static void oddsEdges() {
        ForgetSchool x = twelve();
        x.pupil(0, 1, 1);
        for (int i = 0; i < 12; i++) {
            x.knows(0, i, 99);
        }
        for (int turn = 0; turn < 2; turn++) {
            odds(x, 255, 7, 0, 1);
            odds(x, 255, 8, 1, 1);
            odds(x, 255 << 4, 8, 1, 1);
            odds(x, 255, 12, 1, 1);
            odds(x, 127, 7, 1, 1);
            odds(x, 127, 6, 0, 1);
            odds(x, 0, 0, 1, 1);
            odds(x, 0, 12, 1, 1);
        }
        int[] tenthsAbove = {1, 9, 4, 7, 3, 1, 2, 3, 1, 1, 0};
        int[] tenthsBelow = {1, 10, 5, 10, 5, 2, 5, 10, 5, 10, 1};
        for (int strength = 0; strength <= 99; strength++) {
            int tenths = (strength + 9) / 10;
            x.knows(0, 11, strength);
            odds(x, 1 << 11, 0, tenthsAbove[tenths], tenthsBelow[tenths]);
        }
        for (int i = 0; i < 8; i++) {
            x.knows(0, i, 50);
        }
        odds(x, 255, 0, 1, 256);
        odds(x, 255, 1, 9, 256);
        odds(x, 255, 4, 163, 256);
        odds(x, 255, 7, 255, 256);
        odds(x, 255, 8, 1, 1);
        for (int i = 0; i < 8; i++) {
            x.knows(0, i, 90);
        }
        odds(x, 255, 0, 1, 100000000);
        odds(x, 255, 7, 100000000 - 43046721, 100000000);
        odds(x, 3, 0, 1, 100);
        odds(x, 3, 1, 19, 100);
    }

    /** "would recall most others that are not KNOWN; of like ones the lowest; -2: it KNOWS all that are told". */
    private static void cribEdges() {
        ForgetSchool x = twelve();
        x.pupil(0, 1, 1);
        DUE.is("33: of like ones the lowest", x.crib(0, 0), 0);
        DUE.is("33: none", x.crib(0, 1), 0);
        for (int i = 0; i < 11; i++) {
            x.link(11, i, 1);
        }
        DUE.is("33: all the others", x.crib(0, 0), 11);
        DUE.is("33: all the others", x.crib(0, 1), 11);
        for (int i = 0; i < 11; i++) {
            x.knows(0, i, 1);
            DUE.is("33: those that are not KNOWN", x.crib(0, 1), 10 - i);
        }
        DUE.is("33: the last", x.crib(0, 0), 11);
        x.knows(0, 11, 1);
        DUE.is("33: it KNOWS all", x.crib(0, 0), -2);
        DUE.is("33: it KNOWS all", x.crib(0, 1), -2);
        ForgetSchool y = Due.school(0, 0, -1, 0);
        Due.pupil(y, 0, 1, 1, 9, 9, 0, 9);
        DUE.is("33: all that are told", y.crib(0, 0), -2);
        y.fact(2, 2);
        DUE.is("33: one more is told", y.crib(0, 0), 2);
        ForgetSchool z = new ForgetSchool();
        z.pupil(0, 1, 1);
        DUE.is("33: none is told", z.crib(0, 0), -2);
        DUE.is("33: none is told", z.crib(0, 1), -2);
    }

    /** "by (2) gone through once ...: h of it then, those recalled so far KNOWN; THE WEEK as now". */
    private static void cribAsks() {
        ForgetSchool x = Due.school(0, 0, 0, 0);
        x.link(0, 1, 9);
        x.link(1, 2, 9);
        x.link(2, 3, 9);
        x.link(3, 0, 9);
        x.pupil(0, 1, 1);
        DUE.is("33: the others by one another", x.crib(0, 0), 0);
        DUE.is("33: the others by one another", x.crib(0, 1), 3);
        Due.law(x, "h99(n>2)");
        DUE.is("33: those recalled so far KNOWN", x.crib(0, 1), 2);
        Due.law(x, "h99(n>0)");
        DUE.is("33: the FACT itself KNOWN", x.crib(0, 1), 0);
        DUE.is("33: of like ones the lowest", x.crib(0, 0), 0);
        Due.law(x, "h88(1=1)");
        DUE.is("33: of STRENGTH 99", x.crib(0, 1), 1);
        Due.law(x, "h89(1=1)");
        DUE.is("33: not above h", x.crib(0, 1), 0);
        Due.law(x, "h99(y=0);h99(f<3)");
        DUE.is("33: THE WEEK as now", x.crib(0, 1), 0);
        x.weeks(1);
        DUE.is("33: THE WEEK as now", x.crib(0, 1), 1);
        DUE.is("33: THE WEEK as now", x.crib(0, 0), 2);
        DUE.is("33: nothing is changed", x.pupilIs(0, 4), 0);
        DUE.is("33: nothing is RECALLED", x.count(2), 0);
        Due.law(x, "w1(1=1)");
        x.knows(0, 2, 50);
        DUE.is("33: 3 by what is KNOWN, 1 by 0", x.crib(0, 0), 0);
        DUE.is("33: 3 by what is KNOWN, 1 by 0", x.crib(0, 1), 2);
        x.weeks(10);
        x.pupil(0, 1, 1);
        Due.law(x, "r9(1=1);h99(f=2)");
        DUE.is("33: in holidays, too", x.crib(0, 0), 3);
        DUE.is("33: in holidays, too", x.crib(0, 1), 2);
    }
}
