/** What the terms say of ARTS, sentence by sentence, at its edges: texts, faults, and what a step does. */
public final class ArtEdgesTest {
    private static final Due DUE = new Due("ArtEdgesTest");
    private static final String WEAKENED = "abcdefghijkl";
    private static final String HALVED = "ABCDEFGHI";
    private static final String STEPS = WEAKENED + HALVED + ".";

    public static void main(String[] args) {
        everyByte();
        length();
        firstBytesAlone();
        repeated();
        brackets();
        fortyEight();
        asked();
        faultsKeepTheOneBefore();
        weakened();
        halved();
        sleep();
        repeatedFacts();
        notTold();
        stepByStep();
        DUE.end();
    }

    private static void due(String text, int due) {
        ForgetSchool x = new ForgetSchool();
        DUE.is("7: " + text, Due.art(x, 0, text), due);
        DUE.is("7: " + text + ", told", x.count(5), due > 0 ? 1 : 0);
        DUE.is("7: " + text + ", steps", x.count(20), due > 0 ? due : -1);
    }

    /** "1 what can't stand there (the end, too)": each byte at each kind of place. */
    private static void everyByte() {
        for (int b = 0; b < 256; b++) {
            char c = (char) b;
            boolean step = STEPS.indexOf(c) >= 0;
            boolean digit = c >= '2' && c <= '9';
            due("" + c, step ? 1 : digit || c == '+' || c == '(' ? -1001 : -1000);
            due("a" + c, step ? 2 : digit || c == '+' || c == '(' ? -1002 : -1001);
            due("+" + c, WEAKENED.indexOf(c) >= 0 ? 1 : -1001);
            due("3+" + c, WEAKENED.indexOf(c) >= 0 ? 3 : -1002);
            due("3" + c, step ? 3 : c == '+' || c == '(' ? -1002 : -1001);
            due("(" + c, step || digit || c == '+' || c == '(' ? -1002 : -1001);
            due("(a" + c, c == ')' ? 1 : step || digit || c == '+' || c == '(' ? -1003 : -1002);
            due("(a)" + c, step ? 2 : digit || c == '+' || c == '(' ? -1004 : -1003);
            due("((a" + c, step || digit || c == '+' || c == ')' ? -1004 : c == '(' ? -5003 : -1003);
            due("((2" + c, step || c == '+' ? -1004 : c == '(' ? -5003 : -1003);
        }
    }

    /** "a TEXT of at most 60 bytes, no blanks". */
    private static void length() {
        due("(a)".repeat(20), 20);
        due("((" + "a".repeat(56) + "))", -6050);
        due("((" + "2a".repeat(24) + "))((a))", -6054);
        due("+a".repeat(30), 30);
        due("(+a)".repeat(15), 15);
        ForgetSchool x = new ForgetSchool();
        Due.feed(x, "+a".repeat(31));
        DUE.is("7: 61 bytes", x.art(0, 61), -1);
        DUE.is("7: the 60 first of them", x.art(0, 60), 30);
        for (int place = 0; place < 5; place++) {
            String text = "a2(b)".substring(0, place) + " " + "a2(b)".substring(place);
            due(text, -1000 - place);
        }
        for (int n = 1; n <= 20; n++) {
            ForgetSchool y = new ForgetSchool();
            Due.feed(y, "abcdefghijklabcdefgh");
            DUE.is("7: the first n bytes", y.art(0, n), n);
            DUE.is("7: empty then", y.count(8), 0);
        }
    }

    /** "ART k by the first n bytes of the tape": what lies behind these is not looked at. */
    private static void firstBytesAlone() {
        String text = "a+b2c.3+dA(ef)2(g(h)4(i))lI";
        int[] due = {1, -1002, 2, -1004, 4, 5, -1007, -1008, 8, 9, -1011, -1012, -1013, 11, -1015, -1016, -1017, -1018,
            -1019, -1020, -1021, -1022, -1023, -1024, 23, 24, 25};
        for (int n = 1; n <= text.length(); n++) {
            ForgetSchool x = new ForgetSchool();
            Due.feed(x, text);
            DUE.is("7: " + text.substring(0, n) + " of more", x.art(0, n), due[n - 1]);
            DUE.is("7: empty then", x.count(8), 0);
        }
        ForgetSchool x = new ForgetSchool();
        Due.feed(x, "a".repeat(60));
        DUE.is("7: 48 of more", x.art(0, 48), 48);
        Due.feed(x, "a".repeat(60));
        DUE.is("7: 49 of more", x.art(0, 49), -6048);
        Due.feed(x, "(((a)))");
        DUE.is("7: two open", x.art(0, 2), -1002);
        Due.feed(x, "(((a)))");
        DUE.is("7: a third", x.art(0, 3), -5002);
    }

    /** "ahead of each perhaps a digit 2 to 9 (so many times); (STEPS) likewise (one at least)". */
    private static void repeated() {
        for (int times = 2; times <= 9; times++) {
            for (char c : (STEPS).toCharArray()) {
                due("" + times + c, times);
            }
            due(times + "+a", times);
            due(times + "(a)", times);
            due(times + "(ab)", 2 * times);
            due(times + "(2a)", 2 * times);
        }
        due("1a", -1000);
        due("0a", -1000);
        due(":a", -1000);
        due("22a", -1001);
        due("2", -1001);
        due("()", -1001);
        due("2()", -1002);
        due("a()", -1002);
        due("(a())", -1003);
        due("((a)())", -1005);
    }

    /** "5 a third ( that is open in another one, at it". */
    private static void brackets() {
        due("((a))", 1);
        due("(((a)))", -5002);
        due("((a(", -5003);
        due("(((", -5002);
        due("2(2(2(a)))", -5005);
        due("(a)(a)(a)", 3);
        due("((a)(a)(a))", 3);
        due("((a)((a)))", -5005);
        due("((a))((a))", 2);
        due("((a))(((a)))", -5007);
        due("(a(b(c)))", -5004);
        due("((+(a)))", -1003);
        due("((a)", -1004);
        due("((a))", 1);
        due("((a)))", -1005);
        due(")", -1000);
        due("a)", -1001);
    }

    /** "48 STEPS at most", "6 more than 48, at the first byte of what (or its digit) by which they are". */
    private static void fortyEight() {
        String[] steps = {"a", "l", "I", ".", "+a"};
        for (String step : steps) {
            due("9a9a9a9a9a2a" + step, 48);
            due("9a9a9a9a9a3a" + step, -6012);
            due("9a9a9a9a9a2a2" + step, -6012);
            due("9a9a9a9a9aa2" + step, 48);
        }
        due("a".repeat(48), 48);
        for (int more = 49; more <= 60; more++) {
            due("a".repeat(more), -6048);
        }
        for (int groups = 1; groups <= 9; groups++) {
            for (int times = 2; times <= 9; times++) {
                for (int ahead = 0; ahead <= 9; ahead++) {
                    String first = ahead == 0 ? "" : ahead == 1 ? "b" : ahead + "b";
                    int all = ahead + groups * times;
                    due(first + times + "(" + "a".repeat(groups) + ")", all <= 48 ? all : -6000 - first.length());
                    due(first + "(" + times + "(" + "a".repeat(groups) + "))", all <= 48 ? all : -6001 - first.length());
                    due(first + times + "((" + "a".repeat(groups) + "))", all <= 48 ? all : -6000 - first.length());
                }
            }
        }
    }

    /** "(asked when it ends; of an inner one first)". */
    private static void asked() {
        due("9(9a", -1004);
        due("9(9az", -1004);
        due("9(9a)", -6000);
        due("9(9a)z", -6000);
        due("9(9(9a))", -6002);
        due("9(9(2a))", -6000);
        due("7(7(a))", -6000);
        due("2(7(7a))", -6002);
        due("2(9a9a9a9a9a9az)", -6012);
        due("2(9a9a9a9a9a3az)", -1014);
        due("2(9a9a9a9a9a4az)", -6012);
        due("2(9a9a9a9a9a3a)", -6000);
        due("(9a9a9a9a9a3a)", 48);
        due("(9a9a9a9a9a3a)b", -6014);
        due("9a9a9a9a9a3a(b)", -6013);
        due("9a9a9a9a9a2a2(b)", -6012);
        due("9a9a9a9a9a2a2(bz)", -1015);
        due("a".repeat(48) + "(", -1049);
        due("a".repeat(48) + "((", -1050);
        due("a".repeat(48) + "(((", -5050);
        due("a".repeat(48) + "3", -1049);
        due("a".repeat(48) + "3z", -1049);
        due("a".repeat(48) + "z", -1048);
    }

    /** "a FAULT: ... (the one before stays)", "in place of the one before". */
    private static void faultsKeepTheOneBefore() {
        ForgetSchool x = Due.school(0, 1, 2);
        Due.pupil(x, 0, 1, 1, 60, 60, 60);
        Due.law(x, "w1(1=1)");
        DUE.is("7: told", Due.art(x, 5, "3a2b"), 5);
        DUE.is("7: a fault", Due.art(x, 5, "9c9b9c("), -1007);
        DUE.is("7: a fault", Due.art(x, 5, "9(9c)"), -6000);
        DUE.is("7: a fault", Due.art(x, 5, "cc(((c)))"), -5004);
        DUE.is("7: the one before stays", x.count(25), 5);
        DUE.is("7: not told", x.count(5), 32);
        x.does(0, 5);
        DUE.is("7: the one before is done", x.strength(0, 0), 57);
        DUE.is("7: the one before is done", x.strength(0, 1), 58);
        DUE.is("7: the one before is done", x.strength(0, 2), 60);
        DUE.is("7: in place of it", Due.art(x, 5, "c"), 1);
        x.does(0, 5);
        DUE.is("7: nothing of it is left", x.strength(0, 0), 57);
        DUE.is("7: the new one is done", x.strength(0, 2), 59);
        Due.art(x, 4, "2c");
        x.does(0, 5);
        DUE.is("7: each by itself", x.strength(0, 2), 58);
        x.does(0, 4);
        DUE.is("7: each by itself", x.strength(0, 2), 56);
    }

    private static ForgetSchool one(String law, String art, int strength) {
        ForgetSchool x = Due.school(0, 8, 3);
        Due.pupil(x, 0, 1, 1, 0, strength, 50);
        DUE.is("law " + law, Due.law(x, law) > 0, true);
        DUE.is("art " + art, Due.art(x, 0, art) > 0, true);
        return x;
    }

    private static void done(String law, String art, int strength, int due) {
        ForgetSchool x = one(law, art, strength);
        int known = x.does(0, 0);
        DUE.is("16: " + law + ", " + art + " of " + strength, x.strength(0, 1), due);
        DUE.is("16: " + law + ", " + art + " of " + strength + " leaves the others", x.strength(0, 2), 50);
        DUE.is("16: KNOWN after " + law + ", " + art + " of " + strength, known, due > 0 ? 2 : 1);
    }

    /** "a FACT that is KNOWN, if it is not kept (x), is weakened by w (0 at least)". */
    private static void weakened() {
        done("w10(1=1)", "b", 11, 1);
        done("w10(1=1)", "b", 10, 0);
        done("w10(1=1)", "b", 9, 0);
        done("w10(1=1)", "b", 1, 0);
        done("w10(1=1)", "b", 0, 0);
        done("w0(1=1)", "b", 1, 1);
        done("w99(1=1)", "b", 99, 0);
        done("w98(1=1)", "b", 99, 1);
        done("w10(1=1);x(v=0)", "b", 10, 0);
        done("w10(1=1);x(v=10)", "b", 10, 10);
        done("w10(1=1);x(f=1)", "9b", 99, 99);
        done("w10(1=1);x(f=2)", "9b", 99, 9);
    }

    /** "halved (rounded down)", those of a KIND. */
    private static void halved() {
        for (int strength = 0; strength <= 99; strength++) {
            done("s1(1=1)", "I", strength, strength / 2);
        }
        done("s1(1=1)", "H", 50, 50);
        done("s1(1=1)", "ABCEFGH", 50, 50);
        done("s1(1=1)", "7I", 99, 0);
        done("s1(1=1)", "6I", 99, 1);
        done("x(f=1)", "9I", 99, 99);
        done("x(v<25)", "9I", 99, 24);
        done("w50(1=1)", "I", 99, 49);
        ForgetSchool x = Due.school(4, 4, 4, 5);
        Due.pupil(x, 0, 1, 1, 9, 9, 9, 9);
        Due.law(x, "x(n<4)");
        x.knows(0, 0, 1);
        Due.art(x, 0, "E");
        DUE.is("16: by numbers, each by itself", x.does(0, 0), 3);
        DUE.is("16: the first is gone", x.strength(0, 0), 0);
        DUE.is("16: so the second is kept", x.strength(0, 1), 9);
        x.fact(3, 4);
        x.fact(0, 5);
        Due.law(x, "w1(1=1)");
        x.does(0, 0);
        DUE.is("16: of another KIND now", x.strength(0, 3), 4);
        x.knows(0, 0, 9);
        x.does(0, 0);
        DUE.is("16: of another KIND now", x.strength(0, 0), 9);
    }

    /** "a dot, 46 (sleep: all are less by 1)". */
    private static void sleep() {
        for (int strength = 1; strength <= 99; strength++) {
            ForgetSchool x = one("w50(1=1)", ".", strength);
            x.does(0, 0);
            DUE.is("16: less by 1, " + strength, x.strength(0, 1), strength - 1);
            DUE.is("16: less by 1, all", x.strength(0, 2), 49);
            DUE.is("16: less by 1, not below 0", x.strength(0, 0), 0);
        }
        ForgetSchool x = one("x(f=1)", "9.", 5);
        x.does(0, 0);
        DUE.is("16: a kept one is not less", x.strength(0, 1), 5);
        DUE.is("16: the others are", x.strength(0, 2), 41);
    }

    /** "a told FACT that is repeated, KNOWN or not, kept or not, is stronger by s (99 at most)". */
    private static void repeatedFacts() {
        done("s10(1=1)", "+b", 0, 10);
        done("s10(1=1)", "+b", 88, 98);
        done("s10(1=1)", "+b", 89, 99);
        done("s10(1=1)", "+b", 90, 99);
        done("s10(1=1)", "+b", 99, 99);
        done("s0(1=1)", "+b", 0, 0);
        done("s99(1=1)", "+b", 0, 99);
        done("s98(1=1)", "+b", 0, 98);
        done("s10(1=1);x(1=1)", "+b", 0, 10);
        done("s10(1=1);x(1=1)", "+b", 5, 15);
        done("w1(1=1)", "+b", 5, 5);
        done("s1(1=1)", "9+b", 0, 9);
    }

    /** "FACTS that are not told may stand there: nothing is done to them." */
    private static void notTold() {
        for (int i = 0; i < 12; i++) {
            ForgetSchool x = new ForgetSchool();
            x.pupil(0, 1, 1);
            Due.law(x, "s50(1=1);w9(1=1)");
            char c = (char) ('a' + i);
            DUE.is("7: " + c + " not told", Due.art(x, 0, "+" + c + c + "A."), 4);
            DUE.is("16: nothing is done", x.does(0, 0), 0);
            x.fact(i, 0);
            DUE.is("16: nothing was done", x.strength(0, i), 0);
            DUE.is("16: told, it is repeated, weakened, halved and less", x.does(0, 0), 1);
            DUE.is("16: told, it is repeated, weakened, halved and less", x.strength(0, i), 19);
        }
    }

    /** "STEP by STEP, all asked as it is then". */
    private static void stepByStep() {
        ForgetSchool x = Due.school(0, 0, 0);
        Due.pupil(x, 0, 1, 1, 1, 50, 0);
        Due.law(x, "w1(f=0);w10(n=1);w3(n=2);w20(n=3);s7(n=2);s9(n=1)");
        Due.art(x, 0, "ba+cb+cb");
        // b by 3; a gone; c by 9 (n is 1); b by 3; c by 7; b by 3
        DUE.is("16: n as it is then", x.does(0, 0), 2);
        DUE.is("16: n as it is then", x.strength(0, 1), 50 - 3 - 3 - 3);
        DUE.is("16: n as it is then", x.strength(0, 2), 16);
        x.knows(0, 1, 40);
        Due.law(x, "w[v+1]/2(1=1)");
        Due.art(x, 0, "3b");
        x.does(0, 0);
        DUE.is("16: v as it is then", x.strength(0, 1), 5);
    }
}
