/** What the terms say of THE LAW, sentence by sentence, at its edges: texts, faults, what is reckoned, what is refused. */
public final class LawEdgesTest {
    private static final Due DUE = new Due("LawEdgesTest");
    private static final String DIGITS = "0123456789";
    private static final String LETTERS = "fkvpcany";
    private static final String FACTOR = DIGITS + LETTERS + "[";
    private static final String TEST = FACTOR + "(!";
    private static final String SIGNS = "+-*/%";
    private static final String HOLDS = "<>=";

    public static void main(String[] args) {
        everyByte();
        length();
        firstBytesAlone();
        clauses();
        digits();
        depthOfE();
        depthOfC();
        lettersAtTheirEdges();
        weekThrough52();
        boundsOfW();
        boundsOfS();
        boundsOfR();
        boundsOfH();
        firstThatHolds();
        kept();
        leftToRight();
        thirtyTwoBits();
        refusedE();
        refusedC();
        asMuchAsMatters();
        longOnes();
        notChangedByAFault();
        oneBehindTheOther();
        fewerClausesBehindMore();
        DUE.end();
    }

    private static void due(String text, int due) {
        ForgetSchool x = new ForgetSchool();
        DUE.is("8: " + text, Due.law(x, text), due);
        DUE.is("8: clauses of " + text, x.count(7), Math.max(0, due));
    }

    /** Each byte behind a beginning: those that can stand there, of these those by which the text is whole. */
    private static void behind(String start, String fine, String whole) {
        for (int b = 0; b < 256; b++) {
            char c = (char) b;
            int at = start.length();
            due(start + c, whole.indexOf(c) >= 0 ? 1 : fine.indexOf(c) >= 0 ? -1001 - at : -1000 - at);
        }
    }

    /** "1 what can't stand there (the end, too)". */
    private static void everyByte() {
        behind("", "wsrhx", "");
        for (String letter : new String[] {"w", "s", "r", "h"}) {
            behind(letter, FACTOR, "");
            behind(letter + "1", DIGITS + SIGNS + "(", "");
            behind(letter + "f", SIGNS + "(", "");
            behind(letter + "[f]", SIGNS + "(", "");
            behind(letter + "[f", SIGNS + "]", "");
            behind(letter + "[", FACTOR, "");
            behind(letter + "1(", TEST, "");
        }
        for (char sign : SIGNS.toCharArray()) {
            behind("w1" + sign, FACTOR, "");
            behind("w1" + sign + "n", SIGNS + "(", "");
            behind("x(1" + sign, FACTOR, "");
        }
        behind("x", "(", "");
        behind("x(", TEST, "");
        behind("x(!", TEST, "");
        behind("x((", TEST, "");
        behind("x(1", DIGITS + SIGNS + HOLDS, "");
        behind("x(v", SIGNS + HOLDS, "");
        behind("x([v]", SIGNS + HOLDS, "");
        for (char sign : HOLDS.toCharArray()) {
            behind("x(1" + sign, FACTOR, "");
            behind("x(1" + sign + "1", DIGITS + SIGNS + "&|)", ")");
            behind("x(1" + sign + "f", SIGNS + "&|)", ")");
            behind("x(!1" + sign + "f", SIGNS + "&|)", ")");
            behind("x((1" + sign + "f", SIGNS + "&|)", "");
        }
        behind("x((1=f)", "&|)", ")");
        behind("x(1=f&", TEST, "");
        behind("x(1=f|", TEST, "");
        behind("x(1=f&1=f", SIGNS + "&|)", ")");
        behind("x(1=f)", ";", "");
        behind("x(1=f);", "wsrhx", "");
        behind("w1(1=f);x(", TEST, "");
    }

    /** "a TEXT of at most 240 bytes, no blanks". */
    private static void length() {
        String text = "w" + "0+".repeat(116) + "07(1=1)";
        DUE.is("240 bytes", text.length(), 240);
        due(text, 1);
        taken(text, 7);
        ForgetSchool x = new ForgetSchool();
        Due.feed(x, "w" + "0+".repeat(116) + "007(1=1)");
        DUE.is("8: 241 bytes", x.law(241), -1);
        DUE.is("8: the tape stays", x.count(8), 260);
        DUE.is("8: the 240 first of them", x.law(240), -1240);
        for (int place = 0; place <= 8; place++) {
            due("w12(1=3)".substring(0, place) + " " + "w12(1=3)".substring(place), -1000 - place);
        }
        due("w1(1=1) ;w1(1=1)", -1007);
        due("w1(1=1); w1(1=1)", -1008);
    }

    /** "THE LAW by the first n bytes of the tape": what lies behind these is not looked at. */
    private static void firstBytesAlone() {
        String text = "w12+[34%f]*5(!(v<67|8=9)&n>10);s345(1=1);x([12]=34)";
        for (int n = 1; n <= text.length(); n++) {
            int clauses = n == text.indexOf(";s") ? 1 : n == text.indexOf(";x") ? 2 : n == text.length() ? 3 : 0;
            ForgetSchool x = new ForgetSchool();
            Due.feed(x, text);
            DUE.is("8: " + text.substring(0, n) + " of more", x.law(n), clauses > 0 ? clauses : -1000 - n);
            DUE.is("8: empty then", x.count(8), 0);
        }
        ForgetSchool x = new ForgetSchool();
        Due.feed(x, "w12345678901234567890");
        DUE.is("8: five digits of more", x.law(6), -1006);
        Due.feed(x, "w12345678901234567890");
        DUE.is("8: a sixth digit", x.law(7), -2006);
        Due.feed(x, "x(1=1)z".repeat(3));
        DUE.is("8: whole", x.law(6), 1);
        Due.feed(x, "x((((((((1=1");
        DUE.is("8: six open", x.law(7), -1007);
        Due.feed(x, "x((((((((1=1");
        DUE.is("8: a seventh", x.law(8), -5007);
        Due.feed(x, "x(1=1);".repeat(17));
        DUE.is("8: sixteen of more", x.law(111), 16);
        Due.feed(x, "x(1=1);".repeat(17));
        DUE.is("8: a ; behind sixteen", x.law(112), -1112);
        Due.feed(x, "x(1=1);".repeat(17));
        DUE.is("8: a seventeenth", x.law(113), -4112);
    }

    /** "CLAUSES (16 at most)", "4 a 17th CLAUSE, at its letter (if that can stand there)". */
    private static void clauses() {
        StringBuilder text = new StringBuilder("x(1=1)");
        for (int n = 1; n <= 20; n++) {
            due(text.toString(), n <= 16 ? n : -4112);
            text.append(";x(1=1)");
        }
        String sixteen = "x(1=1);".repeat(16);
        for (int b = 0; b < 256; b++) {
            due(sixteen + (char) b, "wsrhx".indexOf((char) b) >= 0 ? -4112 : -1112);
        }
        due(sixteen, -1112);
        due("x(1=1);".repeat(15) + "x(1=1", -1110);
        due("x(1=1);".repeat(15) + "x(1=1)x", -1111);
        due("w1(1=1);".repeat(16) + "w", -4128);
        due("w1(1=1);".repeat(15) + "s123456(1=1);w", -2126);
    }

    /** "a number of one to five digits", "2 a sixth digit, at it". */
    private static void digits() {
        for (String number : new String[] {"0", "9", "00", "10", "999", "0000", "12345", "99999", "00000"}) {
            due("w" + number + "(1=1)", 1);
            due("x(" + number + "=1)", 1);
            due("x(1<" + number + ")", 1);
            due("x([" + number + "]=" + number + ")", 1);
        }
        due("w000000(1=1)", -2006);
        due("w1+123456(1=1)", -2008);
        due("x(123456=1)", -2007);
        due("x(1=1234567)", -2009);
        due("x([000001=1)", -2008);
        due("w123456", -2006);
        due("w12345z", -1006);
        due("w12345", -1006);
        due("w12345:", -1006);
        due("w12345/", -1007);
        due("w/1(1=1)", -1001);
        due("w1:(1=1)", -1002);
        due("w12345f(1=1)", -1006);
        taken("w00012(1=1)", 12);
        taken("w9(99999=99998+1);w1(1=1)", 9);
    }

    /** "5 a seventh of ( [ ! that are open in one another, at it", "the E of a CLAUSE stands ahead of it". */
    private static void depthOfE() {
        for (int deep = 0; deep <= 9; deep++) {
            String e = "[".repeat(deep) + "1" + "]".repeat(deep);
            due("w" + e + "(1=1)", deep <= 6 ? 1 : -5007);
            due("w1+" + e + "(1=1)", deep <= 6 ? 1 : -5009);
            due("w" + e + "*" + e + "(1=1)", deep <= 6 ? 1 : -5007);
            due("x(" + e + "=1)", deep <= 5 ? 1 : -5007);
            due("x(1=" + e + ")", deep <= 5 ? 1 : -5009);
            due("w[[[[[[1]]]]]](" + e + "=1)", deep <= 5 ? 1 : -5020);
        }
        due("w[[[[[[[", -5007);
        due("w[[[[[[]", -1007);
        due("w[[[[[[(", -1007);
        due("w[[[[[[!", -1007);
        due("w[1]+[2]+[3]+[4]+[5]+[6]+[7]+[8](1=1)", 1);
    }

    /** "(the ( of the CLAUSE counts; a ! is open till its TEST ends)". */
    private static void depthOfC() {
        for (int opens = 0; opens <= 7; opens++) {
            for (int which = 0; which < 1 << opens; which++) {
                StringBuilder before = new StringBuilder("x(");
                StringBuilder after = new StringBuilder();
                for (int n = 0; n < opens; n++) {
                    boolean not = (which >> n & 1) == 1;
                    before.append(not ? '!' : '(');
                    after.append(not ? "" : ")");
                }
                for (int deep = 0; deep <= 7 - opens; deep++) {
                    String e = "[".repeat(deep) + "1" + "]".repeat(deep);
                    int due = opens + deep <= 5 ? 1 : -5007;
                    due(before + e + "=1" + after + ")", due);
                    due(before + "1=" + e + after + ")", opens > 5 ? -5007 : opens + deep <= 5 ? 1 : -5009);
                }
                if (opens <= 5) {
                    // what has ended is not open any more
                    due(before + "1=1" + after + "&" + before.substring(2) + "1=1" + after + ")", 1);
                    due(before + "1=1" + after + "|[[[[[1]]]]]=1)", 1);
                }
            }
        }
        due("x(!1=1&!1=1&!1=1&!1=1&!1=1&!1=1&!1=1)", 1);
        due("x(!!!!!1=1&!!!!!1=1|!!!!!1=1)", 1);
        due("x((1=1)&(1=1)&(1=1)&(1=1)&(1=1)&(1=1)&(1=1))", 1);
        due("x(!(!(!1=1&[1]=1)&[[[1]]]=1)&[[[[[1]]]]]=1)", 1);
        due("x(!(!(!1=1&[[1]]=1)&[[[1]]]=1))", -5012);
    }

    /** How much of 99 is taken from fact c, of kind H, of pupil 3, class 4, age 55, which knows it alone. */
    private static void taken(String text, int due) {
        ForgetSchool x = Due.school(-1, -1, 7);
        x.pupil(3, 4, 55);
        x.knows(3, 2, 99);
        Due.art(x, 0, "c");
        DUE.is("8: law " + text, Due.law(x, text) > 0, true);
        x.does(3, 0);
        DUE.is("8: taken by " + text, 99 - x.strength(3, 2), due);
    }

    private static void takenFrom(String text, int i, int kind, int p, int c, int age, int due) {
        ForgetSchool x = new ForgetSchool();
        x.fact(i, kind);
        x.pupil(p, c, age);
        x.knows(p, i, 99);
        Due.art(x, 0, "" + (char) ('a' + i));
        Due.law(x, text);
        x.does(p, 0);
        DUE.is("8: taken by " + text + " from " + i + ", " + kind + ", " + p + ", " + c + ", " + age, 99 - x.strength(p, i), due);
    }

    /** "f the FACT, k its KIND, v its STRENGTH, p the PUPIL, c its CLASS (10: it is OUT), a its AGE, n how many". */
    private static void lettersAtTheirEdges() {
        for (int i = 0; i < 12; i++) {
            takenFrom("wf(1=1)", i, 0, 0, 1, 0, i);
            takenFrom("w1(f=" + i + ")", i, 0, 0, 1, 0, 1);
        }
        for (int kind = 0; kind < 9; kind++) {
            takenFrom("wk(1=1)", 5, kind, 0, 1, 0, kind);
        }
        for (int p = 0; p < 8; p++) {
            takenFrom("wp(1=1)", 5, 0, p, 1, 0, p);
        }
        for (int c = 1; c <= 9; c++) {
            takenFrom("wc(1=1)", 5, 0, 7, c, 0, c);
        }
        for (int age = 0; age <= 99; age++) {
            takenFrom("wa(1=1)", 5, 0, 7, 3, age, age);
        }
        ForgetSchool x = Due.school(0, 0, 0, 0, 0, 0, 0, 0, 0, 0, 0, 0);
        x.pupil(0, 9, 0);
        Due.art(x, 0, "l");
        Due.law(x, "wn(1=1)");
        for (int i = 11; i >= 0; i--) {
            x.knows(0, i, 1);
            x.knows(0, 11, 99);
            x.does(0, 0);
            DUE.is("8: n of " + (12 - i), x.strength(0, 11), 99 - (12 - i));
        }
        x.exam(0x800, 12);
        x.weeks(4);
        x.knows(0, 11, 99);
        Due.law(x, "wc(1=1)");
        x.does(0, 0);
        DUE.is("8: c is 10 of one who is OUT", x.strength(0, 11), 89);
        for (int v = 1; v <= 99; v++) {
            takenOfOne(v, "w1(v=" + v + ")", v - 1);
            takenOfOne(v, "w1(v=" + (v + 1) + ");w1(v=" + (v - 1) + ")", v);
            takenOfOne(v, "wv-1(1=1)", 1);
        }
    }

    /** "y THE WEEK through 52 (what is left; in all)". */
    private static void weekThrough52() {
        ForgetSchool x = Due.school(0);
        Due.pupil(x, 0, 1, 1, 99);
        Due.art(x, 0, "a");
        Due.law(x, "wy(1=1)");
        for (int week = 0; week <= 110; week++) {
            x.knows(0, 0, 99);
            x.does(0, 0);
            DUE.is("8: y in WEEK " + week, x.strength(0, 0), 99 - week % 52);
            x.weeks(1);
        }
    }

    /** "w by how much a FACT is weakened (0 to 99)", "(beyond its bounds the bound; none: 0)". */
    private static void boundsOfW() {
        taken("w0-1(1=1)", 0);
        taken("w0(1=1)", 0);
        taken("w1(1=1)", 1);
        taken("w98(1=1)", 98);
        taken("w99(1=1)", 99);
        taken("w100(1=1)", 99);
        taken("w99999*21474(1=1)", 99);
        taken("w0-99999*21474(1=1)", 0);
        taken("s9(1=1)", 0);
        taken("w9(1=2)", 0);
        takenOfOne(98, "w98(1=1)", 0);
        takenOfOne(99, "w98(1=1)", 1);
        takenOfOne(5, "w6(1=1)", 0);
    }

    private static void takenOfOne(int strength, String law, int due) {
        ForgetSchool x = Due.school(0);
        Due.pupil(x, 0, 1, 1, strength);
        Due.art(x, 0, "a");
        Due.law(x, law);
        x.does(0, 0);
        DUE.is("8: " + law + " of " + strength, x.strength(0, 0), due);
    }

    /** "s by how much it is stronger when it is repeated (0 to 99)". */
    private static void boundsOfS() {
        String[] laws = {"s0-1(1=1)", "s0(1=1)", "s1(1=1)", "s98(1=1)", "s99(1=1)", "s100(1=1)", "w9(1=1)"};
        int[] due = {0, 0, 1, 98, 99, 99, 0};
        for (int n = 0; n < laws.length; n++) {
            for (int strength : new int[] {0, 1, 50, 99}) {
                ForgetSchool x = Due.school(0);
                Due.pupil(x, 0, 1, 1, strength);
                Due.art(x, 0, "+a");
                Due.law(x, laws[n]);
                x.does(0, 0);
                DUE.is("8: " + laws[n] + " of " + strength, x.strength(0, 0), Math.min(99, strength + due[n]));
            }
        }
    }

    /** "r by how much in a week of holidays (0 to 20)". */
    private static void boundsOfR() {
        String[] laws = {"r0-1(1=1)", "r0(1=1)", "r1(1=1)", "r19(1=1)", "r20(1=1)", "r21(1=1)", "r999(1=1)", "s9(1=1)"};
        int[] due = {0, 0, 1, 19, 20, 20, 20, 0};
        for (int n = 0; n < laws.length; n++) {
            for (int strength : new int[] {0, 1, 78, 79, 80, 99}) {
                ForgetSchool x = Due.school(0);
                x.weeks(10);
                Due.pupil(x, 0, 1, 1, strength);
                Due.law(x, laws[n]);
                x.weeks(1);
                int want = strength == 0 ? 0 : Math.min(99, strength + due[n]);
                DUE.is("8: " + laws[n] + " of " + strength, x.strength(0, 0), want);
            }
        }
    }

    /** "h what must be HEARD for more than that it is recalled (0 to 999)": 979 are heard at most. */
    private static void boundsOfH() {
        heard("h0-5(1=1)", 99, 9, 99);
        heard("h0(1=1)", 99, 9, 99);
        heard("h879(1=1)", 99, 9, 99);
        heard("h880(1=1)", 99, 9, 99);
        heard("h881(1=1)", 99, 9, 98);
        heard("h977(1=1)", 99, 9, 2);
        heard("h978(1=1)", 99, 9, 1);
        heard("h979(1=1)", 99, 9, 0);
        heard("h980(1=1)", 99, 9, 0);
        heard("h999(1=1)", 99, 9, 0);
        heard("h99999(1=1)", 99, 9, 0);
        heard("h0-99999(1=1)", 10, 1, 11);
        heard("w9(1=1)", 10, 1, 11);
        heard("w9(1=1)", 9, 1, 0);
        heard("h10(1=1)", 10, 1, 1);
        heard("h11(1=1)", 10, 1, 0);
    }

    private static void heard(String law, int strength, int link, int due) {
        ForgetSchool x = Due.school(0, 0, 0, 0, 0, 0, 0, 0, 0, 0, 0, 0);
        x.pupil(0, 1, 1);
        for (int i = 1; i < 12; i++) {
            x.knows(0, i, strength);
            x.link(i, 0, link);
        }
        Due.law(x, law);
        x.weeks(1);
        DUE.is("8: " + law + " where " + 11 * (strength * link / 10) + " are heard", x.strength(0, 0), due);
        DUE.is("8: " + law + ", RECALLED", x.count(2), due > 0 ? 1 : 0);
    }

    /** "of the first CLAUSE of w, s, r, h whose C holds the E". */
    private static void firstThatHolds() {
        taken("w1(1=1);w2(1=1)", 1);
        taken("w1(1=2);w2(1=1);w3(1=1)", 2);
        taken("w0(1=1);w2(1=1)", 0);
        taken("s1(1=1);x(1=2);h3(1=1);r4(1=1);w5(1=1)", 5);
        taken("w1(1=2);w2(1=2);w3(1=2)", 0);
        taken("w1(1=2);".repeat(15) + "w9(1=1)", 9);
    }

    /** "x a FACT is kept (any will do; without an x in THE LAW none is)". */
    private static void kept() {
        taken("w5(1=1);x(1=1)", 0);
        taken("x(1=2);w5(1=1);x(1=2);x(v=99)", 0);
        taken("x(1=2);w5(1=1);x(1=2);x(v=98)", 5);
        taken("w5(1=1);" + "x(1=2);".repeat(14) + "x(1=1)", 0);
        taken("w5(1=1);x(1/0=0)", 5);
        taken("w5(1=1);x(1/0=0);x(1=1)", 0);
        taken("w5(1=1)", 5);
    }

    /** "from the left on", * / % ahead of + -, [ ] ahead of these; PARTS, TESTS. */
    private static void leftToRight() {
        taken("w9-5-3(1=1)", 1);
        taken("w9-5+3(1=1)", 7);
        taken("w99/9/3(1=1)", 3);
        taken("w99/9*3(1=1)", 33);
        taken("w7*9/2(1=1)", 31);
        taken("w7*[9/2](1=1)", 28);
        taken("w99%50%7(1=1)", 0);
        taken("w17%5*2(1=1)", 4);
        taken("w1+2*3(1=1)", 7);
        taken("w2*3+1(1=1)", 7);
        taken("w50-2*3*4-1(1=1)", 25);
        taken("w[50-2]*[3-1]-1(1=1)", 95);
        taken("w9(1=1|1=1&1=2);w1(1=1)", 9);
        taken("w9(1=2&1=1|1=1);w1(1=1)", 9);
        taken("w9(1=2&[1]=1&1=1|1=2);w1(1=1)", 1);
        taken("w9(!1=2&1=2);w1(1=1)", 1);
        taken("w9(!(1=2&1=2));w1(1=1)", 9);
        taken("w9(!1=1|1=1);w1(1=1)", 9);
        taken("w9(!(1=1|1=1));w1(1=1)", 1);
        taken("w9(!!1=1);w1(1=1)", 9);
        taken("w9(!!!1=1);w1(1=1)", 1);
        taken("w9(1+1<2+1);w1(1=1)", 9);
        taken("w9(2<2);w1(1=1)", 1);
        taken("w9(2>2);w1(1=1)", 1);
        taken("w9(2=2);w1(1=1)", 9);
        taken("w9(1<2);w1(1=1)", 9);
        taken("w9(3<2);w1(1=1)", 1);
        taken("w9(3>2);w1(1=1)", 9);
        taken("w9(1>2);w1(1=1)", 1);
        taken("w9(1=2);w1(1=1)", 1);
        taken("w9(0-1<0);w1(1=1)", 9);
    }

    /** "All is reckoned with 32 bits, as the machine does". */
    private static void thirtyTwoBits() {
        taken("w99999*99999-[14098*99999](1=1)", 99);
        taken("w9(99999*99999=65408*21555+[14098*65536+0]*0+[99999*99999-65408*21555]);w1(1=1)", 9);
        taken("w9(65536*65536=0);w1(1=1)", 9);
        taken("w9(65536*32767+65535>0);w1(1=1)", 9);
        taken("w9(65536*32767+65535+1<0);w1(1=1)", 9);
        taken("w9(0-65536*32768=65536*32768);w1(1=1)", 9);
        taken("w9(65536*32768-1>0);w1(1=1)", 9);
        taken("w65536*65536+8(1=1)", 8);
        taken("w9(65536*32768/[0-1]=65536*32768);w1(1=1)", 9);
        taken("w9(65536*32768%[0-1]=0);w1(1=1)", 9);
        taken("w9([0-7]/2=0-3);w1(1=1)", 9);
        taken("w9([0-7]%2=0-1);w1(1=1)", 9);
        taken("w9(7/[0-2]=0-3);w1(1=1)", 9);
        taken("w9(7%[0-2]=1);w1(1=1)", 9);
        taken("w9([0-7]/[0-2]=3);w1(1=1)", 9);
        taken("w9([0-1]/2=0);w1(1=1)", 9);
        taken("w9(0/5=0);w1(1=1)", 9);
        taken("w65536*32768(1=1)", 0);
        taken("w65536*32768-1(1=1)", 99);
    }

    /** "what is divided by 0 is REFUSED: an E is 0". */
    private static void refusedE() {
        taken("w9/0(1=1);w1(1=1)", 0);
        taken("w9%0(1=1);w1(1=1)", 0);
        taken("w0/0(1=1);w1(1=1)", 0);
        taken("w0%0(1=1);w1(1=1)", 0);
        taken("w9+9/0(1=1);w1(1=1)", 0);
        taken("w9/0+9(1=1);w1(1=1)", 0);
        taken("w9/[1-1]+9(1=1);w1(1=1)", 0);
        taken("w9+[7-[3/0]](1=1);w1(1=1)", 0);
        taken("w9+0*[3/0](1=1);w1(1=1)", 0);
        taken("w9/[v-99]+9(1=1);w1(1=1)", 0);
        taken("w9%y+9(1=1);w1(1=1)", 0);
        taken("w65536*32768/[65536*65536]+9(1=1);w1(1=1)", 0);
        taken("w9/1(1=1);w1(1=1)", 9);
        taken("w9/0(1=2);w1(1=1)", 1);
    }

    /** "then the C as a whole does not hold (through any !, ( ) and |)". */
    private static void refusedC() {
        for (String sign : new String[] {"/", "%"}) {
            String bad = "1" + sign + "0=0";
            String badToo = "0=1" + sign + "0";
            for (String test : new String[] {bad, badToo, "[1" + sign + "0]*0=0", "1<1" + sign + "[2-2]"}) {
                taken("w9(" + test + ");w1(1=1)", 1);
                taken("w9(!" + test + ");w1(1=1)", 1);
                taken("w9(!!" + test + ");w1(1=1)", 1);
                taken("w9((" + test + "));w1(1=1)", 1);
                taken("w9(!(" + test + "));w1(1=1)", 1);
                taken("w9((!((" + test + "))));w1(1=1)", 1);
                taken("w9(" + test + "|1=1);w1(1=1)", 1);
                taken("w9((" + test + ")|1=1);w1(1=1)", 1);
                taken("w9(1=2|" + test + "|1=1);w1(1=1)", 1);
                taken("w9(1=1&" + test + "|1=1);w1(1=1)", 1);
                taken("w9(1=1&" + test + ");w1(1=1)", 1);
                taken("w9(!(1=1&" + test + "));w1(1=1)", 1);
                taken("w9(!(1=2|" + test + "));w1(1=1)", 1);
                taken("w9(!(" + test + "|1=1));w1(1=1)", 1);
                taken("x(" + test + ");w1(1=1)", 1);
                taken("x(!" + test + ");w1(1=1)", 1);
            }
        }
    }

    /** "Of a C as much is asked, from the left, as matters." */
    private static void asMuchAsMatters() {
        taken("w9(1=1|1/0=0);w1(1=1)", 9);
        taken("w9(1=1&1=1|1/0=0);w1(1=1)", 9);
        taken("w9(1=2|1=1|1/0=0);w1(1=1)", 9);
        taken("w9(1=2&1/0=0|1=1);w1(1=1)", 9);
        taken("w9(1=2&1/0=0&1/0=0|1=1|1/0=0);w1(1=1)", 9);
        taken("w9(1=1&1=2&1/0=0|1=1);w1(1=1)", 9);
        taken("w9(1=2&1/0=0);w1(1=1)", 1);
        taken("w9(!(1=2&1/0=0));w1(1=1)", 9);
        taken("w9(!(1=1|1/0=0)|1=1);w1(1=1)", 9);
        taken("w9((1=1|1/0=0)&1=1);w1(1=1)", 9);
        taken("w9((1=2&1/0=0)|1=1);w1(1=1)", 9);
        taken("w9((1=1|1/0=0)&1/0=0|1=1);w1(1=1)", 1);
        taken("w9(1=2&(1/0=0|1=1)|1=1);w1(1=1)", 9);
        taken("w9(1=1|(1/0=0));w1(1=1)", 9);
        taken("w9(1=1|!1/0=0);w1(1=1)", 9);
        taken("x(1=1|1/0=0);w1(1=1)", 0);
        // both sides of a TEST are asked
        taken("w9(1/0<0|1=1);w1(1=1)", 1);
        taken("w9(0<1/0|1=1);w1(1=1)", 1);
    }

    /** Texts that fill the 240 bytes are done to their ends. */
    private static void longOnes() {
        taken("w9(" + "1=2|".repeat(56) + "1=1);w1(1=1)", 9);
        taken("w9(" + "1=2|".repeat(56) + "1=2);w1(1=1)", 1);
        taken("w9(" + "1=1&".repeat(56) + "1=1);w1(1=1)", 9);
        taken("w9(" + "1=1&".repeat(56) + "1=2);w1(1=1)", 1);
        taken("w9(" + "1=1&".repeat(55) + "1/0=1);w1(1=1)", 1);
        taken("w9(" + "1=2&1=1|".repeat(28) + "1=1);w1(1=1)", 9);
        taken("w" + "1-1+".repeat(50) + "5(1=1)", 5);
        taken("w" + "n*".repeat(110) + "5(1=1)", 5);
        taken("w0+1*[0+1*[0+1*[0+1*[0+1*[0+1*7]]]]](1=1)", 7);
        taken("w99-[98-[97-[96-[95-[94-[90+3]]]]]](1=1)", 99 - (98 - (97 - (96 - (95 - (94 - 93))))));
        taken("w9(0+1*[0+1*[0+1*[0+1*[0+1*7]]]]=7);w1(1=1)", 9);
        taken("w9(!(!(7=0+1*[0+1*7])));w1(1=1)", 9);
        StringBuilder sixteen = new StringBuilder();
        for (int n = 0; n < 15; n++) {
            sixteen.append("w").append(n).append("(v=").append(n).append(");");
        }
        taken(sixteen + "w42(1=1)", 42);
    }

    /** "(empty then), in place of the one before: ... a FAULT"; a faulty law leaves the one before whole. */
    private static void notChangedByAFault() {
        ForgetSchool x = Due.school(0);
        Due.pupil(x, 0, 1, 1, 99);
        Due.art(x, 0, "a");
        DUE.is("8: told", Due.law(x, "w2(v>90);w1(1=1)"), 2);
        DUE.is("8: a fault at the end", Due.law(x, "w50(1=1);w50(1=1);x(1=1);"), -1025);
        DUE.is("8: a fault in a number", Due.law(x, "w50(1=1);w123456"), -2015);
        DUE.is("8: clauses", x.count(7), 2);
        x.does(0, 0);
        DUE.is("8: the one before holds", x.strength(0, 0), 97);
        DUE.is("8: in place of it", Due.law(x, "w3(1=1)"), 1);
        DUE.is("8: clauses", x.count(7), 1);
        x.does(0, 0);
        DUE.is("8: nothing of it is left", x.strength(0, 0), 94);
        DUE.is("8: a fault again", Due.law(x, "w50(1=1"), -1007);
        x.does(0, 0);
        DUE.is("8: the one before holds", x.strength(0, 0), 91);
    }

    /** "in place of the one before": long laws of one school, with long faults between, leave nothing behind. */
    private static void oneBehindTheOther() {
        ForgetSchool x = Due.school(0);
        x.pupil(0, 1, 1);
        Due.art(x, 0, "a");
        Due.law(x, "w77(1=1)");
        x.copy();
        for (int n = 1; n <= 16; n++) {
            int before = n == 1 ? 77 : n - 1;
            DUE.is("8: fault " + n, Due.law(x, "x(" + "0=0&".repeat(45) + "0=0"), -1185);
            takes(x, "8: the one before stays " + n, before);
            DUE.is("8: law " + n, Due.law(x, "w" + "0+".repeat(50) + n + "(" + "1=2|".repeat(24) + "1=1)"), 1);
            takes(x, "8: in place of it " + n, n);
        }
        x.grade(1, 0);
        x.knows(0, 0, 77);
        DUE.is("13: by the law that was COPIED", x.other(1, 10), 0);
        DUE.is("12: by THE LAW", x.tried(1, 10), 1);
        DUE.is("14: COPIED again", x.copy(), 1);
        DUE.is("8: the last", Due.law(x, "w5(1=1)"), 1);
        x.knows(0, 0, 16);
        DUE.is("13: by the law that was COPIED again", x.other(1, 10), 0);
        DUE.is("12: by THE LAW again", x.tried(1, 10), 1);
    }

    private static void takes(ForgetSchool x, String call, int due) {
        x.knows(0, 0, 99);
        x.does(0, 0);
        DUE.is(call, 99 - x.strength(0, 0), due);
    }

    /** A clause that THE LAW had two laws ago, where the one now has fewer, is asked no more. */
    private static void fewerClausesBehindMore() {
        ForgetSchool x = Due.school(0);
        Due.pupil(x, 0, 1, 1, 99);
        Due.art(x, 0, "a.");
        String few = "s1(1=1&1=1&1=1&1=1)";
        for (String more : new String[] {"s1(1=1);w1+1(1=1)", "x(1=1);x(1=1)", "w1(1=1);w1+1(1=1)", "x(1=1);w1+1(1=1)"}) {
            DUE.is("8: " + more, Due.law(x, more), 2);
            DUE.is("8: between", Due.law(x, "r1(1=1)"), 1);
            DUE.is("8: " + few, Due.law(x, few), 1);
            takes(x, "8: by sleep alone, behind " + more, 1);
        }
    }
}
