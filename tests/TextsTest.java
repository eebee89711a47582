/** Promises 6, 7, 8 and 37: the tape, the texts and their faults. */
public final class TextsTest {
    private static final Due DUE = new Due("TextsTest");

    public static void main(String[] args) {
        tape();
        arts();
        artFaults();
        tooManySteps();
        laws();
        lawFaults();
        lawDepth();
        clauses();
        check();
        DUE.end();
    }

    private static void tape() {
        ForgetSchool x = new ForgetSchool();
        for (int turn = 1; turn <= 13; turn++) {
            DUE.is("6: feed", x.feed(1, 2, 3, 4, 5), 20 * turn);
        }
        DUE.is("6: no more than 260", x.feed(1, 2, 3, 4, 5), -1);
        DUE.is("6: as it was", x.count(8), 260);
        x = Due.school(0, 0, 0, 0, 0, 0, 0, 0, 0, 0, 0, 0);
        Due.pupil(x, 0, 1, 1, 1, 2, 3, 4, 5, 6, 7, 8, 9, 10, 11, 12);
        x.feed(0x01020304, 0x05060708, 0x090a0b0c, -1, -1);
        DUE.is("6: the highest byte first", x.check(0, 12), -1);
    }

    private static void arts() {
        ForgetSchool x = new ForgetSchool();
        DUE.is("7: steps", Due.art(x, 0, "a2.A+b3(cI)"), 11);
        DUE.is("7: told", x.count(20), 11);
        DUE.is("7: the ends", Due.art(x, 1, "alAI.+a+l"), 7);
        DUE.is("7: 2 and 9", Due.art(x, 2, "2a9b"), 11);
        DUE.is("7: no digit", Due.art(x, 3, "((a))"), 1);
        DUE.is("7: two deep", Due.art(x, 4, "2(3(4a)b)(c)"), 27);
        DUE.is("7: 60 bytes", Due.art(x, 5, "(a)".repeat(20)), 20);
        DUE.is("7: in place of it", Due.art(x, 5, "a"), 1);
        DUE.is("7: count", x.count(25), 1);
        Due.feed(x, "ab" + "c".repeat(60));
        DUE.is("7: k -1", x.art(-1, 2), -1);
        DUE.is("7: k 6", x.art(6, 2), -1);
        DUE.is("7: n 0", x.art(0, 0), -1);
        DUE.is("7: n 61", x.art(0, 61), -1);
        DUE.is("7: the tape stays", x.count(8), 80);
        DUE.is("7: the first n", x.art(0, 2), 2);
        DUE.is("7: empty then", x.count(8), 0);
        DUE.is("7: not so many", x.art(0, 1), -1);
        Due.feed(x, "abc");
        DUE.is("7: not so many", x.art(0, 21), -1);
        DUE.is("7: the tape stays", x.count(8), 20);
        DUE.is("7: a blank", x.art(0, 4), -1003);
        DUE.is("7: empty then", x.count(8), 0);
        DUE.is("7: the one before stays", x.count(20), 2);
    }

    private static void artFault(String text, int due) {
        ForgetSchool x = new ForgetSchool();
        DUE.is("7: art " + text, Due.art(x, 0, text), due);
        DUE.is("7: told after " + text, x.count(5), due > 0 ? 1 : 0);
        DUE.is("7: tape after " + text, x.count(8), 0);
    }

    private static void artFaults() {
        artFault("m", -1000);
        artFault("J", -1000);
        artFault("`", -1000);
        artFault("@", -1000);
        artFault("1a", -1000);
        artFault("0a", -1000);
        artFault("23a", -1001);
        artFault("2", -1001);
        artFault("+", -1001);
        artFault("+A", -1001);
        artFault("+2a", -1001);
        artFault("+.", -1001);
        artFault("+m", -1001);
        artFault("2+a", 2);
        artFault("()", -1001);
        artFault("(", -1001);
        artFault("(a", -1002);
        artFault("a(b", -1003);
        artFault(")", -1000);
        artFault("a)", -1001);
        artFault("(a))", -1003);
        artFault("2)", -1001);
        artFault("(2)", -1002);
        artFault("(((", -5002);
        artFault("((2(a)))", -5003);
        artFault("((a)((", -5005);
        artFault("((a)(b))(c)", 3);
        artFault("\u0000a", -1000);
        artFault("a\u00ff", -1001);
    }

    private static void tooManySteps() {
        artFault("a".repeat(48), 48);
        artFault("a".repeat(49), -6048);
        artFault("a".repeat(48) + "2", -1049);
        artFault("a".repeat(48) + "+", -1049);
        artFault("a".repeat(48) + "+b", -6048);
        artFault("a".repeat(48) + "2+b", -6048);
        artFault("8(6a)", 48);
        artFault("7(7a)", -6000);
        artFault("7(7a", -1004);
        artFault("b6(8a)", -6001);
        artFault("9a9a9a9a9a9a", -6010);
        artFault("(9a9a9a9a9a9a)", -6011);
        artFault("2(9a9a9a)", -6000);
        artFault("2(9a9a9a", -1008);
        artFault("2(9a9a9a(", -1009);
        artFault("9(9(9a))", -6002);
        artFault("3(8(2a))", 48);
        artFault("a3(8(2a))", -6001);
        artFault("9(9(5a)z", -1007);
        artFault("3(9(2a)z", -1007);
        // an inner one by which all the steps so far are more than 48
        artFault("9a9a9a9a(9a9a)", -6011);
        artFault("9a9a9a9a9a(3ab)", -6013);
    }

    private static void law(String text, int due) {
        ForgetSchool x = new ForgetSchool();
        Due.law(x, "x(1=2)");
        DUE.is("8: law " + text, Due.law(x, text), due);
        DUE.is("8: clauses after " + text, x.count(7), due > 0 ? due : 1);
        DUE.is("8: tape after " + text, x.count(8), 0);
    }

    private static void laws() {
        law("w1(1=1)", 1);
        law("w10+v/4(p=0);w5(1=1);s7(k<1);s2(1=1);r3(1=1);h10(v=0&a<50);h40(1=1);x(f=2&p=0|k=8)", 8);
        law("h[f+k]*[v-p]%c/a+n-y(f<1|k>2&v=3|!p<4&!(c>5|a=6)&n<7&(y>8))", 1);
        law("w00000(00001=99999)", 1);
        law("x([[1]]=[f])", 1);
        law("w1(1=1);".repeat(15) + "w1(1=1)", 16);
        law("w" + "1+".repeat(116) + "1(1=1)", 1);
        ForgetSchool x = new ForgetSchool();
        Due.feed(x, "x(1=1)" + "?".repeat(240));
        DUE.is("8: n 0", x.law(0), -1);
        DUE.is("8: n 241", x.law(241), -1);
        DUE.is("8: n -1", x.law(-1), -1);
        DUE.is("8: the tape stays", x.count(8), 260);
        DUE.is("8: the first n", x.law(6), 1);
        DUE.is("8: empty then", x.count(8), 0);
        DUE.is("8: not so many", x.law(1), -1);
        Due.feed(x, "x(1=1)");
        DUE.is("8: not so many", x.law(21), -1);
        DUE.is("8: the tape stays", x.count(8), 20);
    }

    private static void lawFaults() {
        law("q1(1=1)", -1000);
        law("W1(1=1)", -1000);
        law("w(1=1)", -1001);
        law("w", -1001);
        law("x", -1001);
        law("x1(1=1)", -1001);
        law("w1", -1002);
        law("w1;", -1002);
        law("w1(", -1003);
        law("w1()", -1003);
        law("w1(1", -1004);
        law("w1(1)", -1004);
        law("w1(1=", -1005);
        law("w1(1=)", -1005);
        law("w1(1=1", -1006);
        law("w1(1=1=1)", -1006);
        law("w1(1=1);", -1008);
        law("w1(1=1),", -1007);
        law("w1(1=1)w1(1=1)", -1007);
        law("w1(1=1&)", -1007);
        law("w1(1=1|)", -1007);
        law("w1(|1=1)", -1003);
        law("w1(!)", -1004);
        law("w1((1=1)", -1008);
        law("w1((1=1))", 1);
        law("w1((1)=1)", -1005);
        law("w1([1=1])", -1005);
        law("w1([1]=1)", 1);
        law("w[](1=1)", -1002);
        law("w[1(1=1)", -1003);
        law("w1](1=1)", -1002);
        law("w1+(1=1)", -1003);
        law("w-1(1=1)", -1001);
        law("w1--1(1=1)", -1003);
        law("w(1)(1=1)", -1001);
        law("w1(b=1)", -1003);
        law("w1(w=1)", -1003);
        law("w1(1<=1)", -1005);
        law("w1(1!1)", -1004);
        law("w1 (1=1)", -1002);
        law("w1f(1=1)", -1002);
        law("w12345(1=1)", 1);
        law("w123456(1=1)", -2006);
        law("w1(1=000001)", -2010);
        law("w12345", -1006);
        law("w\u00e9(1=1)", -1001);
    }

    private static void lawDepth() {
        law("w[[[[[[1]]]]]](1=1)", 1);
        law("w[[[[[[[1]]]]]]](1=1)", -5007);
        law("w1(([[[[1]]]]=1))", 1);
        law("w1(([[[[[1]]]]]=1))", -5008);
        law("w1((((((1=1))))))", 1);
        law("w1(((((((1=1)))))))", -5008);
        law("w1(!!!!!1=1)", 1);
        law("w1(!!!!!!1=1)", -5008);
        law("w1(!!!!![1]=1)", -5008);
        law("w1(!!!!!1=[1])", -5010);
        law("w1(!!!!1=[1])", 1);
        law("w1(!!!!!1=1&[1]=1)", 1);
        law("w1(!(!(!1=1)))", 1);
        law("w1(!(!(![1]=1)))", -5008);
        law("x(!!!!!1=1|!!!!!1=1&((((1=1)))))", 1);
        law("w1((((((1=1)))))&(((((1=1))))))", 1);
        law("w[1]+[2]+[3]+[4]+[5]+[6]+[7]([1]=1)", 1);
    }

    private static void clauses() {
        String many = "x(1=1);".repeat(16);
        law(many + "x(1=1)", -4112);
        law(many + "w", -4112);
        law(many + "q", -1112);
        law(many, -1112);
        law(many + ";", -1112);
        law("x(1=1);".repeat(15) + "x(1=1)q", -1111);
    }

    private static void check() {
        ForgetSchool x = Due.school(0, -1, 0);
        Due.pupil(x, 0, 1, 1, 5, 0, 99);
        DUE.is("37: right", Due.check(x, 0, 5, 0, 99), -1);
        DUE.is("37: empty then", x.count(8), 0);
        DUE.is("37: the first that is not so", Due.check(x, 0, 5, 0, 98), 2);
        DUE.is("37: not told counts 0", Due.check(x, 0, 5, 1, 98), 1);
        DUE.is("37: 0", Due.check(x, 0, 0), 0);
        DUE.is("37: a byte above 99", Due.check(x, 0, 5, 0, 255), 2);
        DUE.is("37: twelve", Due.check(x, 0, 5, 0, 99, 0, 0, 0, 0, 0, 0, 0, 0, 0), -1);
        DUE.is("37: twelve", Due.check(x, 0, 5, 0, 99, 0, 0, 0, 0, 0, 0, 0, 0, 3), 11);
        DUE.is("37: empty then", x.count(8), 0);
        DUE.is("37: of none", x.check(0, 0), -1);
        DUE.is("37: not so many", x.check(0, 1), -2);
        Due.feed(x, 5);
        DUE.is("37: n 13", x.check(0, 13), -2);
        DUE.is("37: n -1", x.check(0, -1), -2);
        DUE.is("37: pupil not told", x.check(1, 1), -2);
        DUE.is("37: pupil 8", x.check(8, 1), -2);
        DUE.is("37: the tape stays", x.count(8), 20);
        DUE.is("37: of none", x.check(0, 0), -1);
        DUE.is("37: empty then", x.count(8), 0);
    }
}
