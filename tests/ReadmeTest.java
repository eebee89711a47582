/** The example of README.md, call by call: what it says behind each is so. */
public final class ReadmeTest {
    private static final Due DUE = new Due("ReadmeTest");

    public static void main(String[] args) {
        ForgetSchool school = new ForgetSchool();
        DUE.is("a is told", school.fact(0, 2), true);
        DUE.is("b is told", school.fact(1, 2), true);
        DUE.is("a recalls b", school.link(0, 1, 5), true);
        DUE.is("pupil 0", school.pupil(0, 1, 10), true);
        DUE.is("it knows a", school.knows(0, 0, 40), true);
        DUE.is("a2. and others", school.feed(0x61322e20, 0, 0, 0, 0), 20);
        DUE.is("art 0", school.art(0, 3), 3);
        DUE.is("class 1 has art 0", school.grade(1, 0), true);
        DUE.is("w9(v>5);h10(1=1)", school.feed(0x77392876, 0x3e35293b, 0x68313028, 0x313d3129, 0), 20);
        DUE.is("the law", school.law(16), 2);
        DUE.is("a and b are asked", school.exam(3, 0), true);
        DUE.is("how many facts pupil 0 knows in a week", school.tried(1, 10), 2);
        DUE.is("how often art 0, till a is gone", school.order(0, 1, 1, 0, 20), 4);
        DUE.is("exams passed", school.weeks(4), 1);
        DUE.is("its class", school.pupilIs(0, 0), 2);
        DUE.is("61 weeks are refused", school.weeks(61), ForgetSchool.NONE);
        DUE.end();
    }
}
