/** What the tests share: answers are held against what is due, and texts are fed. */
final class Due {
    private final String name;
    private int wrong = 0;
    private int asked = 0;

    Due(String name) {
        this.name = name;
    }

    void is(String call, long got, long want) {
        asked++;
        if (got != want) {
            wrong++;
            System.out.println(name + ": " + call + " answered " + got + ", due is " + want);
        }
    }

    void is(String call, boolean got, boolean want) {
        is(call, got ? 1 : 0, want ? 1 : 0);
    }

    int asked() {
        return asked;
    }

    void end() {
        System.out.println(name + ": " + asked + " answers, " + wrong + " not as due");
        if (wrong != 0) {
            System.exit(1);
        }
    }

    static void feed(ForgetSchool x, String text) {
        int[] bytes = new int[text.length()];
        for (int i = 0; i < bytes.length; i++) {
            bytes[i] = text.charAt(i);
        }
        feed(x, bytes);
    }

    static void feed(ForgetSchool x, int... bytes) {
        for (int at = 0; at < bytes.length; at += 20) {
            int[] five = new int[5];
            for (int i = 0; i < 20; i++) {
                int one = at + i < bytes.length ? bytes[at + i] : 32;
                five[i / 4] = five[i / 4] << 8 | one & 255;
            }
            x.feed(five[0], five[1], five[2], five[3], five[4]);
        }
    }

    static int law(ForgetSchool x, String text) {
        feed(x, text);
        return x.law(text.length());
    }

    static int art(ForgetSchool x, int k, String text) {
        feed(x, text);
        return x.art(k, text.length());
    }

    static int check(ForgetSchool x, int p, int... bytes) {
        feed(x, bytes);
        return x.check(p, bytes.length);
    }

    static int hummed(ForgetSchool x, int least, int what, int... facts) {
        feed(x, facts);
        return x.hummed(facts.length, least, what);
    }

    /** A school with these facts, the kind of each as told. */
    static ForgetSchool school(int... kinds) {
        ForgetSchool x = new ForgetSchool();
        for (int i = 0; i < kinds.length; i++) {
            if (kinds[i] >= 0) {
                x.fact(i, kinds[i]);
            }
        }
        return x;
    }

    /** A pupil with strengths for the first facts. */
    static void pupil(ForgetSchool x, int p, int grade, int age, int... strengths) {
        x.pupil(p, grade, age);
        for (int i = 0; i < strengths.length; i++) {
            x.knows(p, i, strengths[i]);
        }
    }
}
