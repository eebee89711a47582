import java.math.BigInteger;
import java.util.ArrayList;
import java.util.Arrays;
import java.util.List;

/** The document written a second time, in other ways and without care for speed, to hold answers against. */
final class Model {
    static final class Refused extends RuntimeException {
        Refused() {
            super(null, null, false, false);
        }
    }

    static final class Fault extends RuntimeException {
        final int answer;

        Fault(int number, int place) {
            super(null, null, false, false);
            answer = -1000 * number - place;
        }
    }

    interface Node {
        int eval(int[] about);
    }

    record Clause(char letter, Node amount, Node holds) { }

    /** Reads a law as a tree. */
    static final class LawText {
        final String s;
        int at = 0;

        LawText(String s) {
            this.s = s;
        }

        char peek() {
            return at < s.length() ? s.charAt(at) : (char) 1;
        }

        void eat(char c) {
            if (peek() != c) throw new Fault(1, at);
            at++;
        }

        List<Clause> all() {
            List<Clause> list = new ArrayList<>();
            while (true) {
                char letter = peek();
                if ("wsrhx".indexOf(letter) < 0) throw new Fault(1, at);
                if (list.size() == 16) throw new Fault(4, at);
                at++;
                Node amount = letter == 'x' ? null : e(0);
                eat('(');
                Node holds = c(1);
                eat(')');
                list.add(new Clause(letter, amount, holds));
                if (at == s.length()) return list;
                eat(';');
            }
        }

        void open(int open) {
            if (open == 6) throw new Fault(5, at);
            at++;
        }

        Node c(int open) {
            Node left = part(open);
            while (peek() == '|') {
                at++;
                Node a = left;
                Node b = part(open);
                left = v -> a.eval(v) != 0 || b.eval(v) != 0 ? 1 : 0;
            }
            return left;
        }

        Node part(int open) {
            Node left = test(open);
            while (peek() == '&') {
                at++;
                Node a = left;
                Node b = test(open);
                left = v -> a.eval(v) != 0 && b.eval(v) != 0 ? 1 : 0;
            }
            return left;
        }

        Node test(int open) {
            if (peek() == '!') {
                open(open);
                Node a = test(open + 1);
                return v -> a.eval(v) != 0 ? 0 : 1;
            }
            if (peek() == '(') {
                open(open);
                Node a = c(open + 1);
                eat(')');
                return a;
            }
            Node a = e(open);
            char sign = peek();
            if ("<>=".indexOf(sign) < 0) throw new Fault(1, at);
            at++;
            Node b = e(open);
            return v -> {
                int l = a.eval(v);
                int r = b.eval(v);
                return (sign == '<' ? l < r : sign == '>' ? l > r : l == r) ? 1 : 0;
            };
        }

        Node e(int open) {
            Node left = term(open);
            while (peek() == '+' || peek() == '-') {
                char sign = peek();
                at++;
                Node a = left;
                Node b = term(open);
                left = v -> {
                    int l = a.eval(v);
                    int r = b.eval(v);
                    return sign == '+' ? l + r : l - r;
                };
            }
            return left;
        }

        Node term(int open) {
            Node left = factor(open);
            while (peek() == '*' || peek() == '/' || peek() == '%') {
                char sign = peek();
                at++;
                Node a = left;
                Node b = factor(open);
                left = v -> {
                    int l = a.eval(v);
                    int r = b.eval(v);
                    if (sign == '*') return l * r;
                    if (r == 0) throw new Refused();
                    return sign == '/' ? l / r : l % r;
                };
            }
            return left;
        }

        Node factor(int open) {
            char sign = peek();
            if (sign == '[') {
                open(open);
                Node a = e(open + 1);
                eat(']');
                return a;
            }
            int letter = "fkvpcany".indexOf(sign);
            if (letter >= 0) {
                at++;
                return v -> v[letter];
            }
            if (sign < '0' || sign > '9') throw new Fault(1, at);
            int start = at;
            while (peek() >= '0' && peek() <= '9') {
                if (at == start + 5) throw new Fault(2, at);
                at++;
            }
            int number = Integer.parseInt(s.substring(start, at));
            return v -> number;
        }
    }

    /** Reads an art: its steps as "a", "B", ".", "+c". */
    static List<String> artSteps(String s) {
        int[] at = {0};
        List<String> all = new ArrayList<>();
        artList(s, at, all, 0);
        if (at[0] < s.length()) throw new Fault(1, at[0]);
        return all;
    }

    static void artList(String s, int[] at, List<String> all, int open) {
        do {
            int start = at[0];
            int times = 1;
            String rest = s.substring(at[0]);
            if (rest.matches("(?s)[2-9].*")) {
                times = rest.charAt(0) - '0';
                at[0]++;
                rest = rest.substring(1);
            }
            List<String> had = new ArrayList<>(all);
            if (rest.startsWith("(")) {
                if (open == 2) throw new Fault(5, at[0]);
                at[0]++;
                artList(s, at, all, open + 1);
                if (at[0] >= s.length() || s.charAt(at[0]) != ')') throw new Fault(1, at[0]);
                at[0]++;
            } else if (rest.matches("(?s)[a-lA-I.].*")) {
                all.add(rest.substring(0, 1));
                at[0]++;
            } else if (rest.matches("(?s)\\+[a-l].*")) {
                all.add(rest.substring(0, 2));
                at[0] += 2;
            } else {
                throw new Fault(1, at[0] + (rest.startsWith("+") ? 1 : 0));
            }
            List<String> one = new ArrayList<>(all.subList(had.size(), all.size()));
            for (int t = 1; t < times; t++) all.addAll(one);
            if (all.size() > 48) throw new Fault(6, start);
        } while (at[0] < s.length() && s.charAt(at[0]) != ')');
    }

    /** What is kept and undone. */
    static final class State implements Cloneable {
        boolean[] told = new boolean[8];
        int[] grade = new int[8];
        int[] age = new int[8];
        int[][] v = new int[8][12];
        int week = 0;
        int passed = 0;
        int recalled = 0;
        int x = 1;
        int out = 0;
        int remembered = 0;

        State same() {
            State s = new State();
            s.told = told.clone();
            s.grade = grade.clone();
            s.age = age.clone();
            for (int p = 0; p < 8; p++) s.v[p] = v[p].clone();
            s.week = week;
            s.passed = passed;
            s.recalled = recalled;
            s.x = x;
            return s;
        }

        int knows(int p) {
            int n = 0;
            for (int one : v[p]) if (one > 0) n++;
            return n;
        }

        int bits(int p) {
            int bits = 0;
            for (int i = 0; i < 12; i++) if (v[p][i] > 0) bits += 1 << i;
            return bits;
        }
    }

    State now = new State();
    State saved = null;
    boolean[] fact = new boolean[12];
    int[] kindOf = new int[12];
    int[][] links = new int[12][12];
    List<List<String>> arts = new ArrayList<>(Arrays.asList(null, null, null, null, null, null));
    int[] classArt = {-1, -1, -1, -1, -1, -1, -1, -1, -1, -1};
    int asked = 0;
    int limit = 0;
    List<Clause> rules = new ArrayList<>();
    List<Clause> copied = new ArrayList<>();
    int[][] mind = new int[8][8];
    boolean[] master = new boolean[5];
    int[][] able = new int[5][6];
    List<Integer> tape = new ArrayList<>();

    boolean f(int i) {
        return i >= 0 && i < 12 && fact[i];
    }

    boolean pup(int p) {
        return p >= 0 && p < 8 && now.told[p];
    }

    boolean ok(int n, int a, int b) {
        return a <= n && n <= b;
    }

    boolean artTold(int k) {
        return ok(k, 0, 5) && arts.get(k) != null;
    }

    List<Integer> members(int bits) {
        List<Integer> list = new ArrayList<>();
        for (int i = 0; i < 32; i++) if ((bits >>> i & 1) == 1) list.add(i);
        return list;
    }

    boolean allFacts(int bits) {
        for (int i : members(bits)) if (!f(i)) return false;
        return true;
    }

    boolean fact(int i, int kind) {
        if (!ok(i, 0, 11) || !ok(kind, 0, 8)) return false;
        fact[i] = true;
        kindOf[i] = kind;
        return true;
    }

    boolean link(int i, int j, int n) {
        if (!f(i) || !f(j) || i == j || !ok(n, 0, 9)) return false;
        links[i][j] = n;
        return true;
    }

    boolean pupil(int p, int grade, int age) {
        if (!ok(p, 0, 7) || !ok(grade, 1, 9) || !ok(age, 0, 99)) return false;
        now.told[p] = true;
        now.grade[p] = grade;
        now.age[p] = age;
        now.v[p] = new int[12];
        return true;
    }

    boolean knows(int p, int i, int n) {
        if (!pup(p) || !f(i) || !ok(n, 0, 99)) return false;
        now.v[p][i] = n;
        return true;
    }

    int feed(int... words) {
        if (tape.size() + 20 > 260) return -1;
        for (int w : words) for (int k = 3; k >= 0; k--) tape.add(w >>> 8 * k & 255);
        return tape.size();
    }

    String read(int n) {
        StringBuilder s = new StringBuilder();
        for (int i = 0; i < n; i++) s.append((char) (int) tape.get(i));
        tape.clear();
        return s.toString();
    }

    int art(int k, int n) {
        if (!ok(k, 0, 5) || !ok(n, 1, 60) || tape.size() < n) return -1;
        try {
            List<String> steps = artSteps(read(n).replace('\n', ' '));
            arts.set(k, steps);
            return steps.size();
        } catch (Fault fault) {
            return fault.answer;
        }
    }

    int law(int n) {
        if (!ok(n, 1, 240) || tape.size() < n) return -1;
        try {
            rules = new LawText(read(n)).all();
            return rules.size();
        } catch (Fault fault) {
            return fault.answer;
        }
    }

    boolean grade(int c, int k) {
        if (!ok(c, 1, 9) || !ok(k, -1, 5)) return false;
        classArt[c] = k;
        return true;
    }

    boolean exam(int facts, int n) {
        if (!ok(facts, 0, 4095) || !ok(n, 0, 12)) return false;
        asked = facts;
        limit = n;
        return true;
    }

    int[] about(State s, int p, int i) {
        return new int[] {i, kindOf[i], s.v[p][i], p, s.grade[p], s.age[p], s.knows(p), s.week % 52};
    }

    boolean holds(Clause clause, int[] about) {
        try {
            return clause.holds.eval(about) != 0;
        } catch (Refused refused) {
            return false;
        }
    }

    int by(List<Clause> law, char letter, State s, int p, int i) {
        int most = letter == 'r' ? 20 : letter == 'h' ? 999 : 99;
        int[] about = about(s, p, i);
        for (Clause clause : law) {
            if (clause.letter == letter && holds(clause, about)) {
                try {
                    int n = clause.amount.eval(about);
                    return n < 0 ? 0 : n > most ? most : n;
                } catch (Refused refused) {
                    return 0;
                }
            }
        }
        return 0;
    }

    boolean isKept(List<Clause> law, State s, int p, int i) {
        int[] about = about(s, p, i);
        return law.stream().anyMatch(clause -> clause.letter == 'x' && holds(clause, about));
    }

    void doArt(List<Clause> law, State s, int p, List<String> steps) {
        for (String step : steps) {
            char c = step.charAt(0);
            if (c == '+') {
                int i = step.charAt(1) - 'a';
                if (fact[i]) s.v[p][i] = Math.min(99, s.v[p][i] + by(law, 's', s, p, i));
            } else if (c >= 'a') {
                int i = c - 'a';
                if (s.v[p][i] > 0 && !isKept(law, s, p, i)) {
                    s.v[p][i] = Math.max(0, s.v[p][i] - by(law, 'w', s, p, i));
                }
            } else {
                for (int i = 0; i < 12; i++) {
                    boolean meant = c == '.' || kindOf[i] == c - 'A';
                    if (meant && s.v[p][i] > 0 && !isKept(law, s, p, i)) {
                        s.v[p][i] = c == '.' ? s.v[p][i] - 1 : s.v[p][i] / 2;
                    }
                }
            }
        }
    }

    int sound(State s, int p, int i) {
        int sum = 0;
        for (int j = 0; j < 12; j++) sum += s.v[p][j] * links[j][i] / 10;
        return sum;
    }

    int recall(List<Clause> law, State s, int p) {
        int count = 0;
        for (int i = 0; i < 12; i++) {
            if (!fact[i] || s.v[p][i] != 0) continue;
            int heard = sound(s, p, i);
            int h = by(law, 'h', s, p, i);
            if (heard > h) {
                s.v[p][i] = Math.min(99, heard - h);
                s.recalled++;
                count++;
            }
        }
        return count;
    }

    void week(List<Clause> law, State s) {
        if (s.week == 9999) return;
        for (int p = 0; p < 8; p++) {
            if (!s.told[p] || s.grade[p] == 10) continue;
            int m = s.week % 12;
            if (m == 10 || m == 11) {
                for (int i = 0; i < 12; i++) {
                    if (s.v[p][i] > 0) s.v[p][i] = Math.min(99, s.v[p][i] + by(law, 'r', s, p, i));
                }
            } else if (artTold(classArt[s.grade[p]])) {
                doArt(law, s, p, arts.get(classArt[s.grade[p]]));
            }
            recall(law, s, p);
            if ((m == 3 || m == 7 || m == 11) && asked > 0) {
                int right = 0;
                for (int i = 0; i < 12; i++) {
                    if (fact[i] && (asked >> i & 1) == 1) {
                        s.x = (int) ((25173L * s.x + 13849) % 65536);
                        if (s.x % 10 < Math.ceil(s.v[p][i] / 10.0)) right++;
                    }
                }
                s.remembered += right;
                if (right <= limit) {
                    s.passed++;
                    s.grade[p]++;
                    if (s.grade[p] == 10) s.out++;
                }
            }
        }
        s.week++;
    }

    int weeks(int n) {
        if (!ok(n, 1, 60)) return -1;
        int before = now.passed;
        for (int w = 0; w < n; w++) week(rules, now);
        return now.passed - before;
    }

    int byLaw(List<Clause> law, int n, int what) {
        boolean known = ok(what, 0, 3) || ok(what, 10, 17) && pup(what - 10) || ok(what, 20, 27) && pup(what - 20)
                || ok(what, 30, 41) && f(what - 30);
        if (!ok(n, 1, 60) || !known) return -1;
        State s = now.same();
        for (int w = 0; w < n; w++) week(law, s);
        if (what == 0) return s.passed - now.passed;
        if (what == 1) return s.out;
        if (what == 2) return s.recalled - now.recalled;
        if (what == 3) return s.remembered;
        if (what < 20) return s.knows(what - 10);
        if (what < 30) return s.grade[what - 20];
        int count = 0;
        for (int p = 0; p < 8; p++) if (s.told[p] && s.v[p][what - 30] > 0) count++;
        return count;
    }

    int tried(int n, int what) {
        return byLaw(rules, n, what);
    }

    int other(int n, int what) {
        return byLaw(copied, n, what);
    }

    int copy() {
        copied = rules;
        return copied.size();
    }

    int first(int n, int i, int what) {
        if (!ok(n, 1, 60) || !f(i) || !ok(what, 0, 1)) return -1;
        State s = now.same();
        for (int w = 1; w <= n; w++) {
            week(rules, s);
            for (int p = 0; p < 8; p++) {
                if (pup(p) && now.v[p][i] > 0 && s.v[p][i] == 0) return what == 0 ? p : w;
            }
        }
        return -2;
    }

    int does(int p, int k) {
        if (!pup(p) || !artTold(k)) return -1;
        doArt(rules, now, p, arts.get(k));
        return now.knows(p);
    }

    int pupilIs(int p, int what) {
        if (!pup(p) || !ok(what, 0, 4)) return -1;
        int sum = 0;
        int best = -2;
        for (int i = 11; i >= 0; i--) {
            sum += now.v[p][i];
            if (now.v[p][i] > 0 && (best < 0 || now.v[p][i] >= now.v[p][best])) best = i;
        }
        return new int[] {now.grade[p], now.age[p], now.bits(p), best, sum}[what];
    }

    int strength(int p, int i) {
        return pup(p) && f(i) ? now.v[p][i] : -1;
    }

    int heard(int p, int i) {
        return pup(p) && f(i) ? sound(now, p, i) : -1;
    }

    int order(int p, int bits, int gone, int kept, int what) {
        List<Integer> row = members(bits);
        if (!pup(p) || row.isEmpty() || row.size() > 4 || !row.stream().allMatch(this::artTold)) return -1;
        if (!allFacts(gone) || !allFacts(kept) || (gone & kept) != 0) return -1;
        for (int length = 0; length <= 5; length++) {
            List<Integer> found = deepen(now, p, row, gone, kept, length);
            if (found != null) {
                if (what == 20) return length;
                return ok(what, 0, length - 1) ? found.get(what) : -4;
            }
        }
        return -2;
    }

    List<Integer> deepen(State s, int p, List<Integer> row, int gone, int kept, int left) {
        if (left == 0) {
            int known = s.bits(p);
            return (known & gone) == 0 && (known & kept) == kept ? new ArrayList<>() : null;
        }
        for (int k : row) {
            State next = s.same();
            doArt(rules, next, p, arts.get(k));
            recall(rules, next, p);
            List<Integer> found = deepen(next, p, row, gone, kept, left - 1);
            if (found != null) {
                found.add(0, k);
                return found;
            }
        }
        return null;
    }

    int still(int p, int k, int what) {
        if (!pup(p) || !artTold(k) || !ok(what, 0, 1)) return -1;
        State s = now.same();
        for (int t = 0; t <= 200; t++) {
            State next = s.same();
            doArt(rules, next, p, arts.get(k));
            recall(rules, next, p);
            if (Arrays.equals(next.v[p], s.v[p])) return what == 0 ? t : s.knows(p);
            s = next;
        }
        return -2;
    }

    boolean[][] closure(int without) {
        boolean[][] r = new boolean[12][12];
        for (int i = 0; i < 12; i++) {
            for (int j = 0; j < 12; j++) r[i][j] = links[i][j] > 0 && (without >> i & 1) == 0 && (without >> j & 1) == 0;
        }
        for (int m = 0; m < 12; m++) {
            for (int i = 0; i < 12; i++) {
                for (int j = 0; j < 12; j++) r[i][j] |= r[i][m] && r[m][j];
            }
        }
        return r;
    }

    int cut(int i, int j, int what) {
        if (!f(i) || !f(j) || i == j || !ok(what, 0, 1)) return -1;
        if (links[i][j] > 0) return -2;
        int best = -1;
        for (int mask = 0; mask < 4096; mask++) {
            if ((mask >> i & 1) == 1 || (mask >> j & 1) == 1) continue;
            if (best >= 0 && Integer.bitCount(mask) >= Integer.bitCount(best)) continue;
            if (!closure(mask)[i][j]) best = mask;
        }
        return what == 0 ? Integer.bitCount(best) : best;
    }

    int recalls(int i) {
        if (!f(i)) return -1;
        int bits = 0;
        for (int j = 0; j < 12; j++) if (closure(0)[i][j]) bits |= 1 << j;
        return bits;
    }

    int root() {
        int best = -2;
        for (int i = 11; i >= 0; i--) {
            if (f(i) && (best < 0 || Integer.bitCount(recalls(i)) >= Integer.bitCount(recalls(best)))) best = i;
        }
        return best;
    }

    int kin(int what) {
        boolean[][] r = closure(0);
        int[] group = new int[12];
        for (int i = 0; i < 12; i++) {
            for (int j = 0; j < 12; j++) if (i == j || r[i][j] && r[j][i]) group[i] |= 1 << j;
        }
        if (what == 100) {
            List<Integer> all = new ArrayList<>();
            for (int i = 0; i < 12; i++) if (f(i) && !all.contains(group[i])) all.add(group[i]);
            return all.size();
        }
        return f(what) ? group[what] : -1;
    }

    boolean pupils(int bits) {
        List<Integer> list = members(bits);
        return list.size() >= 2 && list.stream().allMatch(this::pup);
    }

    int questions(int bits, int what) {
        if (!pupils(bits) || !ok(what, 0, 1)) return -1;
        for (int size = 0; size <= 12; size++) {
            for (int mask = 0; mask < 4096; mask++) {
                if (Integer.bitCount(mask) != size || !allFacts(mask)) continue;
                List<Integer> seen = new ArrayList<>();
                boolean good = true;
                for (int p : members(bits)) {
                    good &= !seen.contains(now.bits(p) & mask);
                    seen.add(now.bits(p) & mask);
                }
                if (good) return what == 0 ? size : mask;
            }
        }
        return -2;
    }

    boolean reminds(int p, int q, int n) {
        if (!pup(p) || !pup(q) || p == q || !ok(n, 0, 99)) return false;
        mind[Math.min(p, q)][Math.max(p, q)] = n;
        return true;
    }

    int parted(int bits, int what) {
        if (!pupils(bits) || !ok(what, 0, 1)) return -1;
        List<Integer> list = members(bits);
        int best = -1;
        int least = 1 << 30;
        for (int room = 1; room < 256; room++) {
            if ((room & ~bits) != 0 || (room >> list.get(0) & 1) == 1) continue;
            int sum = 0;
            for (int p : list) for (int q : list) if (p < q && (room >> p & 1) == (room >> q & 1)) sum += mind[p][q];
            if (sum < least) {
                least = sum;
                best = room;
            }
        }
        return what == 0 ? least : best;
    }

    boolean skill(int m, int k, int n) {
        if (!ok(m, 0, 4) || !ok(k, 0, 5) || !ok(n, 0, 99)) return false;
        master[m] = true;
        able[m][k] = n;
        return true;
    }

    int taught(int masters, int bits, int what) {
        List<Integer> ms = members(masters);
        List<Integer> ks = members(bits);
        if (ms.size() != ks.size() || ms.isEmpty()) return -1;
        if (!ms.stream().allMatch(m -> m < 5 && master[m]) || !ks.stream().allMatch(k -> k < 6)) return -1;
        if (what != 20 && !ks.contains(what)) return -1;
        int[] most = {-1};
        List<Integer> best = new ArrayList<>();
        arrange(ms, ks, new ArrayList<>(), most, best);
        return what == 20 ? most[0] : best.get(ks.indexOf(what));
    }

    void arrange(List<Integer> ms, List<Integer> ks, List<Integer> row, int[] most, List<Integer> best) {
        if (row.size() == ks.size()) {
            int sum = 0;
            for (int i = 0; i < row.size(); i++) sum += able[row.get(i)][ks.get(i)];
            if (sum > most[0]) {
                most[0] = sum;
                best.clear();
                best.addAll(row);
            }
            return;
        }
        for (int m : ms) {
            if (row.contains(m)) continue;
            row.add(m);
            arrange(ms, ks, row, most, best);
            row.remove(row.size() - 1);
        }
    }

    int hummed(int n, int least, int what) {
        if (!ok(n, 1, 6) || !ok(least, 1, 9) || !ok(what, 0, 1) || tape.size() < n) return -1;
        for (int i = 0; i < n; i++) if (tape.get(i) > 11) return -1;
        String s = read(n);
        for (int i = 0; i < n; i++) if (!f(s.charAt(i))) return -2;
        int[] found = {0, 4095};
        hum(s, 0, least, 0, found);
        return what == 0 ? found[0] : found[0] == 0 ? 0 : found[1];
    }

    void hum(String s, int at, int least, int had, int[] found) {
        int one = s.charAt(at);
        int bits = had | 1 << one;
        if (at == s.length() - 1) {
            found[0]++;
            found[1] &= bits;
            return;
        }
        int next = s.charAt(at + 1);
        if (links[one][next] >= least) hum(s, at + 1, least, bits, found);
        for (int m = 0; m < 12; m++) {
            if (links[one][m] >= least && links[m][next] >= least) hum(s, at + 1, least, bits | 1 << m, found);
        }
    }

    int odds(int p, int facts, int n, int what) {
        List<Integer> list = members(facts);
        if (!pup(p) || !allFacts(facts) || list.size() > 8 || !ok(n, 0, 12) || !ok(what, 0, 1)) return -1;
        BigInteger above = BigInteger.ZERO;
        BigInteger below = BigInteger.TEN.pow(list.size());
        for (int set = 0; set < 1 << list.size(); set++) {
            if (Integer.bitCount(set) > n) continue;
            BigInteger ways = BigInteger.ONE;
            for (int k = 0; k < list.size(); k++) {
                int tenths = (int) Math.ceil(now.v[p][list.get(k)] / 10.0);
                ways = ways.multiply(BigInteger.valueOf((set >> k & 1) == 1 ? tenths : 10 - tenths));
            }
            above = above.add(ways);
        }
        BigInteger common = above.gcd(below);
        return (what == 0 ? above : below).divide(common).intValueExact();
    }

    int crib(int p, int what) {
        if (!pup(p) || !ok(what, 0, 1)) return -1;
        int best = -2;
        int most = -1;
        for (int i = 0; i < 12; i++) {
            if (!f(i) || now.v[p][i] > 0) continue;
            State s = now.same();
            s.v[p][i] = 99;
            int count = recall(rules, s, p);
            if (count > most) {
                most = count;
                best = i;
            }
        }
        return best == -2 ? -2 : what == 0 ? best : most;
    }

    boolean seed(int x) {
        if (!ok(x, 0, 65535)) return false;
        now.x = x;
        return true;
    }

    int keep() {
        saved = now.same();
        return now.week;
    }

    boolean undo() {
        if (saved == null) return false;
        now = saved.same();
        return true;
    }

    int check(int p, int n) {
        if (!pup(p) || !ok(n, 0, 12) || tape.size() < n) return -2;
        String s = read(n);
        for (int i = 0; i < n; i++) if (s.charAt(i) != now.v[p][i]) return i;
        return -1;
    }

    int count(int what) {
        int facts = 0;
        int pupils = 0;
        int told = 0;
        int masters = 0;
        for (int i = 0; i < 12; i++) if (f(i)) facts |= 1 << i;
        for (int p = 0; p < 8; p++) if (pup(p)) pupils |= 1 << p;
        for (int k = 0; k < 6; k++) if (artTold(k)) told |= 1 << k;
        for (int m = 0; m < 5; m++) if (master[m]) masters |= 1 << m;
        int[] plain = {now.week, now.passed, now.recalled, facts, pupils, told, masters, rules.size(), tape.size(),
            now.x, asked, limit};
        if (ok(what, 0, 11)) return plain[what];
        if (ok(what, 20, 25) && artTold(what - 20)) return arts.get(what - 20).size();
        if (ok(what, 31, 39)) return classArt[what - 30] == -1 ? -2 : classArt[what - 30];
        if (ok(what, 40, 51) && f(what - 40)) return kindOf[what - 40];
        return -1;
    }
}
