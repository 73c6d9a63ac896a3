import java.util.ArrayList;
import java.util.Arrays;
import java.util.LinkedHashSet;
import java.util.List;
import java.util.Set;
import java.util.TreeSet;
import java.util.function.IntBinaryOperator;

/**
 * The document once more, told in another way and with no thought of speed or room: trees for texts, sets for beasts,
 * whole copies for images, all pulls tried one by one. ModelTest holds SkinShow against it.
 */
public final class Model {
    static final int BAD = -1000000001, NO = -1000000002, FULL = -1000000003, NONE = -1000000005;
    static final int NOTHING = -1000000011, KIND = -1000000012, INDEX = -1000000013, SIZE = -1000000014;

    // ---- 1 the skin

    static final class Part {
        int kind, place, a, span, nerve, size;

        Part copy() {
            Part p = new Part();
            p.kind = kind;
            p.place = place;
            p.a = a;
            p.span = span;
            p.nerve = nerve;
            p.size = size;
            return p;
        }

        int lends() {
            if (kind == 1) return -(a * size);
            if (kind == 2) return size * 2;
            if (kind == 3) return size * 2 + a;
            if (kind == 4) return size;
            return 0;
        }

        int pace() {
            return new int[] {1, 1 + (a > 4 ? 1 : 0), 2, 2 + 7, 1, 0}[kind];
        }
    }

    static final class Learnt {
        int[] asked = new int[4];
        int answer;
    }

    static final class Text {
        int group, tick, operands;
        Node tree;
    }

    static final class World {
        List<Part> parts = new ArrayList<>();
        int[] group = new int[10];
        int[] weight = new int[10];
        int[] pull = new int[6];
        int tone = 50, above = 0, edge = 20, tells = 6;
        int[] was = new int[48];
        int tick = 0;
        List<Text> texts = new ArrayList<>();
        List<Learnt> learnt = new ArrayList<>();
        List<Integer> watched = new ArrayList<>();

        World() {
            Arrays.fill(weight, 5);
            Arrays.fill(was, 50);
        }

        World copy() {
            World w = new World();
            for (Part p : parts) w.parts.add(p.copy());
            w.group = group.clone();
            w.weight = weight.clone();
            w.pull = pull.clone();
            w.tone = tone;
            w.above = above;
            w.edge = edge;
            w.tells = tells;
            w.was = was.clone();
            w.tick = tick;
            w.texts.addAll(texts);
            w.learnt.addAll(learnt);
            w.watched.addAll(watched);
            return w;
        }

        int aim(Part p) {
            int drawn = Math.min(p.span, pull[group[p.nerve]] * weight[p.nerve] / 5);
            switch (p.kind) {
                case 0: case 1: return drawn;
                case 2: return p.span - drawn;
                case 3: return p.span;
                case 4: return drawn / 2;
                default: return p.size;
            }
        }

        Part at(int x, int y) {
            for (Part p : parts) if (p.place == 8 * y + x) return p;
            return null;
        }

        int height(int x, int y) {
            Part p = y < 0 ? null : at(x, y);
            return p != null && p.kind == 4 ? p.size : 0;
        }

        int light(int place) {
            int x = place % 8, y = place / 8;
            Part p = at(x, y);
            int sum = tone + (p == null ? 0 : p.lends()) + above * (height(x, y) - height(x, y - 1));
            return sum < 0 ? 0 : sum > 99 ? 99 : sum;
        }

        int[] lights() {
            int[] all = new int[48];
            for (int i = 0; i < 48; i++) all[i] = light(i);
            return all;
        }

        void tick() {
            int[] ahead = lights();
            int[] aims = new int[parts.size()];
            for (int i = 0; i < aims.length; i++) aims[i] = aim(parts.get(i));
            for (int i = 0; i < aims.length; i++) {
                Part p = parts.get(i);
                for (int step = 0; step < p.pace(); step++) p.size += Integer.signum(aims[i] - p.size);
            }
            was = ahead;
            tick++;
        }

        boolean atRest() {
            for (Part p : parts) if (p.size != aim(p)) return false;
            return true;
        }

        int rest() {
            int changed = 0;
            for (Part p : parts) {
                int aim = aim(p);
                if (aim != p.size) changed++;
                p.size = aim;
            }
            was = lights();
            return changed;
        }

        int sizes() {
            return parts.stream().mapToInt(p -> p.size).sum();
        }

        Text counts(int group) {
            Text best = null;
            for (Text t : texts) {
                if (t.group == group && t.tick <= tick && (best == null || t.tick >= best.tick)) best = t;
            }
            return best;
        }
    }

    World w = new World();
    World image = null;
    List<Integer> tape = new ArrayList<>();
    List<Integer> waiting = new ArrayList<>();
    int[][] lines = new int[24][];
    boolean[] bytes = new boolean[24];

    static boolean in(int v, int from, int to) {
        return from <= v && v <= to;
    }

    public int part(int kind, int place, int a, int span, int nerve) {
        if (!in(kind, 0, 5) || !in(place, 0, 47) || !in(a, 0, 9) || !in(span, 0, 9) || !in(nerve, 0, 9)) return BAD;
        if (w.at(place % 8, place / 8) != null) return NO;
        if (w.parts.size() == 48) return FULL;
        Part p = new Part();
        p.kind = kind;
        p.place = place;
        p.a = a;
        p.span = span;
        p.nerve = nerve;
        w.parts.add(p);
        return w.parts.size() - 1;
    }

    public int told(int part, int what) {
        if (!in(part, 0, w.parts.size() - 1) || !in(what, 0, 8)) return BAD;
        Part p = w.parts.get(part);
        return new int[] {p.kind, p.place, p.a, p.span, p.nerve, p.size, w.aim(p), p.pace(), p.lends()}[what];
    }

    public int as(int part, int kind) {
        if (!in(part, 0, w.parts.size() - 1) || !in(kind, 0, 5)) return BAD;
        Part p = w.parts.get(part);
        boolean is = kind == 0 || p.kind == kind || kind == 2 && p.kind == 3;
        return is ? p.a : KIND;
    }

    public int dies(int part) {
        if (!in(part, 0, w.parts.size() - 1)) return BAD;
        if (w.parts.get(part).kind == 5) return NO;
        w.parts.get(part).kind = 5;
        return 1;
    }

    public int nerve(int nerve, int what, int v) {
        if (!in(nerve, 0, 9) || !in(what, 0, 1)) return BAD;
        if (what == 0 ? !in(v, 0, 5) : !in(v, 1, 9)) return BAD;
        int[] row = what == 0 ? w.group : w.weight;
        int before = row[nerve];
        row[nerve] = v;
        return before;
    }

    public int pull(int group, int v) {
        if (!in(group, 0, 5) || !in(v, 0, 9)) return BAD;
        int before = w.pull[group];
        w.pull[group] = v;
        return before;
    }

    public int rule(int what, int v) {
        int before;
        if (what == 0 && in(v, 0, 99)) {
            before = w.tone;
            w.tone = v;
        } else if (what == 1 && in(v, 0, 9)) {
            before = w.above;
            w.above = v;
        } else if (what == 2 && in(v, 1, 99)) {
            before = w.edge;
            w.edge = v;
        } else if (what == 3 && in(v, 1, 48)) {
            before = w.tells;
            w.tells = v;
        } else {
            before = BAD;
        }
        return before;
    }

    public int show(int place, int what) {
        if (!in(place, 0, 47) || !in(what, 0, 3)) return BAD;
        Part p = w.at(place % 8, place / 8);
        if (what == 0) return w.light(place);
        if (what == 1) return w.was[place];
        if (what == 2) return p == null ? NONE : w.parts.indexOf(p);
        return w.height(place % 8, place / 8);
    }

    public int tick(int n) {
        if (!in(n, 1, 60)) return BAD;
        if (w.tick + n > 9999) return FULL;
        for (int i = 0; i < n; i++) w.tick();
        return w.tick;
    }

    public int rest() {
        return w.rest();
    }

    public int still() {
        World later = w.copy();
        while (!later.atRest()) later.tick();
        return later.tick - w.tick;
    }

    public int change() {
        World later = w.copy();
        int most = 0;
        while (!later.atRest()) {
            int[] before = later.lights();
            later.tick();
            int[] behind = later.lights();
            for (int i = 0; i < 48; i++) most = Math.max(most, Math.abs(before[i] - behind[i]));
        }
        return most;
    }

    // ---- 2 grounds

    public int line(int line, int sort, int n) {
        if (!in(line, 0, 23) || !in(sort, -1, 1)) return BAD;
        if (sort == -1) {
            lines[line] = null;
            return 0;
        }
        if (n > 24) return BAD;
        if (n < 0) return SIZE;
        lines[line] = new int[n];
        bytes[line] = sort == 0;
        return n;
    }

    public int put(int line, int place, int v) {
        if (!in(line, 0, 23)) return BAD;
        if (lines[line] == null) return NOTHING;
        if (!in(place, 0, lines[line].length - 1)) return INDEX;
        int before = lines[line][place];
        lines[line][place] = !bytes[line] ? v : (v & 255) > 127 ? (v & 255) - 256 : v & 255;
        return before;
    }

    public int copy(int from, int place, int to, int at, int many) {
        if (!in(from, 0, 23) || !in(to, 0, 23)) return BAD;
        if (lines[from] == null || lines[to] == null) return NOTHING;
        if (bytes[from] != bytes[to]) return KIND;
        long end = (long) place + many, endThere = (long) at + many;
        if (many < 0 || place < 0 || at < 0 || end > lines[from].length || endThere > lines[to].length) return INDEX;
        int[] as = lines[from].clone();
        for (int i = 0; i < many; i++) lines[to][at + i] = as[place + i];
        return many;
    }

    int shade(int ground, int place) {
        int[] line = lines[6 * ground + place / 8];
        if (line == null || place % 8 >= line.length) return 50;
        return Math.min(99, Math.max(0, line[place % 8]));
    }

    public int ground(int ground, int place) {
        return in(ground, 0, 3) && in(place, 0, 47) ? shade(ground, place) : BAD;
    }

    static boolean beside(int one, int other) {
        return Math.abs(one % 8 - other % 8) + Math.abs(one / 8 - other / 8) == 1;
    }

    int question(int ground, int question) {
        int sum = 0, rough = 0, edges = 0, bright = 0, twos = 0;
        for (int i = 0; i < 48; i++) {
            boolean brightest = true;
            sum += shade(ground, i);
            for (int j = 0; j < 48; j++) {
                if (beside(i, j)) {
                    int less = shade(ground, i) - shade(ground, j);
                    if (less < w.edge) brightest = false;
                    if (i < j) {
                        twos++;
                        rough += Math.abs(less);
                        if (Math.abs(less) >= w.edge) edges++;
                    }
                }
            }
            if (brightest) bright++;
        }
        return new int[] {sum / 48, rough / twos, edges, bright}[question];
    }

    public int ask(int ground, int question) {
        return in(ground, 0, 3) && in(question, 0, 3) ? question(ground, question) : BAD;
    }

    // ---- 3 texts

    interface Node {
        int worth(int[] names);
    }

    static final class Fault extends RuntimeException {
        private static final long serialVersionUID = 1L;
        final int place;

        Fault(int place) {
            super("a fault", null, false, false);
            this.place = place;
        }
    }

    /** Goes down the grammar rule by rule, each rule a function. */
    static final class Reader {
        final String all;
        int at = 0;
        boolean behindWord = false;
        int parens = 0, nots = 0, operands = 0, group = 6;
        String names = "";

        Reader(List<Integer> tape) {
            StringBuilder b = new StringBuilder();
            for (int i : tape) b.append((char) (i & 255));
            all = b.toString();
        }

        static boolean letter(char c) {
            return c >= 'a' && c <= 'z';
        }

        static boolean digit(char c) {
            return c >= '0' && c <= '9';
        }

        /** The word or sign that comes next, without going there; "" at the end. */
        String next() {
            while (at < all.length() && all.charAt(at) == ' ') {
                at++;
                behindWord = false;
            }
            int end = at;
            if (at < all.length() && letter(all.charAt(at))) {
                while (end < all.length() && letter(all.charAt(end))) end++;
            } else if (at < all.length() && digit(all.charAt(at))) {
                while (end < all.length() && digit(all.charAt(end))) end++;
            } else if (at < all.length()) {
                end++;
            }
            String word = all.substring(at, end);
            if (behindWord && !word.isEmpty() && isWord(word)) throw new Fault(at);
            return word;
        }

        static boolean isWord(String s) {
            return letter(s.charAt(0)) || digit(s.charAt(0));
        }

        void take(String word) {
            at += word.length();
            behindWord = isWord(word);
        }

        void whole() {
            String word = next();
            if (word.equals("pull")) {
                take(word);
                String digit = next();
                if (digit.length() != 1 || "012345".indexOf(digit.charAt(0)) < 0) throw new Fault(at);
                group = digit.charAt(0) - '0';
                take(digit);
                names = "lreb";
            } else if (word.equals("eye")) {
                take(word);
                names = "dgmc";
            } else {
                throw new Fault(at);
            }
        }

        Node text() {
            whole();
            Node e = or();
            if (!next().isEmpty()) throw new Fault(at);
            return e;
        }

        boolean nextIs(String signs) {
            String word = next();
            return word.length() == 1 && signs.contains(word);
        }

        Node or() {
            Node left = and();
            while (nextIs("|")) left = two(left, next(), this.skip().and());
            return left;
        }

        Node and() {
            Node left = test();
            while (nextIs("&")) left = two(left, next(), this.skip().test());
            return left;
        }

        Node test() {
            Node left = sum();
            if (nextIs("<=>")) left = two(left, next(), this.skip().sum());
            return left;
        }

        Node sum() {
            Node left = term();
            while (nextIs("+-")) left = two(left, next(), this.skip().term());
            return left;
        }

        Node term() {
            Node left = piece();
            while (nextIs("*/")) left = two(left, next(), this.skip().piece());
            return left;
        }

        Reader skip() {
            take(next());
            return this;
        }

        Node piece() {
            String word = next();
            if (word.equals("!")) {
                if (nots == 8) throw new Fault(at);
                nots++;
                take(word);
                Node p = piece();
                nots--;
                return n -> p.worth(n) == 0 ? 1 : 0;
            }
            if (word.equals("(")) {
                if (parens == 8) throw new Fault(at);
                parens++;
                take(word);
                Node e = or();
                if (!next().equals(")")) throw new Fault(at);
                take(")");
                parens--;
                return e;
            }
            if (word.isEmpty() || !isWord(word)) throw new Fault(at);
            if (digit(word.charAt(0))) {
                if (word.length() > 4) throw new Fault(at);
                int number = Integer.parseInt(word);
                operands++;
                take(word);
                return n -> number;
            }
            if (word.length() != 1 || !names.contains(word)) throw new Fault(at);
            int name = names.indexOf(word);
            operands++;
            take(word);
            return n -> n[name];
        }

        static Node two(Node left, String sign, Node right) {
            IntBinaryOperator op;
            switch (sign) {
                case "|": op = (a, b) -> a != 0 | b != 0 ? 1 : 0; break;
                case "&": op = (a, b) -> a != 0 & b != 0 ? 1 : 0; break;
                case "<": op = (a, b) -> a < b ? 1 : 0; break;
                case ">": op = (a, b) -> a > b ? 1 : 0; break;
                case "=": op = (a, b) -> a == b ? 1 : 0; break;
                case "+": op = (a, b) -> a + b; break;
                case "-": op = (a, b) -> a - b; break;
                case "*": op = (a, b) -> a * b; break;
                default: op = (a, b) -> b == 0 ? 0 : a / b;
            }
            return n -> op.applyAsInt(left.worth(n), right.worth(n));
        }
    }

    public int feed(int a, int b, int c) {
        if (tape.size() + 12 > 96) return FULL;
        for (int four : new int[] {a, b, c}) {
            for (int i = 3; i >= 0; i--) tape.add(four >>> 8 * i & 255);
        }
        return tape.size();
    }

    public int trim(int n) {
        if (!in(n, 0, tape.size())) return BAD;
        tape = new ArrayList<>(tape.subList(0, n));
        return n;
    }

    public int text(int tick) {
        Reader reader = new Reader(tape);
        tape.clear();
        if (!in(tick, 0, 9999)) return BAD;
        Text t = new Text();
        try {
            t.tree = reader.text();
        } catch (Fault fault) {
            return -100 - fault.place;
        }
        if (w.texts.size() == 14) return FULL;
        t.group = reader.group;
        t.tick = tick;
        t.operands = reader.operands;
        w.texts.add(t);
        return w.texts.size() - 1;
    }

    public int of(int text, int what) {
        if (!in(text, 0, w.texts.size() - 1) || !in(what, 0, 2)) return BAD;
        Text t = w.texts.get(text);
        return what == 0 ? t.group : what == 1 ? t.tick : t.operands;
    }

    public int why(int group) {
        if (!in(group, 0, 6)) return BAD;
        Text t = w.counts(group);
        return t == null ? NONE : w.texts.indexOf(t);
    }

    public int gives(int group, int a, int b, int c, int d) {
        if (!in(group, 0, 6)) return BAD;
        Text t = w.counts(group);
        return t == null ? NONE : t.tree.worth(new int[] {a, b, c, d});
    }

    public int habit(int ground) {
        if (!in(ground, 0, 3)) return BAD;
        int changed = 0;
        for (int g = 0; g < 6; g++) {
            Text t = w.counts(g);
            if (t == null) continue;
            int[] names = new int[4];
            for (int q = 0; q < 4; q++) names[q] = question(ground, q);
            int v = Math.min(9, Math.max(0, t.tree.worth(names)));
            if (v != w.pull[g]) changed++;
            w.pull[g] = v;
        }
        return changed;
    }

    // ---- 3, 4 eyes

    Set<Integer> seen(World s, int ground) {
        Set<Integer> all = new TreeSet<>();
        int[] light = s.lights();
        Text t = s.counts(6);
        for (int i = 0; i < 48; i++) {
            int d = Math.abs(light[i] - shade(ground, i)), c = 0;
            for (int j = 0; j < 48; j++) if (beside(i, j) && Math.abs(light[i] - light[j]) >= s.edge) c++;
            int[] names = {d, shade(ground, i), Math.abs(light[i] - s.was[i]), c};
            if (t == null ? d > 9 : t.tree.worth(names) != 0) all.add(i);
        }
        return all;
    }

    public int seen(int ground, int place) {
        if (!in(ground, 0, 3) || !in(place, 0, 47)) return BAD;
        return seen(w, ground).contains(place) ? 1 : 0;
    }

    public int beast(int ground, int what) {
        if (!in(ground, 0, 3) || !in(what, 0, 4)) return BAD;
        Set<Integer> all = seen(w, ground);
        int[] beastOf = new int[48];
        for (int i = 0; i < 48; i++) beastOf[i] = i;
        for (int round = 0; round < 48; round++) {
            for (int i : all) for (int j : all) if (beside(i, j)) beastOf[i] = Math.min(beastOf[i], beastOf[j]);
        }
        Set<Integer> beasts = new LinkedHashSet<>();
        int[] many = new int[48];
        for (int i : all) {
            beasts.add(beastOf[i]);
            many[beastOf[i]]++;
        }
        int best = NONE;
        for (int i : beasts) if (best == NONE || many[i] > many[best]) best = i;
        int most = best == NONE ? 0 : many[best];
        return new int[] {all.size(), most, best, most >= w.tells ? 1 : 0, beasts.size()}[what];
    }

    static int[] digits(int groups) {
        if (groups < 0 || groups > 999) return null;
        String s = Integer.toString(groups);
        int[] d = new int[s.length()];
        Set<Integer> unlike = new TreeSet<>();
        for (int i = 0; i < d.length; i++) {
            d[i] = s.charAt(i) - '0';
            unlike.add(d[i]);
            if (d[i] > 5) return null;
        }
        return unlike.size() == d.length ? d : null;
    }

    int best(int ground, int groups, int what, boolean hide) {
        int[] d = digits(groups);
        if (!in(ground, 0, 3) || d == null || !in(what, 0, 1)) return BAD;
        int all = (int) Math.pow(10, d.length);
        int least = Integer.MAX_VALUE, pulls = -1;
        for (int i = 0; i < all; i++) {
            World s = w.copy();
            int left = i;
            for (int g = d.length - 1; g >= 0; g--) {
                s.pull[d[g]] = left % 10;
                left /= 10;
            }
            s.rest();
            int got = 0;
            if (hide) {
                got = seen(s, ground).size();
            } else {
                for (int p = 0; p < 48; p++) got += Math.abs(s.light(p) - shade(ground, p));
            }
            if (got < least) {
                least = got;
                pulls = i;
            }
        }
        return what == 0 ? least : pulls;
    }

    public int hide(int ground, int groups, int what) {
        return best(ground, groups, what, true);
    }

    public int misses(int ground, int groups, int what) {
        return best(ground, groups, what, false);
    }

    public int half(int ground, int group) {
        if (!in(ground, 0, 3) || !in(group, 0, 5)) return BAD;
        int there = 0, elsewhere = 0;
        for (Part p : w.parts) {
            if (w.group[p.nerve] != group) continue;
            if (shade(ground, p.place) > question(ground, 0)) there++; else elsewhere++;
        }
        return there - elsewhere;
    }

    // ---- 4 what is learnt

    public int learn(int ground, int answer) {
        if (!in(ground, 0, 3) || !in(answer, 0, 9)) return BAD;
        if (w.learnt.size() == 8) return FULL;
        Learnt l = new Learnt();
        for (int q = 0; q < 4; q++) l.asked[q] = question(ground, q);
        l.answer = answer;
        w.learnt.add(l);
        return w.learnt.size() - 1;
    }

    boolean tells(int set) {
        for (Learnt one : w.learnt) {
            for (Learnt other : w.learnt) {
                boolean differ = false;
                for (int q = 0; q < 4; q++) if ((set & 1 << q) != 0) differ |= one.asked[q] != other.asked[q];
                if (one.answer != other.answer && !differ) return false;
            }
        }
        return true;
    }

    public int apart(int set) {
        return !in(set, 0, 15) ? BAD : tells(set) ? 1 : 0;
    }

    public int fewest() {
        for (int many = 0; many <= 4; many++) {
            for (int set = 0; set < 16; set++) if (Integer.bitCount(set) == many && tells(set)) return set;
        }
        return NONE;
    }

    public int watch(int set) {
        if (set < 0 || set >= 1 << 29) return BAD;
        if (w.watched.size() == 12) return FULL;
        w.watched.add(set);
        return w.watched.size() - 1;
    }

    String rowsOf(int part, int without) {
        StringBuilder rows = new StringBuilder();
        for (int r = 0; r < w.watched.size(); r++) {
            if (r != without && (w.watched.get(r) & 1 << part) != 0) rows.append((char) ('A' + r));
        }
        return rows.toString();
    }

    public int alike(int one, int other) {
        if (!in(one, 0, 28) || !in(other, 0, 28) || one == other) return BAD;
        return rowsOf(one, -1).equals(rowsOf(other, -1)) ? 1 : 0;
    }

    public int kinds(int row) {
        if (!in(row, -1, w.watched.size() - 1)) return BAD;
        Set<String> unlike = new TreeSet<>();
        for (int p = 0; p < w.parts.size() && p <= 28; p++) unlike.add(rowsOf(p, row));
        return unlike.size();
    }

    public int parts() {
        int best = NONE;
        for (int r = 0; r < w.watched.size(); r++) if (best == NONE || kinds(r) < kinds(best)) best = r;
        return best;
    }

    // ---- 5 rows, images

    public int tell(int v) {
        if (waiting.size() == 60) return FULL;
        waiting.add(v);
        return waiting.size();
    }

    public int check(int n) {
        List<Integer> told = new ArrayList<>(waiting);
        waiting.clear();
        if (!in(n, 1, 30)) return BAD;
        if (image == null) return NO;
        List<Integer> due = new ArrayList<>();
        World s = image.copy();
        for (int i = 0; i < n; i++) {
            s.tick();
            due.add(s.sizes());
            due.add(seen(s, 0).size());
        }
        if (due.equals(told)) return 0;
        int right = 0;
        while (right < due.size() && right < told.size() && due.get(right).equals(told.get(right))) right++;
        return 1 + right;
    }

    public int keep() {
        image = w.copy();
        return w.tick;
    }

    public int back() {
        if (image == null) return NO;
        w = image.copy();
        return w.tick;
    }

    public int count(int what) {
        if (!in(what, 0, 13)) return BAD;
        int[] kinds = new int[6];
        for (Part p : w.parts) kinds[p.kind]++;
        int there = 0;
        for (int[] line : lines) if (line != null) there++;
        return new int[] {w.parts.size(), kinds[1], kinds[2], kinds[3], kinds[4], kinds[5], w.sizes(), w.texts.size(),
            w.learnt.size(), w.watched.size(), there, waiting.size(), tape.size(), w.tick}[what];
    }
}
