import java.lang.reflect.Method;
import java.util.ArrayList;
import java.util.Arrays;
import java.util.HashMap;
import java.util.List;
import java.util.Map;
import java.util.Random;

/** Runs of 512 calls by a random source with told seeds: SkinShow has to answer what the Model answers. */
public final class ModelTest {
    static final int CALLS = 512;
    static final Map<String, Method> OURS = methodsOf(SkinShow.class), THEIRS = methodsOf(Model.class);

    static Map<String, Method> methodsOf(Class<?> type) {
        Map<String, Method> all = new HashMap<>();
        for (Method m : type.getDeclaredMethods()) {
            if (java.lang.reflect.Modifier.isPublic(m.getModifiers())) all.put(m.getName(), m);
        }
        return all;
    }

    final Random random;
    final SkinShow show = new SkinShow();
    final Model model = new Model();
    final StringBuilder told = new StringBuilder();
    final List<Integer> due = new ArrayList<>();
    int calls = 0, right = 0;

    ModelTest(long seed) {
        random = new Random(seed);
    }

    /** How many calls were answered otherwise than in the Model: the first one is told, and ends the run. */
    static final class Differs extends RuntimeException {
        private static final long serialVersionUID = 1L;

        Differs(String what) {
            super(what);
        }
    }

    int call(String name, int... args) {
        if (calls == CALLS) return 0;
        calls++;
        Object[] boxed = new Object[args.length];
        for (int i = 0; i < args.length; i++) boxed[i] = args[i];
        try {
            int want = (Integer) THEIRS.get(name).invoke(model, boxed);
            told.append(name).append(Arrays.toString(args)).append(" -> ").append(want).append('\n');
            int got = (Integer) OURS.get(name).invoke(show, boxed);
            if (got != want) throw new Differs(told + "answered " + got);
            SEEN.merge(name + (want <= -1000000000 ? " " + want : ""), 1, Integer::sum);
            return want;
        } catch (ReflectiveOperationException e) {
            throw new Differs(told + "threw " + e.getCause());
        }
    }

    static final Map<String, Integer> SEEN = new java.util.TreeMap<>();

    /** A number that is mostly within, sometimes at the rim or one beyond it, rarely far off. */
    int num(int least, int most) {
        int way = random.nextInt(40);
        if (way == 0) return least - 1;
        if (way == 1) return most + 1;
        if (way == 2) return least;
        if (way == 3) return most;
        if (way == 4 && random.nextInt(4) == 0) return wild();
        return least + random.nextInt(most - least + 1);
    }

    int wild() {
        int[] all = {Integer.MIN_VALUE, Integer.MAX_VALUE, -1, 0, 256, 46341, 65536, random.nextInt()};
        return all[random.nextInt(all.length)];
    }

    boolean chance(int of) {
        return random.nextInt(of) == 0;
    }

    // ---- texts

    String blank() {
        return chance(5) ? chance(3) ? "  " : " " : "";
    }

    String piece(int depth, String names) {
        int way = random.nextInt(depth <= 0 ? 5 : 9);
        if (way < 2) return Integer.toString(chance(4) ? random.nextInt(10000) : random.nextInt(60));
        if (way < 5) return "" + names.charAt(random.nextInt(names.length()));
        if (way < 7) return "!" + blank() + piece(depth - 1, names);
        return "(" + blank() + expression(depth - 1, names) + blank() + ")";
    }

    String expression(int depth, String names) {
        StringBuilder b = new StringBuilder(piece(depth, names));
        boolean compared = false;
        for (int more = random.nextInt(4); more > 0; more--) {
            char sign = "|&<=>+-*/".charAt(random.nextInt(9));
            boolean compares = "<=>".indexOf(sign) >= 0;
            if (compares && compared && !chance(20)) sign = '+';
            compared = compares || compared && sign != '|' && sign != '&';
            b.append(blank()).append(sign).append(blank()).append(piece(depth - 1, names));
        }
        return b.toString();
    }

    String source() {
        boolean eye = random.nextBoolean();
        String names = eye ? "dgmc" : "lreb";
        String head = eye ? "eye" : "pull" + (chance(20) ? "" : " ") + random.nextInt(chance(20) ? 12 : 6);
        String deep = chance(12) ? "!".repeat(random.nextInt(11)) + "(".repeat(random.nextInt(11)) : "";
        String b = head + (chance(20) ? "" : " ") + deep + expression(4, names)
            + ")".repeat(Math.min(30, deep.replace("!", "").length()));
        return chance(5) ? spoilt(blank() + b + blank()) : b;
    }

    String spoilt(String b) {
        StringBuilder s = new StringBuilder(b);
        for (int many = 1 + random.nextInt(2); many > 0 && s.length() > 0; many--) {
            int at = random.nextInt(s.length());
            char c = chance(10) ? (char) random.nextInt(256) : "lrebdgmc019 ()!&|<=>+-*/".charAt(random.nextInt(24));
            int way = random.nextInt(4);
            if (way == 0) s.deleteCharAt(at);
            else if (way == 1) s.insert(at, c);
            else if (way == 2) s.setCharAt(at, c);
            else s.setLength(at);
        }
        return s.toString();
    }

    void feedText(String source) {
        String s = source.length() > 96 ? source.substring(0, 96) : source;
        while (model.tape.size() > 0 && calls < CALLS) call("trim", 0);
        for (int at = 0; at < s.length(); at += 12) {
            int[] words = new int[3];
            for (int i = 0; i < 12; i++) {
                int c = at + i < s.length() ? s.charAt(at + i) : random.nextInt(256);
                words[i / 4] = words[i / 4] << 8 | c;
            }
            call("feed", words);
        }
        call("trim", s.length());
        told.append("   the tape: ").append(s).append('\n');
        int when = model.w.tick;
        int tick = chance(25) ? num(0, 9999) : chance(3) ? Math.min(9999, when + random.nextInt(9)) : random.nextInt(when + 1);
        call("text", tick);
    }

    // ---- acts, by what they are about

    void skin() {
        int parts = Math.max(1, model.w.parts.size());
        switch (random.nextInt(13)) {
            case 0: case 1: call("part", num(0, 5), num(0, 47), num(0, 9), num(0, 9), num(0, 9)); break;
            case 2: call("told", num(0, parts - 1), num(0, 8)); break;
            case 3: call("as", num(0, parts - 1), num(0, 5)); break;
            case 4: if (chance(4)) call("dies", num(0, parts - 1)); break;
            case 5: call("nerve", num(0, 9), num(0, 1), chance(2) ? num(1, 9) : num(0, 5)); break;
            case 6: case 7: call("pull", num(0, 5), num(0, 9)); break;
            case 8: ruling(); break;
            case 9: call("show", num(0, 47), num(0, 3)); break;
            case 10: call("tick", chance(30) ? num(1, 60) : num(1, 4)); break;
            case 11: if (chance(4)) call("rest"); else call("still"); break;
            default: call("change");
        }
    }

    void ruling() {
        int what = num(0, 3);
        if (what == 0) call("rule", what, chance(3) ? num(0, 99) : num(40, 60));
        else call("rule", what, what == 1 ? num(0, 9) : what == 2 ? num(1, 40) : num(1, 48));
    }

    /** A line that is not missing, where there is one. */
    int lineThere() {
        int line = random.nextInt(24);
        for (int i = 0; i < 24 && model.lines[line] == null; i++) line = (line + 1) % 24;
        return line;
    }

    void copying(int line) {
        int to = chance(4) ? line : chance(8) ? num(0, 23) : lineThere();
        for (int i = 0; i < 9 && line >= 0 && line < 24 && to >= 0 && to < 24 && model.bytes[line] != model.bytes[to]; i++) {
            to = lineThere();
        }
        boolean far = chance(8);
        call("copy", line, num(0, far ? 24 : 4), to, num(0, far ? 24 : 4), far ? chance(3) ? wild() : num(0, 24) : num(0, 4));
    }

    void grounds() {
        int line = chance(12) ? num(0, 23) : lineThere();
        switch (random.nextInt(8)) {
            case 0: call("line", line, num(-1, 1), chance(3) ? num(0, 24) : 8); break;
            case 1: case 2: case 3:
                int v = chance(6) ? wild() : chance(3) ? num(0, 130) : 40 + random.nextInt(20);
                call("put", line, num(0, 7), v);
                break;
            case 4: copying(line); break;
            case 5: call("ground", num(0, 3), num(0, 47)); break;
            default: call("ask", num(0, 3), num(0, 3));
        }
    }

    void texts() {
        switch (random.nextInt(9)) {
            case 0: case 1: feedText(source()); break;
            case 2: call("of", num(0, Math.max(1, model.w.texts.size()) - 1), num(0, 2)); break;
            case 3: call("why", num(0, 6)); break;
            case 4: case 5:
                boolean far = chance(4);
                int[] v = new int[4];
                for (int i = 0; i < 4; i++) v[i] = far ? wild() : num(0, 99);
                call("gives", num(0, 6), v[0], v[1], v[2], v[3]);
                break;
            case 6: call("habit", num(0, 3)); break;
            case 7:
                int many = chance(30) ? 9 : chance(4) ? 1 : 0;
                for (int i = 0; i < many; i++) call("feed", wild(), wild(), wild());
                break;
            default: if (chance(4)) call("trim", num(0, Math.max(1, model.tape.size())));
        }
    }

    void eyes() {
        switch (random.nextInt(8)) {
            case 0: case 1: call("seen", num(0, 3), num(0, 47)); break;
            case 2: case 3: case 4: call("beast", num(0, 3), num(0, 4)); break;
            case 5: call("half", num(0, 3), num(0, 5)); break;
            default: if (chance(4)) search(); break;
        }
    }

    void search() {
        int groups = chance(12) ? num(0, 999) : random.nextInt(6);
        // the model is slow where three are told
        for (int more = random.nextInt(chance(4) ? 3 : 2); more > 0; more--) groups = groups * 10 + random.nextInt(6);
        String name = chance(2) ? "hide" : "misses";
        call(name, num(0, 3), groups, num(0, 1));
    }

    void learning() {
        switch (random.nextInt(9)) {
            case 0: call("learn", num(0, 3), chance(3) ? num(0, 9) : num(0, 2)); break;
            case 1: case 2: call("apart", num(0, 15)); break;
            case 3: call("fewest"); break;
            case 4: call("watch", chance(8) ? wild() : num(0, (1 << 29) - 1)); break;
            case 5: call("alike", num(0, 28), num(0, 28)); break;
            case 6: case 7: call("kinds", num(-1, Math.max(0, model.w.watched.size() - 1))); break;
            default: call("parts");
        }
    }

    /** What the Model would tell behind the ticks from its image on. */
    List<Integer> toldTicks(int n) {
        List<Integer> all = new ArrayList<>();
        Model.World s = model.image.copy();
        for (int i = 0; i < n; i++) {
            s.tick();
            all.add(s.sizes());
            all.add(model.seen(s, 0).size());
        }
        return all;
    }

    void images() {
        switch (random.nextInt(8)) {
            case 0: call("keep"); break;
            case 1: call("back"); break;
            case 2: call("tell", num(0, 40)); break;
            case 3: case 4: call("count", num(0, 13)); break;
            case 5: if (chance(6)) call("check", num(1, 30)); break;
            default: if (model.image != null && chance(3)) telling();
        }
    }

    void telling() {
        int n = chance(3) ? 1 + random.nextInt(30) : 1 + random.nextInt(4);
        List<Integer> all = toldTicks(n);
        if (chance(3)) all.set(random.nextInt(all.size()), random.nextInt(50));
        if (chance(5)) all.remove(all.size() - 1);
        if (chance(5)) all.add(0);
        for (int v : all) call("tell", v);
        call("check", chance(5) ? num(1, 30) : n);
    }

    void fill(int line) {
        if (chance(3)) return;
        int sort = chance(4) ? 1 : 0;
        call("line", line, sort, chance(4) ? num(0, 24) : 8);
        for (int x = 0; x < 8 && chance(2); x++) call("put", line, x, 20 + random.nextInt(60));
    }

    void run() {
        int[] weights = new int[6];
        for (int i = 0; i < 6; i++) weights[i] = 1 + random.nextInt(10);
        int busy = random.nextInt(3) == 0 ? 0 : 20 + random.nextInt(60);
        for (int i = 0; i < busy; i++) call("part", num(0, 5), num(0, 47), num(0, 9), num(0, 9), num(0, 9));
        for (int i = 0; i < 10 && busy > 0; i++) call("nerve", i, 0, num(0, 5));
        if (chance(2)) for (int line = 0; line < 24; line++) fill(line);
        if (chance(40)) for (int i = 0; i < 166; i++) call("tick", 60);
        // what does not call does not count: an end is needed all the same
        for (int acts = 0; acts < 5000 && calls < CALLS; acts++) {
            int sum = 0;
            for (int weight : weights) sum += weight;
            int at = random.nextInt(sum), which = 0;
            while (at >= weights[which]) at -= weights[which++];
            if (which == 0) skin();
            else if (which == 1) grounds();
            else if (which == 2) texts();
            else if (which == 3) eyes();
            else if (which == 4) learning();
            else images();
        }
    }

    public static void main(String[] args) {
        int runs = args.length > 0 ? Integer.parseInt(args[0]) : 1200;
        int first = args.length > 1 ? Integer.parseInt(args[1]) : 1;
        int wrong = 0;
        for (int seed = first; seed < first + runs && wrong < 3; seed++) {
            ModelTest test = new ModelTest(seed);
            try {
                test.run();
            } catch (Differs differs) {
                wrong++;
                String text = differs.getMessage();
                System.out.println("seed " + seed + ", call " + test.calls + ":\n"
                    + text.substring(Math.max(0, text.length() - 3000)));
            }
        }
        if (args.length > 2) SEEN.forEach((name, many) -> System.out.println(name + ": " + many));
        System.out.println(wrong == 0 ? "ModelTest: " + runs + " runs as in the Model" : "ModelTest: runs differ");
        if (wrong != 0) System.exit(1);
    }
}
