/** A skin that is a picture. ../shared/DOC.md says what each call does; the words in capitals are told there. */
public final class SkinShow {
    public static final int BAD = -1000000001, NO = -1000000002, FULL = -1000000003, NONE = -1000000005,
        NOTHING = -1000000011, KIND = -1000000012, INDEX = -1000000013, SIZE = -1000000014;

    private static final int PLACES = 48, WIDTH = 8, NERVES = 10, GROUPS = 6, EYE = 6, GROUNDS = 4;
    private static final int LEFT = 0, RIGHT = 1, UP = 2, DOWN = 3, SIDES = 4;
    private static final int MOST_LIGHT = 99, MOST_PULL = 9, MOST_TICK = 9999;
    private static final int PART = 0, BAG = 1, MIRROR = 2, WHITE = 3, BUMP = 4, DEAD = 5;
    private static final int[] KIND_ABOVE = {NONE, PART, PART, MIRROR, PART, PART};
    private static final int TONE = 0, ABOVE = 1, EDGE = 2, TELLS = 3, RULES = 4;
    private static final int[] RULE_AT_FIRST = {50, 0, 20, 6};
    private static final int[] RULE_LEAST = {0, 0, 1, 1};
    private static final int[] RULE_MOST = {99, 9, 99, 48};
    private static final int LINES = 24, LINES_OF_A_GROUND = 6, MOST_LINE = 24, MISSING = -1, BYTES = 0, INTS = 1;
    private static final int TWOS = 82, QUESTIONS = 4;
    private static final int MOST_TAPE = 96, MOST_TEXTS = 14, MOST_OPEN = 8;
    private static final int MOST_LEARNT = 8, MOST_WATCHED = 12, WATCHED_PARTS = 29;
    private static final int MOST_WAITING = 60;

    private final State now = new State();
    private final State image = new State();
    private final State trial = new State();
    private final Grounds grounds = new Grounds();
    private final Tape tape = new Tape();
    private final Texts texts = new Texts();
    private final Eye eye = new Eye();
    private final Search search = new Search();
    private final Lessons lessons = new Lessons();
    private final int[] waiting = new int[MOST_WAITING];
    private int waits = 0;
    private boolean kept = false;

    public SkinShow() {
    }

    // ---- the skin.

    public int part(int kind, int place, int a, int span, int nerve) {
        if (!within(kind, PART, DEAD) || !within(place, 0, PLACES - 1) || !within(a, 0, 9)) {
            return BAD;
        }
        if (!within(span, 0, 9) || !within(nerve, 0, NERVES - 1)) {
            return BAD;
        }
        if (now.partAt[place] != NONE) {
            return NO;
        }
        return now.parts >= PLACES ? FULL : now.add(kind, place, a, span, nerve);
    }

    public int told(int part, int what) {
        if (!within(part, 0, now.parts - 1)) {
            return BAD;
        }
        switch (what) {
            case 0: return now.kind[part];
            case 1: return now.place[part];
            case 2: return now.a[part];
            case 3: return now.span[part];
            case 4: return now.nerve[part];
            case 5: return now.size[part];
            case 6: return now.aimOf(part);
            case 7: return now.paceOf(part);
            case 8: return now.givenBy(part);
            default: return BAD;
        }
    }

    public int as(int part, int kind) {
        if (!within(part, 0, now.parts - 1) || !within(kind, PART, DEAD)) {
            return BAD;
        }
        return now.isOf(part, kind) ? now.a[part] : KIND;
    }

    public int dies(int part) {
        if (!within(part, 0, now.parts - 1)) {
            return BAD;
        }
        if (now.kind[part] == DEAD) {
            return NO;
        }
        now.kind[part] = DEAD;
        return 1;
    }

    public int nerve(int nerve, int what, int v) {
        if (!within(nerve, 0, NERVES - 1)) {
            return BAD;
        }
        if (what == 0 && within(v, 0, GROUPS - 1)) {
            return replaced(now.group, nerve, v);
        }
        if (what == 1 && within(v, 1, 9)) {
            return replaced(now.weight, nerve, v);
        }
        return BAD;
    }

    public int pull(int group, int v) {
        if (!within(group, 0, GROUPS - 1) || !within(v, 0, MOST_PULL)) {
            return BAD;
        }
        return replaced(now.pull, group, v);
    }

    public int rule(int what, int v) {
        if (!within(what, 0, RULES - 1) || !within(v, RULE_LEAST[what], RULE_MOST[what])) {
            return BAD;
        }
        return replaced(now.rules, what, v);
    }

    public int show(int place, int what) {
        if (!within(place, 0, PLACES - 1)) {
            return BAD;
        }
        switch (what) {
            case 0: return now.lightAt(place);
            case 1: return now.was[place];
            case 2: return now.partAt[place];
            case 3: return now.heightAt(place);
            default: return BAD;
        }
    }

    public int tick(int n) {
        if (!within(n, 1, 60)) {
            return BAD;
        }
        if (now.tick + n > MOST_TICK) {
            return FULL;
        }
        for (int i = 0; i < n; i++) {
            now.goOn();
        }
        return now.tick;
    }

    public int rest() {
        int changed = now.settle();
        now.markWas();
        return changed;
    }

    public int still() {
        return now.ticksToRest();
    }

    public int change() {
        trial.becomes(now);
        int ticks = trial.ticksToRest();
        int most = 0;
        for (int i = 0; i < ticks; i++) {
            trial.goOn();
            for (int place = 0; place < PLACES; place++) {
                most = Math.max(most, Math.abs(trial.lightAt(place) - trial.was[place]));
            }
        }
        return most;
    }

    // ---- grounds.

    public int line(int line, int sort, int n) {
        if (!within(line, 0, LINES - 1) || !within(sort, MISSING, INTS)) {
            return BAD;
        }
        if (sort == MISSING) {
            return grounds.make(line, MISSING, 0);
        }
        if (n > MOST_LINE) {
            return BAD;
        }
        return n < 0 ? SIZE : grounds.make(line, sort, n);
    }

    public int put(int line, int place, int v) {
        if (!within(line, 0, LINES - 1)) {
            return BAD;
        }
        if (grounds.sort[line] == MISSING) {
            return NOTHING;
        }
        if (!within(place, 0, grounds.length[line] - 1)) {
            return INDEX;
        }
        return replaced(grounds.numbers[line], place, grounds.sort[line] == BYTES ? (byte) v : v);
    }

    public int copy(int from, int place, int to, int at, int many) {
        if (!within(from, 0, LINES - 1) || !within(to, 0, LINES - 1)) {
            return BAD;
        }
        if (grounds.sort[from] == MISSING || grounds.sort[to] == MISSING) {
            return NOTHING;
        }
        if (grounds.sort[from] != grounds.sort[to]) {
            return KIND;
        }
        if (!grounds.has(from, place, many) || !grounds.has(to, at, many)) {
            return INDEX;
        }
        System.arraycopy(grounds.numbers[from], place, grounds.numbers[to], at, many);
        return many;
    }

    public int ground(int ground, int place) {
        if (!isGround(ground) || !within(place, 0, PLACES - 1)) {
            return BAD;
        }
        return grounds.shadeAt(ground, place);
    }

    public int ask(int ground, int question) {
        if (!isGround(ground) || !within(question, 0, QUESTIONS - 1)) {
            return BAD;
        }
        return grounds.askAll(ground, now.rules[EDGE])[question];
    }

    // ---- texts.

    public int feed(int a, int b, int c) {
        if (tape.length + 12 > MOST_TAPE) {
            return FULL;
        }
        tape.take(a);
        tape.take(b);
        tape.take(c);
        return tape.length;
    }

    public int trim(int n) {
        if (!within(n, 0, tape.length)) {
            return BAD;
        }
        tape.length = n;
        return n;
    }

    public int text(int tick) {
        int fault = tape.read();
        tape.length = 0;
        if (!within(tick, 0, MOST_TICK)) {
            return BAD;
        }
        if (fault >= 0) {
            return -100 - fault;
        }
        if (now.texts >= MOST_TEXTS) {
            return FULL;
        }
        texts.store(now.texts, tick, tape);
        return now.texts++;
    }

    public int of(int text, int what) {
        if (!within(text, 0, now.texts - 1)) {
            return BAD;
        }
        switch (what) {
            case 0: return texts.group[text];
            case 1: return texts.since[text];
            case 2: return texts.operands[text];
            default: return BAD;
        }
    }

    public int why(int group) {
        return within(group, 0, EYE) ? texts.counting(group, now) : BAD;
    }

    public int gives(int group, int a, int b, int c, int d) {
        if (!within(group, 0, EYE)) {
            return BAD;
        }
        int text = texts.counting(group, now);
        return text == NONE ? NONE : texts.worth(text, a, b, c, d);
    }

    public int habit(int ground) {
        if (!isGround(ground)) {
            return BAD;
        }
        int[] asked = grounds.askAll(ground, now.rules[EDGE]);
        int changed = 0;
        for (int group = 0; group < GROUPS; group++) {
            int text = texts.counting(group, now);
            if (text != NONE) {
                int pull = held(texts.worth(text, asked[0], asked[1], asked[2], asked[3]), MOST_PULL);
                changed += replaced(now.pull, group, pull) == pull ? 0 : 1;
            }
        }
        return changed;
    }

    // ---- eyes.

    public int seen(int ground, int place) {
        if (!isGround(ground) || !within(place, 0, PLACES - 1)) {
            return BAD;
        }
        lookAt(now, ground);
        return eye.sees(place, texts, texts.counting(EYE, now)) ? 1 : 0;
    }

    public int beast(int ground, int what) {
        if (!isGround(ground) || !within(what, 0, 4)) {
            return BAD;
        }
        int all = spotAll(now, ground);
        eye.gather();
        switch (what) {
            case 0: return all;
            case 1: return eye.most;
            case 2: return eye.first;
            case 3: return eye.most >= now.rules[TELLS] ? 1 : 0;
            default: return eye.beasts;
        }
    }

    public int hide(int ground, int groups, int what) {
        if (!isGround(ground) || !search.choose(groups) || !within(what, 0, 1)) {
            return BAD;
        }
        search.begin(now, grounds, ground);
        search.seek(texts, texts.counting(EYE, now));
        return what == 0 ? search.least : search.pulls;
    }

    public int misses(int ground, int groups, int what) {
        if (!isGround(ground) || !search.choose(groups) || !within(what, 0, 1)) {
            return BAD;
        }
        search.begin(now, grounds, ground);
        search.match();
        return what == 0 ? search.least : search.pulls;
    }

    public int half(int ground, int group) {
        if (!isGround(ground) || !within(group, 0, GROUPS - 1)) {
            return BAD;
        }
        int mean = grounds.askAll(ground, now.rules[EDGE])[0];
        int more = 0;
        for (int part = 0; part < now.parts; part++) {
            if (now.group[now.nerve[part]] == group) {
                more += grounds.shadeAt(ground, now.place[part]) > mean ? 1 : -1;
            }
        }
        return more;
    }

    // ---- what is learnt.

    public int learn(int ground, int answer) {
        if (!isGround(ground) || !within(answer, 0, 9)) {
            return BAD;
        }
        if (now.learnt >= MOST_LEARNT) {
            return FULL;
        }
        lessons.answers[now.learnt] = answer;
        System.arraycopy(grounds.askAll(ground, now.rules[EDGE]), 0, lessons.asked[now.learnt], 0, QUESTIONS);
        return now.learnt++;
    }

    public int apart(int set) {
        if (!within(set, 0, 15)) {
            return BAD;
        }
        return lessons.tellsApart(set, now.learnt) ? 1 : 0;
    }

    public int fewest() {
        int best = NONE;
        for (int set = 0; set <= 15; set++) {
            boolean fewer = best == NONE || Integer.bitCount(set) < Integer.bitCount(best);
            if (fewer && lessons.tellsApart(set, now.learnt)) {
                best = set;
            }
        }
        return best;
    }

    public int watch(int set) {
        if (!within(set, 0, (1 << WATCHED_PARTS) - 1)) {
            return BAD;
        }
        if (now.watched >= MOST_WATCHED) {
            return FULL;
        }
        lessons.rows[now.watched] = set;
        return now.watched++;
    }

    public int alike(int one, int other) {
        if (!within(one, 0, WATCHED_PARTS - 1) || !within(other, 0, WATCHED_PARTS - 1) || one == other) {
            return BAD;
        }
        return lessons.marksOf(one, now.watched, NONE) == lessons.marksOf(other, now.watched, NONE) ? 1 : 0;
    }

    public int kinds(int row) {
        return within(row, -1, now.watched - 1) ? lessons.unlike(now, row) : BAD;
    }

    public int parts() {
        int best = NONE;
        int fewest = WATCHED_PARTS + 1;
        for (int row = 0; row < now.watched; row++) {
            int left = lessons.unlike(now, row);
            if (left < fewest) {
                fewest = left;
                best = row;
            }
        }
        return best;
    }

    // ---- rows, images.

    public int tell(int v) {
        if (waits >= MOST_WAITING) {
            return FULL;
        }
        waiting[waits++] = v;
        return waits;
    }

    public int check(int n) {
        int told = waits;
        waits = 0;
        if (!within(n, 1, 30)) {
            return BAD;
        }
        if (!kept) {
            return NO;
        }
        trial.becomes(image);
        int right = 0;
        for (int due = 0; due < 2 * n; due += 2) {
            trial.goOn();
            if (right == due && right < told && waiting[right] == trial.allSizes()) {
                right++;
            }
            if (right == due + 1 && right < told && waiting[right] == spotAll(trial, 0)) {
                right++;
            }
        }
        return right == 2 * n && told == 2 * n ? 0 : 1 + right;
    }

    public int keep() {
        image.becomes(now);
        kept = true;
        return now.tick;
    }

    public int back() {
        if (!kept) {
            return NO;
        }
        now.becomes(image);
        return now.tick;
    }

    public int count(int what) {
        switch (what) {
            case 0: return now.parts;
            case BAG: case MIRROR: case WHITE: case BUMP: case DEAD: return now.partsOf(what);
            case 6: return now.allSizes();
            case 7: return now.texts;
            case 8: return now.learnt;
            case 9: return now.watched;
            case 10: return grounds.linesThere();
            case 11: return waits;
            case 12: return tape.length;
            case 13: return now.tick;
            default: return BAD;
        }
    }

    // ---- what several of them use.

    private void lookAt(State skin, int ground) {
        eye.face(grounds, ground);
        eye.look(skin);
        eye.findMoves(skin);
        eye.findEdges(skin.rules[EDGE]);
    }

    private int spotAll(State skin, int ground) {
        lookAt(skin, ground);
        return eye.spotAll(texts, texts.counting(EYE, skin));
    }

    private static boolean within(int v, int least, int most) {
        return v >= least && v <= most;
    }

    private static boolean isGround(int ground) {
        return within(ground, 0, GROUNDS - 1);
    }

    private static int held(int v, int most) {
        return Math.max(0, Math.min(most, v));
    }

    private static int replaced(int[] row, int at, int v) {
        int before = row[at];
        row[at] = v;
        return before;
    }

    /** The PLACE beside a PLACE; NONE beyond the rim. */
    private static int beside(int place, int side) {
        int x = place % WIDTH;
        switch (side) {
            case LEFT: return x > 0 ? place - 1 : NONE;
            case RIGHT: return x < WIDTH - 1 ? place + 1 : NONE;
            case UP: return place >= WIDTH ? place - WIDTH : NONE;
            default: return place < PLACES - WIDTH ? place + WIDTH : NONE;
        }
    }

    /** All that an IMAGE keeps. TEXTS, LEARNT GROUNDS and WATCHED rows only ever grow, so their numbers are enough. */
    private static final class State {
        private int parts = 0;
        private final int[] kind = new int[PLACES];
        private final int[] place = new int[PLACES];
        private final int[] a = new int[PLACES];
        private final int[] span = new int[PLACES];
        private final int[] nerve = new int[PLACES];
        private final int[] size = new int[PLACES];
        private final int[] partAt = new int[PLACES];
        private final int[] was = new int[PLACES];
        private final int[] group = new int[NERVES];
        private final int[] weight = new int[NERVES];
        private final int[] pull = new int[GROUPS];
        private final int[] rules = new int[RULES];
        private int tick = 0;
        private int texts = 0;
        private int learnt = 0;
        private int watched = 0;

        private State() {
            for (int at = 0; at < PLACES; at++) {
                partAt[at] = NONE;
                was[at] = 50;
            }
            for (int at = 0; at < NERVES; at++) {
                weight[at] = 5;
            }
            for (int at = 0; at < RULES; at++) {
                rules[at] = RULE_AT_FIRST[at];
            }
        }

        private void becomes(State other) {
            parts = other.parts;
            System.arraycopy(other.kind, 0, kind, 0, PLACES);
            System.arraycopy(other.place, 0, place, 0, PLACES);
            System.arraycopy(other.a, 0, a, 0, PLACES);
            System.arraycopy(other.span, 0, span, 0, PLACES);
            System.arraycopy(other.nerve, 0, nerve, 0, PLACES);
            System.arraycopy(other.size, 0, size, 0, PLACES);
            System.arraycopy(other.partAt, 0, partAt, 0, PLACES);
            System.arraycopy(other.was, 0, was, 0, PLACES);
            System.arraycopy(other.group, 0, group, 0, NERVES);
            System.arraycopy(other.weight, 0, weight, 0, NERVES);
            System.arraycopy(other.pull, 0, pull, 0, GROUPS);
            System.arraycopy(other.rules, 0, rules, 0, RULES);
            tick = other.tick;
            texts = other.texts;
            learnt = other.learnt;
            watched = other.watched;
        }

        private int add(int itsKind, int itsPlace, int itsA, int itsSpan, int itsNerve) {
            kind[parts] = itsKind;
            place[parts] = itsPlace;
            a[parts] = itsA;
            span[parts] = itsSpan;
            nerve[parts] = itsNerve;
            size[parts] = 0;
            partAt[itsPlace] = parts;
            return parts++;
        }

        private boolean isOf(int part, int asked) {
            int above = KIND_ABOVE[kind[part]];
            return kind[part] == asked || above == asked || above != NONE && KIND_ABOVE[above] == asked;
        }

        private int aimOf(int part) {
            int drawn = Math.min(span[part], pull[group[nerve[part]]] * weight[nerve[part]] / 5);
            switch (kind[part]) {
                case MIRROR: return span[part] - drawn;
                case WHITE: return span[part];
                case BUMP: return drawn / 2;
                case DEAD: return size[part];
                default: return drawn;
            }
        }

        private int paceOf(int part) {
            switch (kind[part]) {
                case BAG: return a[part] > 4 ? 2 : 1;
                case MIRROR: return 2;
                case WHITE: return 9;
                case DEAD: return 0;
                default: return 1;
            }
        }

        private int givenBy(int part) {
            switch (kind[part]) {
                case BAG: return -a[part] * size[part];
                case MIRROR: return 2 * size[part];
                case WHITE: return 2 * size[part] + a[part];
                case BUMP: return size[part];
                default: return 0;
            }
        }

        private int heightAt(int at) {
            int part = partAt[at];
            return part != NONE && kind[part] == BUMP ? size[part] : 0;
        }

        private int lightAt(int at) {
            int rise = heightAt(at) - (at < WIDTH ? 0 : heightAt(at - WIDTH));
            int given = partAt[at] == NONE ? 0 : givenBy(partAt[at]);
            return held(rules[TONE] + given + rules[ABOVE] * rise, MOST_LIGHT);
        }

        private void markWas() {
            for (int at = 0; at < PLACES; at++) {
                was[at] = lightAt(at);
            }
        }

        /** One TICK goes by. No AIM hangs on the SIZE of another PART, so each can go as soon as its own is found. */
        private void goOn() {
            markWas();
            for (int part = 0; part < parts; part++) {
                int pace = paceOf(part);
                int way = aimOf(part) - size[part];
                size[part] += Math.max(-pace, Math.min(pace, way));
            }
            tick++;
        }

        /** All SIZES become their AIMS: how many changed. */
        private int settle() {
            int changed = 0;
            for (int part = 0; part < parts; part++) {
                int aim = aimOf(part);
                changed += replaced(size, part, aim) == aim ? 0 : 1;
            }
            return changed;
        }

        private int ticksToRest() {
            int most = 0;
            for (int part = 0; part < parts; part++) {
                int pace = paceOf(part);
                int way = Math.abs(aimOf(part) - size[part]);
                if (pace > 0) {
                    most = Math.max(most, (way + pace - 1) / pace);
                }
            }
            return most;
        }

        private int allSizes() {
            int sum = 0;
            for (int part = 0; part < parts; part++) {
                sum += size[part];
            }
            return sum;
        }

        private int partsOf(int asked) {
            int many = 0;
            for (int part = 0; part < parts; part++) {
                many += kind[part] == asked ? 1 : 0;
            }
            return many;
        }
    }

    /** The LINES, and what is asked of the GROUNDS that they tell. */
    private static final class Grounds {
        private final int[] sort = new int[LINES];
        private final int[] length = new int[LINES];
        private final int[][] numbers = new int[LINES][MOST_LINE];
        private final int[] shades = new int[PLACES];
        private final int[] answers = new int[QUESTIONS];

        private Grounds() {
            for (int line = 0; line < LINES; line++) {
                sort[line] = MISSING;
            }
        }

        private int make(int line, int itsSort, int n) {
            sort[line] = itsSort;
            length[line] = n;
            for (int at = 0; at < MOST_LINE; at++) {
                numbers[line][at] = 0;
            }
            return n;
        }

        private boolean has(int line, int at, int many) {
            return many >= 0 && at >= 0 && at <= length[line] - many;
        }

        private int linesThere() {
            int many = 0;
            for (int line = 0; line < LINES; line++) {
                many += sort[line] == MISSING ? 0 : 1;
            }
            return many;
        }

        private int shadeAt(int ground, int place) {
            int line = ground * LINES_OF_A_GROUND + place / WIDTH;
            int x = place % WIDTH;
            if (sort[line] == MISSING || x >= length[line]) {
                return 50;
            }
            return held(numbers[line][x], MOST_LIGHT);
        }

        /** The answers to all QUESTIONS of a GROUND, in a row that the next asking uses again. */
        private int[] askAll(int ground, int edge) {
            for (int place = 0; place < PLACES; place++) {
                shades[place] = shadeAt(ground, place);
            }
            answers[0] = mean();
            answers[1] = allDifferences() / TWOS;
            answers[2] = allEdges(edge);
            answers[3] = brightOnes(edge);
            return answers;
        }

        private int mean() {
            int sum = 0;
            for (int place = 0; place < PLACES; place++) {
                sum += shades[place];
            }
            return sum / PLACES;
        }

        private int difference(int place, int side) {
            int other = beside(place, side);
            return other == NONE ? 0 : Math.abs(shades[place] - shades[other]);
        }

        private int allDifferences() {
            int sum = 0;
            for (int place = 0; place < PLACES; place++) {
                // to the right and below alone: so each two is met once
                sum += difference(place, RIGHT) + difference(place, DOWN);
            }
            return sum;
        }

        private int allEdges(int edge) {
            int many = 0;
            for (int place = 0; place < PLACES; place++) {
                many += difference(place, RIGHT) >= edge ? 1 : 0;
                many += difference(place, DOWN) >= edge ? 1 : 0;
            }
            return many;
        }

        private int brightOnes(int edge) {
            int many = 0;
            for (int place = 0; place < PLACES; place++) {
                boolean bright = true;
                for (int side = LEFT; side < SIDES; side++) {
                    int other = beside(place, side);
                    bright = bright && (other == NONE || shades[place] - shades[other] >= edge);
                }
                many += bright ? 1 : 0;
            }
            return many;
        }
    }

    /**
     * THE TAPE, and the reading of it as a TEXT. What is read becomes a row in which each sign stands behind what it
     * joins: NUMBERS as they are, the NAMES as -1 .. -4, a sign as its byte less than 0.
     */
    private static final class Tape {
        private static final int COMPARES = 3;

        private final byte[] bytes = new byte[MOST_TAPE];
        private int length = 0;
        private int start = 0;
        private int end = 0;
        private String names = "";
        private int group = 0;
        private final int[] code = new int[MOST_TAPE];
        private int size = 0;
        private int operands = 0;
        private final int[] open = new int[MOST_TAPE];
        private int opened = 0;
        private int parens = 0;
        private int nots = 0;
        private boolean wanting = true;

        private void take(int four) {
            for (int shift = 24; shift >= 0; shift -= 8) {
                bytes[length++] = (byte) (four >> shift);
            }
        }

        /** The place of the FAULT, or -1 if there is none. */
        private int read() {
            end = 0;
            size = 0;
            operands = 0;
            opened = 0;
            parens = 0;
            nots = 0;
            wanting = true;
            if (!readHead()) {
                return start;
            }
            step();
            for (int words = 0; words < length && start < length; words++) {
                boolean goesOn = !glued() && (wanting ? readPiece() : readLink());
                if (!goesOn) {
                    return start;
                }
                step();
            }
            if (wanting || parens > 0) {
                return length;
            }
            close(1);
            return -1;
        }

        /** Goes to the next word or sign: from start, to end. At the end both are the length. */
        private void step() {
            start = end;
            while (start < length && bytes[start] == ' ') {
                start++;
            }
            end = Math.min(length, start + 1);
            if (start < length && isLetter(start)) {
                while (end < length && isLetter(end)) {
                    end++;
                }
            } else if (start < length && isDigit(start)) {
                while (end < length && isDigit(end)) {
                    end++;
                }
            }
        }

        private boolean isLetter(int at) {
            return bytes[at] >= 'a' && bytes[at] <= 'z';
        }

        private boolean isDigit(int at) {
            return bytes[at] >= '0' && bytes[at] <= '9';
        }

        private boolean isWord(int at) {
            return isLetter(at) || isDigit(at);
        }

        /** Whether a word stands right behind another one. */
        private boolean glued() {
            return start > 0 && start < length && isWord(start) && isWord(start - 1);
        }

        private boolean readHead() {
            step();
            if (spells("eye")) {
                names = "dgmc";
                group = EYE;
                return true;
            }
            if (!spells("pull")) {
                return false;
            }
            names = "lreb";
            step();
            if (glued() || end - start != 1 || !isDigit(start) || bytes[start] - '0' >= GROUPS) {
                return false;
            }
            group = bytes[start] - '0';
            return true;
        }

        private boolean spells(String word) {
            if (end - start != word.length()) {
                return false;
            }
            for (int i = 0; i < word.length(); i++) {
                if (bytes[start + i] != word.charAt(i)) {
                    return false;
                }
            }
            return true;
        }

        /** Reads what may stand where a PIECE begins. */
        private boolean readPiece() {
            if (isDigit(start)) {
                return end - start <= 4 && putOperand(number());
            }
            if (isLetter(start)) {
                int name = end - start == 1 ? names.indexOf((char) bytes[start]) : -1;
                return name >= 0 && putOperand(-1 - name);
            }
            if (bytes[start] == '!') {
                nots++;
            } else if (bytes[start] == '(') {
                parens++;
            } else {
                return false;
            }
            hold(bytes[start]);
            return nots <= MOST_OPEN && parens <= MOST_OPEN;
        }

        /** A sign stays open, till what it joins is put down. */
        private void hold(int sign) {
            if (opened < MOST_TAPE) {
                open[opened++] = sign;
            }
        }

        private void putDown(int word) {
            if (size < MOST_TAPE) {
                code[size++] = word;
            }
        }

        private int number() {
            int value = 0;
            for (int at = start; at < end; at++) {
                value = value * 10 + bytes[at] - '0';
            }
            return value;
        }

        private boolean putOperand(int operand) {
            putDown(operand);
            operands++;
            endPiece();
            return true;
        }

        private void endPiece() {
            wanting = false;
            while (opened > 0 && open[opened - 1] == '!') {
                opened--;
                nots--;
                putDown(-'!');
            }
        }

        /** Reads what may stand behind a PIECE. */
        private boolean readLink() {
            if (bytes[start] == ')') {
                if (parens == 0) {
                    return false;
                }
                close(1);
                opened--;
                parens--;
                endPiece();
                return true;
            }
            int level = levelOf(bytes[start]);
            if (level == 0) {
                return false;
            }
            close(level + 1);
            // a TEST compares once at most
            if (level == COMPARES && opened > 0 && levelOf(open[opened - 1]) == COMPARES) {
                return false;
            }
            close(level);
            hold(bytes[start]);
            wanting = true;
            return true;
        }

        /** Puts down the open signs that hold together no looser than a level, up to the last open parenthesis. */
        private void close(int level) {
            while (opened > 0 && levelOf(open[opened - 1]) >= level) {
                opened--;
                putDown(-open[opened]);
            }
        }

        private static int levelOf(int sign) {
            switch (sign) {
                case '|': return 1;
                case '&': return 2;
                case '<': case '=': case '>': return COMPARES;
                case '+': case '-': return 4;
                case '*': case '/': return 5;
                default: return 0;
            }
        }
    }

    /** The TEXTS; how many there are is told by the State. */
    private static final class Texts {
        private static final int LAST_NAME = -4;

        private final int[] group = new int[MOST_TEXTS];
        private final int[] since = new int[MOST_TEXTS];
        private final int[] operands = new int[MOST_TEXTS];
        private final int[] size = new int[MOST_TEXTS];
        private final int[][] code = new int[MOST_TEXTS][MOST_TAPE];
        private final int[] stack = new int[MOST_TAPE];

        private void store(int text, int tick, Tape tape) {
            group[text] = tape.group;
            since[text] = tick;
            operands[text] = tape.operands;
            size[text] = tape.size;
            System.arraycopy(tape.code, 0, code[text], 0, tape.size);
        }

        /** The TEXT that counts for a GROUP or the eye in the TICK of a State. */
        private int counting(int asked, State state) {
            int best = NONE;
            for (int text = 0; text < state.texts; text++) {
                boolean inForce = group[text] == asked && since[text] <= state.tick;
                if (inForce && (best == NONE || since[text] >= since[best])) {
                    best = text;
                }
            }
            return best;
        }

        /** What a TEXT gives for its four NAMES. */
        private int worth(int text, int a, int b, int c, int d) {
            int top = 0;
            for (int i = 0; i < size[text]; i++) {
                int word = code[text][i];
                if (word >= 0) {
                    stack[top++] = word;
                } else if (word >= LAST_NAME) {
                    stack[top++] = word == -1 ? a : word == -2 ? b : word == -3 ? c : d;
                } else if (word == -'!' && top > 0) {
                    stack[top - 1] = stack[top - 1] == 0 ? 1 : 0;
                } else if (top > 1) {
                    top--;
                    stack[top - 1] = joined(-word, stack[top - 1], stack[top]);
                }
            }
            return stack[0];
        }

        private static int joined(int sign, int left, int right) {
            switch (sign) {
                case '|': return left != 0 || right != 0 ? 1 : 0;
                case '&': return left != 0 && right != 0 ? 1 : 0;
                case '<': return left < right ? 1 : 0;
                case '=': return left == right ? 1 : 0;
                case '>': return left > right ? 1 : 0;
                case '+': return left + right;
                case '-': return left - right;
                case '*': return left * right;
                default: return right == 0 ? 0 : left / right;
            }
        }
    }

    /** The eye: it faces a GROUND, looks at a skin, and spots PLACES. */
    private static final class Eye {
        private final int[] shades = new int[PLACES];
        private final int[] lights = new int[PLACES];
        private final int[] edges = new int[PLACES];
        // stay 0 in an eye that looks at skins at rest alone
        private final int[] moves = new int[PLACES];
        private final boolean[] spots = new boolean[PLACES];
        private final int[] hanging = new int[PLACES];
        private int beasts = 0;
        private int most = 0;
        private int first = NONE;

        private void face(Grounds grounds, int ground) {
            for (int place = 0; place < PLACES; place++) {
                shades[place] = grounds.shadeAt(ground, place);
            }
        }

        private void look(State skin) {
            for (int place = 0; place < PLACES; place++) {
                lights[place] = skin.lightAt(place);
            }
        }

        private void findMoves(State skin) {
            for (int place = 0; place < PLACES; place++) {
                moves[place] = Math.abs(lights[place] - skin.was[place]);
            }
        }

        private void findEdges(int edge) {
            for (int place = 0; place < PLACES; place++) {
                edges[place] = 0;
            }
            for (int place = 0; place < PLACES; place++) {
                if (place % WIDTH != WIDTH - 1) {
                    markEdge(place, place + 1, edge);
                }
                if (place < PLACES - WIDTH) {
                    markEdge(place, place + WIDTH, edge);
                }
            }
        }

        private void markEdge(int one, int other, int edge) {
            if (Math.abs(lights[one] - lights[other]) >= edge) {
                edges[one]++;
                edges[other]++;
            }
        }

        /** Whether a PLACE is SEEN by a TEXT, or, if that is NONE, by an eye without one. */
        private boolean sees(int place, Texts texts, int text) {
            int differs = Math.abs(lights[place] - shades[place]);
            if (text == NONE) {
                return differs > 9;
            }
            return texts.worth(text, differs, shades[place], moves[place], edges[place]) != 0;
        }

        private int spotAll(Texts texts, int text) {
            int all = 0;
            for (int place = 0; place < PLACES; place++) {
                spots[place] = sees(place, texts, text);
                all += spots[place] ? 1 : 0;
            }
            return all;
        }

        private int allDiffering() {
            int sum = 0;
            for (int place = 0; place < PLACES; place++) {
                sum += Math.abs(lights[place] - shades[place]);
            }
            return sum;
        }

        /** Takes the spots for BEASTS, and rubs them out. */
        private void gather() {
            beasts = 0;
            most = 0;
            first = NONE;
            for (int place = 0; place < PLACES; place++) {
                int many = spots[place] ? follow(place) : 0;
                beasts += many > 0 ? 1 : 0;
                if (many > most) {
                    most = many;
                    first = place;
                }
            }
        }

        /** How many spots hang together with one; a spot is rubbed out where it is met, so none is met twice. */
        private int follow(int place) {
            hanging[0] = place;
            spots[place] = false;
            int many = 1;
            for (int at = 0; at < many && at < PLACES; at++) {
                for (int side = LEFT; side < SIDES; side++) {
                    int other = beside(hanging[at], side);
                    if (other != NONE && spots[other] && many < PLACES) {
                        spots[other] = false;
                        hanging[many++] = other;
                    }
                }
            }
            return many;
        }
    }

    /** Tries all PULLS of some GROUPS for HIDING and MISSES, on a skin and with an eye of its own. */
    private static final class Search {
        private static final int MOST_CHOSEN = 3, PULLS = MOST_PULL + 1, LIGHTS = MOST_LIGHT + 1, EDGES = 5;
        // above all that can be found: 48 PLACES that miss by 99 each
        private static final int NOTHING_FOUND = PLACES * LIGHTS;

        private final State skin = new State();
        private final Eye eye = new Eye();
        private final int[] chosen = new int[MOST_CHOSEN];
        private int many = 0;
        private final boolean[] idle = new boolean[MOST_CHOSEN * PULLS];
        // of each PLACE with a LIGHT: a bit for each number of edges that was judged, and above these one if SEEN
        private final int[] judged = new int[PLACES * LIGHTS];
        private int least = 0;
        private int pulls = 0;

        /** Takes GROUPS as they are told; false, if they are not told so. */
        private boolean choose(int groups) {
            if (!within(groups, 0, 999)) {
                return false;
            }
            many = groups > 99 ? 3 : groups > 9 ? 2 : 1;
            int left = groups;
            for (int i = many - 1; i >= 0; i--) {
                chosen[i] = left % 10;
                left /= 10;
                for (int other = i + 1; other < many; other++) {
                    if (chosen[other] == chosen[i]) {
                        return false;
                    }
                }
                if (chosen[i] >= GROUPS) {
                    return false;
                }
            }
            return true;
        }

        private void begin(State now, Grounds grounds, int ground) {
            skin.becomes(now);
            eye.face(grounds, ground);
            findIdle();
            least = NOTHING_FOUND;
            pulls = 0;
        }

        private int allTries() {
            return many == 3 ? PULLS * PULLS * PULLS : many == 2 ? PULLS * PULLS : PULLS;
        }

        private void seek(Texts texts, int text) {
            int all = allTries();
            forgetJudged();
            for (int tried = 0; tried < all && least > 0; tried++) {
                if (puts(tried)) {
                    weigh(tried, allSeen(texts, text));
                }
            }
        }

        private void match() {
            int all = allTries();
            for (int tried = 0; tried < all && least > 0; tried++) {
                if (puts(tried)) {
                    weigh(tried, eye.allDiffering());
                }
            }
        }

        private void weigh(int tried, int got) {
            if (got < least) {
                least = got;
                pulls = tried;
            }
        }

        /** A PULL is idle that leads to the same AIMS as the one less by 1: it can't be the first of the best. */
        private void findIdle() {
            for (int i = 0; i < many; i++) {
                int group = chosen[i];
                for (int pull = 1; pull < PULLS; pull++) {
                    skin.pull[group] = pull - 1;
                    skin.settle();
                    skin.pull[group] = pull;
                    idle[i * PULLS + pull] = skin.settle() == 0;
                }
            }
        }

        /** Puts on the PULLS that are told as digits, and looks; false, if one of them is idle. */
        private boolean puts(int digits) {
            int left = digits;
            for (int i = many - 1; i >= 0; i--) {
                int pull = left % PULLS;
                if (idle[i * PULLS + pull]) {
                    return false;
                }
                skin.pull[chosen[i]] = pull;
                left /= PULLS;
            }
            skin.settle();
            eye.look(skin);
            return true;
        }

        private int allSeen(Texts texts, int text) {
            eye.findEdges(skin.rules[EDGE]);
            int all = 0;
            for (int place = 0; place < PLACES; place++) {
                all += seenOnce(place, texts, text);
            }
            return all;
        }

        private void forgetJudged() {
            for (int at = 0; at < judged.length; at++) {
                judged[at] = 0;
            }
        }

        /** 1 if a PLACE is SEEN; many PULLS lead to the same LIGHT, for which the TEXT is worked out once. */
        private int seenOnce(int place, Texts texts, int text) {
            int at = place * LIGHTS + eye.lights[place];
            int known = 1 << eye.edges[place];
            int seen = known << EDGES;
            if ((judged[at] & known) == 0) {
                judged[at] |= known;
                if (eye.sees(place, texts, text)) {
                    judged[at] |= seen;
                }
            }
            return (judged[at] & seen) == 0 ? 0 : 1;
        }
    }

    /** LEARNT GROUNDS and WATCHED rows; how many there are is told by the State. */
    private static final class Lessons {
        private final int[] answers = new int[MOST_LEARNT];
        private final int[][] asked = new int[MOST_LEARNT][QUESTIONS];
        private final int[] rows = new int[MOST_WATCHED];
        private final int[] marks = new int[WATCHED_PARTS];

        private boolean tellsApart(int set, int learnt) {
            for (int one = 0; one < learnt; one++) {
                for (int other = 0; other < one; other++) {
                    if (answers[one] != answers[other] && !differ(one, other, set)) {
                        return false;
                    }
                }
            }
            return true;
        }

        private boolean differ(int one, int other, int set) {
            for (int question = 0; question < QUESTIONS; question++) {
                boolean isAsked = (set >> question & 1) == 1;
                if (isAsked && asked[one][question] != asked[other][question]) {
                    return true;
                }
            }
            return false;
        }

        /** The rows in which a PART moved, as bits, but for one row. */
        private int marksOf(int part, int watched, int without) {
            int bits = 0;
            for (int row = 0; row < watched; row++) {
                if (row != without) {
                    bits |= (rows[row] >> part & 1) << row;
                }
            }
            return bits;
        }

        /** KINDS OF NERVES without a row. */
        private int unlike(State now, int without) {
            int many = Math.min(now.parts, WATCHED_PARTS);
            int unlike = 0;
            for (int part = 0; part < many; part++) {
                marks[part] = marksOf(part, now.watched, without);
                boolean fresh = true;
                for (int other = 0; other < part; other++) {
                    fresh = fresh && marks[other] != marks[part];
                }
                unlike += fresh ? 1 : 0;
            }
            return unlike;
        }
    }
}
