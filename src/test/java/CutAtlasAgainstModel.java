import java.util.ArrayList;
import java.util.Arrays;
import java.util.List;
import java.util.Random;

/** Random runs of calls (always the same ones), each answer beside that of a model that tries all sets of places. */
public final class CutAtlasAgainstModel {
    private static final int RUNS = 2000;
    private static final int ENDLESS_ROOM = 1000000;
    // One step of a run asks no more than this at once: what flows over each line, with trace() and status().
    private static final int MAX_CALLS_OF_A_STEP = 43;
    private static final int MAX_CALLS = 512;
    private static int wrong = 0;

    public static void main(String[] args) {
        for (int run = 0; run < RUNS && wrong < 20; run++) {
            new Run(run).go();
        }
        for (int run = 0; run < 400 && wrong < 20; run++) {
            tryCheapest(run);
        }
        for (int run = 0; run < 600 && wrong < 20; run++) {
            cheapestWithTurns(run);
        }
        for (int run = 0; run < 300 && wrong < 20; run++) {
            betweenIsMost(run);
        }
        System.out.println(wrong == 0 ? "all answers are as the model's" : wrong + " answers are not as the model's");
        if (wrong != 0) {
            System.exit(1);
        }
    }

    /** What THE TREE tells of two PLACES is MOST, in nets as large as can be, where places exchange theirs. */
    private static void betweenIsMost(int seed) {
        Random random = new Random(seed);
        CutAtlas atlas = new CutAtlas();
        int places = 9 + random.nextInt(4);
        for (int i = 0; i < places; i++) {
            atlas.place();
        }
        int widest = 1 + random.nextInt(10);
        for (int i = 0; i < 40; i++) {
            int a = random.nextInt(places);
            int b = (a + 1 + random.nextInt(places - 1)) % places;
            atlas.line(3 * random.nextInt(2), a, b, random.nextInt(widest + 1), 0);
        }
        int least = Integer.MAX_VALUE;
        for (int a = 0; a < places; a++) {
            for (int b = 0; b < a; b++) {
                int most = atlas.most(b, a);
                least = Math.min(least, most);
                betweenDue(seed, atlas.between(a, b), most, a, b);
                betweenDue(seed, atlas.between(b, a), most, b, a);
            }
        }
        if (atlas.least() != least) {
            wrong++;
            System.out.println("large net " + seed + ": least() is not " + least);
        }
    }

    private static void betweenDue(int seed, int got, int due, int a, int b) {
        if (got != due) {
            wrong++;
            System.out.println("large net " + seed + ": between(" + a + ", " + b + ") answered " + got + ", due is " + due);
        }
    }

    /** CHEAPEST by trying all widenings of a small net. */
    private static void tryCheapest(int seed) {
        Random random = new Random(seed);
        CutAtlas atlas = new CutAtlas();
        Model model = new Model();
        int places = 2 + random.nextInt(4);
        for (int i = 0; i < places; i++) {
            atlas.place();
            model.place();
        }
        int dear = 0;
        int lines = 1 + random.nextInt(7);
        for (int i = 0; i < lines; i++) {
            int kind = random.nextInt(6) == 0 ? random.nextInt(3) : 3 + random.nextInt(2);
            if (kind >= 3 && ++dear > 5) {
                kind = 0;
            }
            int a = random.nextInt(places);
            int b = (a + 1 + random.nextInt(places - 1)) % places;
            int width = random.nextInt(3);
            int price = random.nextInt(8);
            atlas.line(kind, a, b, width, price);
            model.line(kind, a, b, width, price);
        }
        for (int k = 0; k <= 4; k++) {
            int got = atlas.cheapest(0, 1, k);
            int due = model.cheapestByTrying(0, 1, k, 0);
            due = due == Integer.MAX_VALUE ? CutAtlas.NONE : due;
            if (got != due) {
                wrong++;
                System.out.println("net " + seed + ": cheapest(0, 1, " + k + ") answered " + got + ", due is " + due);
            }
        }
    }

    /** CHEAPEST of nets where what was widened for a few is given back for more of them. */
    private static void cheapestWithTurns(int seed) {
        Random random = new Random(seed);
        CutAtlas atlas = new CutAtlas();
        Model model = new Model();
        int places = 4 + random.nextInt(3);
        for (int i = 0; i < places; i++) {
            atlas.place();
            model.place();
        }
        for (int x = 2; x < places; x++) {
            for (int end = 0; end < 2; end++) {
                bothLine(atlas, model, random.nextInt(2), end == 0 ? 0 : x, end == 0 ? x : 1, random.nextInt(4), 0);
                bothLine(atlas, model, 3 + random.nextInt(2), x, end, random.nextInt(2), 8 + random.nextInt(12));
            }
            for (int y = 2; y < x; y++) {
                bothLine(atlas, model, 3, x, y, random.nextInt(3), random.nextInt(4));
            }
        }
        for (int k = 0; k <= 40; k++) {
            int got = atlas.cheapest(0, 1, k);
            int due = model.cheapest(0, 1, k);
            if (got != due) {
                wrong++;
                System.out.println("net of turns " + seed + ": cheapest(0, 1, " + k + ") answered " + got + ", due is " + due);
            }
        }
    }

    private static void bothLine(CutAtlas atlas, Model model, int kind, int a, int b, int width, int price) {
        atlas.line(kind, a, b, width, price);
        model.line(kind, a, b, width, price);
    }

    private static final class Run {
        final int number;
        final Random random;
        final CutAtlas atlas = new CutAtlas();
        final Model model = new Model();
        final int places;
        final int widest;
        final boolean whole;
        int asked = 0;

        Run(int number) {
            this.number = number;
            random = new Random(number * 7919L + 1);
            places = number % 25 == 0 ? 12 : 1 + random.nextInt(8);
            widest = new int[] {1, 3, 10, 1000}[random.nextInt(4)];
            whole = random.nextInt(3) != 0;
        }

        void go() {
            for (int i = 0; i < places; i++) {
                due("place()", atlas.place(), model.place());
            }
            int lines = random.nextInt(places > 10 ? 40 : 18);
            for (int i = 0; i < lines; i++) {
                someLine();
            }
            int calls = places > 10 ? 60 : 150;
            for (int i = 0; i < calls && wrong < 20 && asked + MAX_CALLS_OF_A_STEP <= MAX_CALLS; i++) {
                call(random.nextInt(40));
                due("trace()", atlas.trace(), model.trace);
                due("status()", atlas.status(), model.status);
            }
        }

        void due(String call, long got, long want) {
            asked++;
            if (got != want) {
                wrong++;
                System.out.println("run " + number + ": " + call + " answered " + got + ", due is " + want);
            }
        }

        /** Mostly a number of 0 .. bound - 1, at times one beside these. */
        int some(int bound) {
            int chance = random.nextInt(40);
            if (chance == 0) {
                return -1 - random.nextInt(2);
            }
            if (chance == 1) {
                return bound + random.nextInt(2);
            }
            if (chance == 2) {
                return random.nextBoolean() ? Integer.MAX_VALUE : Integer.MIN_VALUE;
            }
            return bound <= 0 ? 0 : random.nextInt(bound);
        }

        int place() {
            return some(model.places);
        }

        int line() {
            return some(model.lines.size());
        }

        void someLine() {
            int kind = whole && random.nextInt(60) != 0 ? new int[] {0, 3, 4}[random.nextInt(3)] : some(5);
            int a = place();
            int b = place();
            int width = some(widest + 1);
            int price = some(101);
            due("line(" + kind + ", " + a + ", " + b + ", " + width + ", " + price + ")",
                    atlas.line(kind, a, b, width, price), model.line(kind, a, b, width, price));
        }

        void call(int which) {
            if (which < 12) {
                callNet(which);
            } else if (which < 20) {
                callPair(which);
            } else if (which < 28) {
                callWhole(which);
            } else {
                callMaps(which);
            }
        }

        void callNet(int which) {
            int l = line();
            switch (which) {
                case 0: due("place()", atlas.place(), model.place()); break;
                case 1: case 2: someLine(); break;
                case 3: case 4: {
                    int n = some(random.nextBoolean() ? 4 : 1001);
                    due("widen(" + l + ", " + n + ")", atlas.widen(l, n), model.widen(l, n));
                    break;
                }
                case 5: {
                    int w = some(widest + 1);
                    due("width(" + l + ", " + w + ")", atlas.width(l, w), model.width(l, w));
                    break;
                }
                case 6: {
                    int a = place();
                    int b = place();
                    if (random.nextInt(3) == 0) {
                        due("merge(" + a + ", " + b + ")", atlas.merge(a, b), model.merge(a, b));
                    }
                    break;
                }
                case 7: case 8: due("undo()", atlas.undo(), model.undo()); break;
                case 9: {
                    int what = some(6);
                    due("told(" + l + ", " + what + ")", atlas.told(l, what), model.told(l, what));
                    break;
                }
                case 10: {
                    int what = some(3);
                    due("ask(" + l + ", " + what + ")", atlas.ask(l, what), model.ask(l, what));
                    break;
                }
                default: {
                    int what = some(5);
                    due("about(" + what + ")", atlas.about(what), model.about(what));
                }
            }
        }

        void callPair(int which) {
            int s = place();
            int t = place();
            String pair = "(" + s + ", " + t + ", ";
            int l = line();
            switch (which) {
                case 12: due("most" + pair, atlas.most(s, t), model.most(s, t)); break;
                case 13:
                    for (int each = 0; each < model.lines.size(); each++) {
                        due("flow" + pair + each + ")", atlas.flow(s, t, each), model.flow(s, t, each));
                    }
                    due("flow" + pair + l + ")", atlas.flow(s, t, l), model.flow(s, t, l));
                    break;
                case 14: {
                    int what = some(2);
                    due("cut" + pair + what + ")", atlas.cut(s, t, what), model.cut(s, t, what));
                    break;
                }
                case 15: due("count" + pair, atlas.count(s, t), model.count(s, t)); break;
                case 16: {
                    int i = some(6);
                    due("next" + pair + i + ")", atlas.next(s, t, i), model.next(s, t, i));
                    break;
                }
                case 17: {
                    int set = random.nextInt();
                    due("size" + pair + set + ")", atlas.size(s, t, set), model.size(s, t, set));
                    break;
                }
                case 18: due("raise" + pair + l + ")", atlas.raise(s, t, l), model.raise(s, t, l)); break;
                default: {
                    int k = some(random.nextBoolean() ? 501 : 20);
                    due("cheapest" + pair + k + ")", atlas.cheapest(s, t, k), model.cheapest(s, t, k));
                }
            }
        }

        void callWhole(int which) {
            int p = place();
            int l = line();
            int i = some(6);
            switch (which) {
                case 20: {
                    int what = some(2);
                    due("tree(" + p + ", " + what + ")", atlas.tree(p, what), model.tree(p, what));
                    break;
                }
                case 21: {
                    int b = place();
                    due("between(" + p + ", " + b + ")", atlas.between(p, b), model.between(p, b));
                    break;
                }
                case 22: due("least()", atlas.least(), model.least()); break;
                case 23: due("cuts()", atlas.cuts(), model.cuts()); break;
                case 24: due("cutAt(" + i + ")", atlas.cutAt(i), model.cutAt(i)); break;
                case 25: due("weak(" + l + ")", atlas.weak(l), model.weak(l)); break;
                case 26: {
                    int k = some(2 * widest);
                    int q = random.nextInt(3) == 0 ? -1 : p;
                    due("part(" + k + ", " + q + ")", atlas.part(k, q), model.part(k, q));
                    break;
                }
                default: {
                    int what = some(3);
                    due("dense(" + what + ")", atlas.dense(what), model.dense(what));
                }
            }
        }

        void callMaps(int which) {
            int m = random.nextInt(3) != 0 ? 0 : some(4);
            int kind = m >= 0 && m < 4 && model.maps[m] != null && random.nextInt(8) != 0 ? model.maps[m].kind : some(3);
            int r = some(3);
            int i = some(5);
            switch (which) {
                case 28: {
                    int n = some(7);
                    if (random.nextInt(3) == 0) {
                        due("map(" + m + ", " + kind + ", " + n + ")", atlas.map(m, kind, n), model.map(m, kind, n));
                    }
                    break;
                }
                case 29: case 30: {
                    int n = random.nextInt(3) != 0 ? 5 : some(6);
                    due("row(" + m + ", " + r + ", " + n + ")", atlas.row(m, r, n), model.row(m, r, n));
                    break;
                }
                case 31: case 32: fillRow(m, kind, r); break;
                case 33: {
                    long v = random.nextLong();
                    due("put(" + m + ", " + kind + ", " + r + ", " + i + ", " + v + ")",
                            atlas.put(m, kind, r, i, v), model.put(m, kind, r, i, v));
                    break;
                }
                case 34: case 35: {
                    int other = some(3);
                    int j = some(5);
                    int n = some(4);
                    due("copy(" + m + ", " + r + ", " + i + ", " + other + ", " + j + ", " + n + ")",
                            atlas.copy(m, r, i, other, j, n), model.copy(m, r, i, other, j, n));
                    break;
                }
                case 36: case 37:
                    due("item(" + m + ", " + kind + ", " + r + ", " + i + ")",
                            atlas.item(m, kind, r, i), model.item(m, kind, r, i));
                    break;
                default: due("read(" + m + ")", atlas.read(m), model.read(m));
            }
        }

        void fillRow(int m, int kind, int r) {
            long[] numbers = {some(5), place(), place(), some(widest + 1), some(101)};
            for (int i = 0; i < 5; i++) {
                due("put(" + m + ", " + kind + ", " + r + ", " + i + ", " + numbers[i] + ")",
                        atlas.put(m, kind, r, i, numbers[i]), model.put(m, kind, r, i, numbers[i]));
            }
        }
    }

    private static final class Wire {
        int kind;
        int a;
        int b;
        int width;
        int price;
        boolean missing;

        Wire same() {
            Wire w = new Wire();
            w.kind = kind;
            w.a = a;
            w.b = b;
            w.width = width;
            w.price = price;
            w.missing = missing;
            return w;
        }
    }

    private static final class Then {
        int places;
        List<Wire> lines = new ArrayList<>();
    }

    private static final class Rows {
        int kind;
        long[][] rows;
    }

    /** The document's words, told as plainly as can be. */
    private static final class Model {
        int places = 0;
        List<Wire> lines = new ArrayList<>();
        List<Then> past = new ArrayList<>();
        Rows[] maps = new Rows[4];
        long trace = 0;
        int status = 0;

        void save() {
            Then then = new Then();
            then.places = places;
            for (Wire w : lines) {
                then.lines.add(w.same());
            }
            past.add(then);
            if (past.size() > 30) {
                past.remove(0);
            }
        }

        boolean isPlace(int p) {
            return p >= 0 && p < places;
        }

        boolean isPair(int a, int b) {
            return isPlace(a) && isPlace(b) && a != b;
        }

        boolean isLine(int l) {
            return l >= 0 && l < lines.size();
        }

        boolean isWhole() {
            for (Wire w : lines) {
                if (!w.missing && (w.kind == 1 || w.kind == 2)) {
                    return false;
                }
            }
            return places >= 2;
        }

        int place() {
            if (places == 12) {
                return -3;
            }
            save();
            return places++;
        }

        int lineRefusal(int kind, int a, int b, int width, int price) {
            if (kind < 0 || kind > 4 || !isPair(a, b) || width < 0 || width > 1000 || price < 0 || price > 100) {
                return -1;
            }
            return lines.size() == 40 ? -3 : 0;
        }

        void come(int kind, int a, int b, int width, int price) {
            Wire w = new Wire();
            w.kind = kind;
            w.a = a;
            w.b = b;
            w.width = kind == 4 ? 0 : width;
            w.price = price;
            lines.add(w);
        }

        int line(int kind, int a, int b, int width, int price) {
            int refusal = lineRefusal(kind, a, b, width, price);
            if (refusal != 0) {
                return refusal;
            }
            save();
            come(kind, a, b, width, price);
            trace += kind == 4 ? 1000000 : 0;
            return lines.size() - 1;
        }

        int widen(int l, int n) {
            if (!isLine(l) || n < 0 || n > 1000) {
                return -1;
            }
            Wire w = lines.get(l);
            if (w.kind < 3 || w.missing || w.width + n > 2000) {
                return -2;
            }
            save();
            w.width += n;
            trace += w.kind == 3 ? 10000 : 110000;
            return n * (w.kind == 3 ? w.price : w.price + 1);
        }

        int width(int l, int width) {
            if (!isLine(l) || width < 0 || width > 1000) {
                return -1;
            }
            if (lines.get(l).missing) {
                return -2;
            }
            save();
            int was = lines.get(l).width;
            lines.get(l).width = width;
            return was;
        }

        int merge(int a, int b) {
            if (!isPair(a, b)) {
                return -1;
            }
            save();
            int low = Math.min(a, b);
            int high = Math.max(a, b);
            int lost = 0;
            for (Wire w : lines) {
                if (!w.missing && (w.a == low && w.b == high || w.a == high && w.b == low)) {
                    w.missing = true;
                    lost++;
                }
                w.a = w.a == high ? low : w.a > high ? w.a - 1 : w.a;
                w.b = w.b == high ? low : w.b > high ? w.b - 1 : w.b;
            }
            places--;
            return lost;
        }

        int undo() {
            if (past.isEmpty()) {
                return -2;
            }
            Then then = past.remove(past.size() - 1);
            places = then.places;
            lines = then.lines;
            return past.size();
        }

        int told(int l, int what) {
            if (!isLine(l) || what < 0 || what > 5) {
                return -1;
            }
            Wire w = lines.get(l);
            return new int[] {w.kind, w.missing ? -9 : w.a, w.missing ? -9 : w.b, w.width, w.price, w.missing ? 1 : 0}[what];
        }

        int ask(int l, int what) {
            if (!isLine(l) || what < 0 || what > 2) {
                return -1;
            }
            Wire w = lines.get(l);
            int[][] marks = {{1, 1, 1000}, {11, 10, 1000}, {100, 100, 1000}, {1, 1, 10000}, {1, 1, 110000}};
            trace += marks[w.kind][what];
            if (what == 2) {
                return w.kind < 3 ? -9 : w.kind == 3 ? w.price : w.price + 1;
            }
            return w.kind == 2 ? -5 : w.kind == 1 && what == 1 ? 0 : w.width;
        }

        int room(Wire w, boolean fromA) {
            return w.kind == 2 ? ENDLESS_ROOM : w.kind == 1 && !fromA ? 0 : w.width;
        }

        int sizeOf(int set) {
            int sum = 0;
            for (Wire w : lines) {
                boolean hasA = (set >> w.a & 1) == 1;
                boolean hasB = (set >> w.b & 1) == 1;
                if (!w.missing && hasA != hasB) {
                    sum += room(w, hasA);
                }
            }
            return sum;
        }

        List<Integer> leastCuts(int s, int t) {
            List<Integer> sets = new ArrayList<>();
            int least = Integer.MAX_VALUE;
            for (int set = 0; set < 1 << places; set++) {
                if ((set >> s & 1) == 1 && (set >> t & 1) == 0) {
                    int size = sizeOf(set);
                    if (size < least) {
                        least = size;
                        sets.clear();
                    }
                    if (size == least) {
                        sets.add(set);
                    }
                }
            }
            return sets;
        }

        int most(int s, int t) {
            if (!isPair(s, t)) {
                return -1;
            }
            int size = sizeOf(leastCuts(s, t).get(0));
            return size >= ENDLESS_ROOM ? -5 : size;
        }

        int flow(int s, int t, int l) {
            if (!isPair(s, t) || !isLine(l) || lines.get(l).missing || most(s, t) == -5) {
                return -1000000;
            }
            int[] flows = new int[lines.size()];
            for (int[] from = way(s, t, flows); from != null; from = way(s, t, flows)) {
                int least = Integer.MAX_VALUE;
                for (int y = t; y != s; y = from[y]) {
                    least = Math.min(least, roomOver(from[y], y, flows));
                }
                for (int y = t; y != s; y = from[y]) {
                    letFlow(from[y], y, flows, least);
                }
            }
            return flows[l];
        }

        int roomOver(int x, int y, int[] flows) {
            int sum = 0;
            for (int l = 0; l < lines.size(); l++) {
                sum += roomOfLine(l, x, y, flows);
            }
            return sum;
        }

        int roomOfLine(int l, int x, int y, int[] flows) {
            Wire w = lines.get(l);
            if (w.missing) {
                return 0;
            }
            if (w.a == x && w.b == y) {
                return room(w, true) - flows[l];
            }
            return w.a == y && w.b == x ? room(w, false) + flows[l] : 0;
        }

        void letFlow(int x, int y, int[] flows, int amount) {
            for (int l = 0; l < lines.size(); l++) {
                int taken = Math.min(amount, roomOfLine(l, x, y, flows));
                flows[l] += lines.get(l).a == x ? taken : -taken;
                amount -= taken;
            }
        }

        int[] way(int s, int t, int[] flows) {
            int[] from = new int[places];
            Arrays.fill(from, -1);
            from[s] = s;
            List<Integer> met = new ArrayList<>();
            met.add(s);
            for (int head = 0; head < met.size(); head++) {
                for (int y = 0; y < places; y++) {
                    if (from[y] < 0 && roomOver(met.get(head), y, flows) > 0) {
                        from[y] = met.get(head);
                        met.add(y);
                    }
                }
            }
            return from[t] < 0 ? null : from;
        }

        int near(int s, int t) {
            int best = -1;
            for (int set : leastCuts(s, t)) {
                best = best < 0 || Integer.bitCount(set) < Integer.bitCount(best) ? set : best;
            }
            return best;
        }

        int cut(int s, int t, int which) {
            if (!isPair(s, t) || which < 0 || which > 1) {
                return -1;
            }
            if (most(s, t) == -5) {
                return -5;
            }
            int best = near(s, t);
            for (int set : leastCuts(s, t)) {
                best = which == 1 && Integer.bitCount(set) > Integer.bitCount(best) ? set : best;
            }
            return best;
        }

        int count(int s, int t) {
            if (!isPair(s, t)) {
                return -1;
            }
            return most(s, t) == -5 ? -5 : leastCuts(s, t).size();
        }

        int next(int s, int t, int i) {
            if (!isPair(s, t) || i < 0) {
                return -1;
            }
            if (most(s, t) == -5) {
                return -5;
            }
            List<Integer> sets = leastCuts(s, t);
            return i < sets.size() ? sets.get(i) : -9;
        }

        int size(int s, int t, int set) {
            if (!isPair(s, t)) {
                return -1;
            }
            int size = sizeOf((set & (1 << places) - 1 | 1 << s) & ~(1 << t));
            return size >= ENDLESS_ROOM ? -5 : size;
        }

        int raise(int s, int t, int l) {
            if (!isPair(s, t) || !isLine(l)) {
                return -1;
            }
            if (lines.get(l).missing) {
                return -2;
            }
            lines.get(l).width++;
            int raised = most(s, t);
            lines.get(l).width--;
            return raised;
        }

        /** Line by line and one by one: the cheapest way each time. */
        int cheapest(int s, int t, int k) {
            if (!isPair(s, t) || k < 0 || k > 500) {
                return -1;
            }
            if (most(s, t) == -5) {
                return 0;
            }
            int[] flows = new int[lines.size()];
            int paid = 0;
            for (int sent = 0; sent < k; sent++) {
                int more = sendOne(s, t, flows);
                if (more == Integer.MAX_VALUE) {
                    return -9;
                }
                paid += more;
            }
            return paid;
        }

        /** What it costs to let one more flow over a line, from its a or from its b. */
        int oneMore(Wire w, int flow, boolean fromA) {
            int along = fromA ? flow : -flow;
            int price = w.kind == 3 ? w.price : w.price + 1;
            if (along < -room(w, !fromA)) {
                return -price;
            }
            if (along < room(w, fromA)) {
                return 0;
            }
            return w.kind >= 3 ? price : Integer.MAX_VALUE;
        }

        int sendOne(int s, int t, int[] flows) {
            long[] costs = new long[places];
            int[] by = new int[places];
            Arrays.fill(costs, Integer.MAX_VALUE);
            costs[s] = 0;
            boolean better = true;
            while (better) {
                better = false;
                for (int half = 0; half < 2 * lines.size(); half++) {
                    Wire w = lines.get(half / 2);
                    boolean fromA = half % 2 == 0;
                    int x = fromA ? w.a : w.b;
                    int y = fromA ? w.b : w.a;
                    int more = w.missing ? Integer.MAX_VALUE : oneMore(w, flows[half / 2], fromA);
                    if (more != Integer.MAX_VALUE && costs[x] != Integer.MAX_VALUE && costs[x] + more < costs[y]) {
                        costs[y] = costs[x] + more;
                        by[y] = half;
                        better = true;
                    }
                }
            }
            for (int y = t; costs[t] != Integer.MAX_VALUE && y != s;) {
                Wire w = lines.get(by[y] / 2);
                flows[by[y] / 2] += by[y] % 2 == 0 ? 1 : -1;
                y = by[y] % 2 == 0 ? w.a : w.b;
            }
            return (int) costs[t];
        }

        int cheapestByTrying(int s, int t, int k, int l) {
            int now = most(s, t);
            if (now == -5 || now >= k) {
                return 0;
            }
            int best = Integer.MAX_VALUE;
            if (l < lines.size()) {
                Wire w = lines.get(l);
                int was = w.width;
                int price = w.kind == 3 ? w.price : w.price + 1;
                for (int more = 0; more <= (w.kind >= 3 ? k : 0); more++) {
                    w.width = was + more;
                    int rest = cheapestByTrying(s, t, k, l + 1);
                    best = rest == Integer.MAX_VALUE ? best : Math.min(best, rest + more * price);
                }
                w.width = was;
            }
            return best;
        }

        int tree(int place, int what) {
            if (what < 0 || what > 1) {
                return -1;
            }
            if (!isWhole()) {
                return -2;
            }
            if (!isPlace(place)) {
                return -1;
            }
            int[] next = new int[places];
            int[] number = new int[places];
            for (int i = 1; i < places; i++) {
                int t = next[i];
                int n = near(i, t);
                number[i] = most(i, t);
                for (int j = i + 1; j < places; j++) {
                    next[j] = (n >> j & 1) == 1 && next[j] == t ? i : next[j];
                }
                if (t != 0 && (n >> next[t] & 1) == 1) {
                    int had = number[i];
                    next[i] = next[t];
                    number[i] = number[t];
                    next[t] = i;
                    number[t] = had;
                }
            }
            return place == 0 ? -9 : what == 0 ? next[place] : number[place];
        }

        int between(int a, int b) {
            return !isWhole() ? -2 : most(a, b);
        }

        List<Integer> itsCuts() {
            List<Integer> sets = new ArrayList<>();
            int least = least();
            for (int set = 2; set < 1 << places; set += 2) {
                if (sizeOf(set) == least) {
                    sets.add(set);
                }
            }
            return sets;
        }

        int least() {
            if (!isWhole()) {
                return -2;
            }
            int least = Integer.MAX_VALUE;
            for (int set = 2; set < 1 << places; set += 2) {
                least = Math.min(least, sizeOf(set));
            }
            return least;
        }

        int cuts() {
            return !isWhole() ? -2 : itsCuts().size();
        }

        int cutAt(int i) {
            if (i < 0) {
                return -1;
            }
            if (!isWhole()) {
                return -2;
            }
            return i < itsCuts().size() ? itsCuts().get(i) : -9;
        }

        int weak(int l) {
            if (!isLine(l)) {
                return -1;
            }
            if (!isWhole() || lines.get(l).missing) {
                return -2;
            }
            for (int set : itsCuts()) {
                if ((set >> lines.get(l).a & 1) != (set >> lines.get(l).b & 1)) {
                    return 1;
                }
            }
            return 0;
        }

        int part(int k, int place) {
            if (k < 0) {
                return -1;
            }
            if (!isWhole()) {
                return -2;
            }
            if (place != -1 && !isPlace(place)) {
                return -1;
            }
            int[] parts = new int[places];
            int many = 0;
            Arrays.fill(parts, -1);
            for (int x = 0; x < places; x++) {
                if (parts[x] < 0) {
                    for (int y = x; y < places; y++) {
                        parts[y] = y == x || most(x, y) >= k ? many : parts[y];
                    }
                    many++;
                }
            }
            return place == -1 ? many : parts[place];
        }

        int dense(int what) {
            if (what < 0 || what > 2) {
                return -1;
            }
            if (!isWhole()) {
                return -2;
            }
            int best = 1;
            for (int set = 1; set < 1 << places; set++) {
                int mine = within(set) * Integer.bitCount(best);
                int bests = within(best) * Integer.bitCount(set);
                if (mine > bests || mine == bests && Integer.bitCount(set) > Integer.bitCount(best)) {
                    best = set;
                }
            }
            return new int[] {best, within(best), Integer.bitCount(best)}[what];
        }

        int within(int set) {
            int sum = 0;
            for (Wire w : lines) {
                sum += !w.missing && (set >> w.a & 1) == 1 && (set >> w.b & 1) == 1 ? w.width : 0;
            }
            return sum;
        }

        int map(int m, int kind, int n) {
            status = m < 0 || m > 3 || kind < 0 || kind > 2 || n > 6 ? -1 : n < 0 ? -15 : 0;
            if (status != 0) {
                return status;
            }
            maps[m] = new Rows();
            maps[m].kind = kind;
            maps[m].rows = new long[n][];
            return 1;
        }

        int row(int m, int r, int n) {
            status = m < 0 || m > 3 || n > 5 ? -1 : maps[m] == null ? -11 : r < 0 || r >= maps[m].rows.length ? -12 : n < 0 ? -15 : 0;
            if (status != 0) {
                return status;
            }
            maps[m].rows[r] = new long[n];
            return 1;
        }

        int numberRefusal(int m, int kind, int r, int i) {
            if (m < 0 || m > 3 || kind < 0 || kind > 2) {
                return -1;
            }
            if (maps[m] == null) {
                return -11;
            }
            if (maps[m].kind != kind) {
                return -13;
            }
            if (r < 0 || r >= maps[m].rows.length) {
                return -12;
            }
            long[] row = maps[m].rows[r];
            return row == null ? -11 : i < 0 || i >= row.length ? -12 : 0;
        }

        int put(int m, int kind, int r, int i, long v) {
            status = numberRefusal(m, kind, r, i);
            if (status != 0) {
                return status;
            }
            maps[m].rows[r][i] = kind == 0 ? (short) v : kind == 1 ? (int) v : v;
            return 1;
        }

        long item(int m, int kind, int r, int i) {
            status = numberRefusal(m, kind, r, i);
            return status != 0 ? 0 : maps[m].rows[r][i];
        }

        int copy(int m, int r, int i, int other, int j, int n) {
            status = copyRefusal(m, r, i, other, j, n);
            if (status != 0) {
                return status;
            }
            long[] were = maps[m].rows[r].clone();
            for (int k = 0; k < n; k++) {
                maps[m].rows[other][j + k] = were[i + k];
            }
            return n;
        }

        int copyRefusal(int m, int r, int i, int other, int j, int n) {
            if (m < 0 || m > 3) {
                return -1;
            }
            if (maps[m] == null) {
                return -11;
            }
            long[][] rows = maps[m].rows;
            if (r < 0 || r >= rows.length || other < 0 || other >= rows.length) {
                return -12;
            }
            if (rows[r] == null || rows[other] == null) {
                return -11;
            }
            boolean there = i >= 0 && j >= 0 && n >= 0 && (long) i + n <= rows[r].length && (long) j + n <= rows[other].length;
            return there ? 0 : -12;
        }

        int read(int m) {
            if (m < 0 || m > 3) {
                status = -1;
                return -1;
            }
            status = maps[m] == null ? -11 : 0;
            int came = 0;
            for (int r = 0; status == 0 && r < maps[m].rows.length; r++) {
                long[] row = maps[m].rows[r];
                status = row == null ? -11 : row.length < 5 ? -12 : 0;
                for (int i = 0; status == 0 && i < 5; i++) {
                    status = row[i] != (int) row[i] ? -1 : 0;
                }
                if (status == 0) {
                    status = lineRefusal((int) row[0], (int) row[1], (int) row[2], (int) row[3], (int) row[4]);
                }
                if (status == 0) {
                    if (came == 0) {
                        save();
                    }
                    came++;
                    come((int) row[0], (int) row[1], (int) row[2], (int) row[3], (int) row[4]);
                }
            }
            return came;
        }

        int about(int what) {
            if (what < 0 || what > 4) {
                return -1;
            }
            int missing = 0;
            for (Wire w : lines) {
                missing += w.missing ? 1 : 0;
            }
            return new int[] {places, lines.size(), missing, past.size(), isWhole() ? 1 : 0}[what];
        }
    }
}
