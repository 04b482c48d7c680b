import java.util.Arrays;

/**
 * An atlas of the cuts of a net: what can flow between places, by which cuts, what widening does,
 * which lines are weak, where the net is dense, and what it costs to let more through.
 */
public final class CutAtlas {
    public static final int BAD = -1, STATE = -2, FULL = -3, NONE = -9, NULL = -11, INDEX = -12, CAST = -13, SIZE = -15, ENDLESS = -5;

    private static final int MAX_PLACES = 12;
    private static final int MAX_LINES = 40;
    private static final int MAX_TOLD_WIDTH = 1000;
    private static final int MAX_WIDTH = 2000;
    private static final int MAX_PRICE = 100;
    private static final int MAX_AIM = 500;
    private static final int MAX_UNDO = 30;
    private static final int MAX_MAPS = 4;
    private static final int MAX_ROWS = 6;
    private static final int ROW_LENGTH = 5;

    private static final int KIND_COUNT = 5;
    private static final int KIND_ONEWAY = 1;
    private static final int KIND_STRONG = 2;

    private static final int MAP_KIND_COUNT = 3;
    private static final int SHORTS = 0;
    private static final int INTS = 1;

    private static final int NO_FLOW = -1000000;
    // Above the sum of all widths that lines can have, so that one endless line outweighs them.
    private static final int ENDLESS_ROOM = 1000000;
    // Above every sum of rooms, and of costs.
    private static final int VERY_MANY = 1000000000;
    // Each way lets 1 more flow at least, and all widths together are far below this.
    private static final int MAX_WAYS = 1000000;

    private final PlainKind[] kinds = {
        new PlainKind(), new OnewayKind(), new StrongKind(), new DearKind(), new ShutKind()
    };
    private final Net net = new Net();
    private final Current current = new Current(net, kinds);
    private final SetHunt hunt = new SetHunt(current);
    private final CutTree cutTree = new CutTree(current);
    private final Widening widening = new Widening(current, kinds);
    private final NumberMap[] maps = {new NumberMap(), new NumberMap(), new NumberMap(), new NumberMap()};
    // A ring: the net ahead of each of the latest changes, made when first needed and used again.
    private final Net[] past = new Net[MAX_UNDO];
    private int pastFirst = 0;
    private int pastHeld = 0;
    private long traced = 0;
    private int finding = 0;

    public CutAtlas() {
    }

    // ---- the net

    public int place() {
        if (net.places >= MAX_PLACES) {
            return FULL;
        }
        remember();
        net.places++;
        return net.places - 1;
    }

    public int line(int kind, int a, int b, int width, int price) {
        int refusal = lineRefusal(kind, a, b, width, price);
        if (refusal != 0) {
            return refusal;
        }
        remember();
        // Here and not in addLine(): the trace has what line() does, and read() is not named there.
        traced += kinds[kind].beginsMark();
        return addLine(kind, a, b, width, price);
    }

    public int widen(int line, int n) {
        if (!net.hasLine(line) || n < 0 || n > MAX_TOLD_WIDTH) {
            return BAD;
        }
        PlainKind kind = kinds[net.kinds[line]];
        int costs = kind.costs(net.prices[line]);
        if (costs == NONE || net.isMissing(line) || net.widths[line] + n > MAX_WIDTH) {
            return STATE;
        }
        remember();
        traced += kind.costsMark();
        net.widths[line] += n;
        return costs * n;
    }

    public int width(int line, int w) {
        if (!net.hasLine(line) || w < 0 || w > MAX_TOLD_WIDTH) {
            return BAD;
        }
        if (net.isMissing(line)) {
            return STATE;
        }
        remember();
        int before = net.widths[line];
        net.widths[line] = w;
        return before;
    }

    public int merge(int a, int b) {
        if (!net.hasPair(a, b)) {
            return BAD;
        }
        remember();
        return net.join(Math.min(a, b), Math.max(a, b));
    }

    public int undo() {
        if (pastHeld == 0) {
            return STATE;
        }
        pastHeld--;
        Net before = past[(pastFirst + pastHeld) % MAX_UNDO];
        if (before != null) {
            net.become(before);
        }
        return pastHeld;
    }

    public int told(int line, int what) {
        if (!net.hasLine(line)) {
            return BAD;
        }
        switch (what) {
            case 0: return net.kinds[line];
            case 1: return net.starts[line];
            case 2: return net.ends[line];
            case 3: return net.widths[line];
            case 4: return net.prices[line];
            case 5: return net.isMissing(line) ? 1 : 0;
            default: return BAD;
        }
    }

    public int ask(int line, int what) {
        if (!net.hasLine(line) || what < 0 || what > 2) {
            return BAD;
        }
        PlainKind kind = kinds[net.kinds[line]];
        if (what == 2) {
            traced += kind.costsMark();
            return kind.costs(net.prices[line]);
        }
        boolean fromStart = what == 0;
        traced += kind.letsMark(fromStart);
        return kind.lets(net.widths[line], fromStart);
    }

    // ---- two places

    public int most(int s, int t) {
        if (!net.hasPair(s, t)) {
            return BAD;
        }
        return mostNow(s, t);
    }

    public int flow(int s, int t, int line) {
        if (!net.hasPair(s, t) || !net.hasLine(line) || net.isMissing(line)) {
            return NO_FLOW;
        }
        return mostNow(s, t) == ENDLESS ? NO_FLOW : current.flowing[line];
    }

    public int cut(int s, int t, int which) {
        if (!net.hasPair(s, t) || which < 0 || which > 1) {
            return BAD;
        }
        if (mostNow(s, t) == ENDLESS) {
            return ENDLESS;
        }
        return which == 0 ? current.nearCut(s) : current.farCut(t);
    }

    public int count(int s, int t) {
        if (!net.hasPair(s, t)) {
            return BAD;
        }
        int most = mostNow(s, t);
        return most == ENDLESS ? ENDLESS : hunt.countCuts(1 << s, 1 << t, most);
    }

    public int next(int s, int t, int i) {
        if (!net.hasPair(s, t) || i < 0) {
            return BAD;
        }
        int most = mostNow(s, t);
        return most == ENDLESS ? ENDLESS : hunt.findCut(1 << s, 1 << t, most, i);
    }

    public int size(int s, int t, int set) {
        if (!net.hasPair(s, t)) {
            return BAD;
        }
        current.load(NONE);
        int sum = current.leaving((set | 1 << s) & ~(1 << t));
        return sum >= ENDLESS_ROOM ? ENDLESS : sum;
    }

    public int raise(int s, int t, int line) {
        if (!net.hasPair(s, t) || !net.hasLine(line)) {
            return BAD;
        }
        if (net.isMissing(line)) {
            return STATE;
        }
        current.load(line);
        return current.fill(s, t);
    }

    public int cheapest(int s, int t, int k) {
        if (!net.hasPair(s, t) || k < 0 || k > MAX_AIM) {
            return BAD;
        }
        int most = mostNow(s, t);
        if (most == ENDLESS || most >= k) {
            return 0;
        }
        return widening.pay(s, t, k - most);
    }

    // ---- the whole

    public int tree(int place, int what) {
        if (what < 0 || what > 1) {
            return BAD;
        }
        if (!net.isWhole()) {
            return STATE;
        }
        if (!net.hasPlace(place)) {
            return BAD;
        }
        cutTree.grow();
        return what == 0 ? cutTree.nexts[place] : cutTree.numbers[place];
    }

    public int between(int a, int b) {
        // STATE is ahead of all that is wrong with the places, of the same one twice too.
        if (!net.isWhole()) {
            return STATE;
        }
        if (!net.hasPair(a, b)) {
            return BAD;
        }
        cutTree.grow();
        return cutTree.leastOnWay(a, b);
    }

    public int least() {
        if (!net.isWhole()) {
            return STATE;
        }
        cutTree.grow();
        return cutTree.leastNumber();
    }

    public int cuts() {
        if (!net.isWhole()) {
            return STATE;
        }
        cutTree.grow();
        return hunt.countCuts(0, 1, cutTree.leastNumber());
    }

    public int cutAt(int i) {
        if (i < 0) {
            return BAD;
        }
        if (!net.isWhole()) {
            return STATE;
        }
        cutTree.grow();
        return hunt.findCut(0, 1, cutTree.leastNumber(), i);
    }

    public int weak(int line) {
        if (!net.hasLine(line)) {
            return BAD;
        }
        if (!net.isWhole() || net.isMissing(line)) {
            return STATE;
        }
        cutTree.grow();
        // A least cut of the whole goes through a line just if no cut between its ends is bigger.
        return cutTree.leastOnWay(net.starts[line], net.ends[line]) == cutTree.leastNumber() ? 1 : 0;
    }

    public int part(int k, int place) {
        if (k < 0) {
            return BAD;
        }
        if (!net.isWhole()) {
            return STATE;
        }
        if (place != -1 && !net.hasPlace(place)) {
            return BAD;
        }
        cutTree.grow();
        if (place == -1) {
            return cutTree.partsBelow(k, net.places);
        }
        return cutTree.partsBelow(k, cutTree.leastAlike(k, place));
    }

    public int dense(int what) {
        if (what < 0 || what > 2) {
            return BAD;
        }
        if (!net.isWhole()) {
            return STATE;
        }
        current.load(NONE);
        hunt.findDensest();
        if (what == 0) {
            return hunt.denseSet;
        }
        return what == 1 ? hunt.denseSum : Integer.bitCount(hunt.denseSet);
    }

    // ---- maps

    public int map(int map, int kind, int n) {
        finding = mapRefusal(map, kind, n);
        if (finding != 0) {
            return finding;
        }
        maps[map].begin(kind, n);
        return 1;
    }

    public int row(int map, int r, int n) {
        finding = rowRefusal(map, r, n);
        if (finding != 0) {
            return finding;
        }
        maps[map].beginRow(r, n);
        return 1;
    }

    public int put(int map, int kind, int r, int i, long v) {
        finding = numberRefusal(map, kind, r, i);
        if (finding != 0) {
            return finding;
        }
        maps[map].store(r, i, v);
        return 1;
    }

    public int copy(int map, int r, int i, int other, int j, int n) {
        finding = isMapNumber(map) ? maps[map].moveRefusal(r, i, other, j, n) : BAD;
        if (finding != 0) {
            return finding;
        }
        maps[map].move(r, i, other, j, n);
        return n;
    }

    public long item(int map, int kind, int r, int i) {
        finding = numberRefusal(map, kind, r, i);
        if (finding != 0) {
            return 0;
        }
        return maps[map].number(r, i);
    }

    public int read(int map) {
        if (!isMapNumber(map)) {
            finding = BAD;
            return BAD;
        }
        NumberMap source = maps[map];
        finding = source.isThere() ? 0 : NULL;
        int came = 0;
        for (int r = 0; r < source.rows && finding == 0; r++) {
            finding = readRefusal(source, r);
            if (finding == 0) {
                if (came == 0) {
                    remember();
                }
                addLine(source.whole(r, 0), source.whole(r, 1), source.whole(r, 2),
                        source.whole(r, 3), source.whole(r, 4));
                came++;
            }
        }
        return came;
    }

    // ---- what is told

    public int about(int what) {
        switch (what) {
            case 0: return net.places;
            case 1: return net.lines;
            case 2: return net.missingLines();
            case 3: return pastHeld;
            case 4: return net.isWhole() ? 1 : 0;
            default: return BAD;
        }
    }

    public long trace() {
        return traced;
    }

    public int status() {
        return finding;
    }

    // ---- helpers of the calls

    private void remember() {
        int slot = (pastFirst + pastHeld) % MAX_UNDO;
        if (pastHeld < MAX_UNDO) {
            pastHeld++;
        } else {
            pastFirst = (pastFirst + 1) % MAX_UNDO;
        }
        if (past[slot] == null) {
            past[slot] = new Net();
        }
        past[slot].become(net);
    }

    private int lineRefusal(long kind, long a, long b, long width, long price) {
        if (kind < 0 || kind >= KIND_COUNT || !net.hasPair(a, b)) {
            return BAD;
        }
        if (width < 0 || width > MAX_TOLD_WIDTH || price < 0 || price > MAX_PRICE) {
            return BAD;
        }
        return net.lines >= MAX_LINES ? FULL : 0;
    }

    private int addLine(int kind, int a, int b, int width, int price) {
        return net.append(kind, a, b, kinds[kind].begins(width), price);
    }

    private int mostNow(int s, int t) {
        current.load(NONE);
        return current.fill(s, t);
    }

    private static boolean isMapNumber(int map) {
        return map >= 0 && map < MAX_MAPS;
    }

    private static boolean isMapKind(int kind) {
        return kind >= 0 && kind < MAP_KIND_COUNT;
    }

    private static int mapRefusal(int map, int kind, int n) {
        if (!isMapNumber(map) || !isMapKind(kind) || n > MAX_ROWS) {
            return BAD;
        }
        return n < 0 ? SIZE : 0;
    }

    private int rowRefusal(int map, int r, int n) {
        if (!isMapNumber(map) || n > ROW_LENGTH) {
            return BAD;
        }
        if (!maps[map].isThere()) {
            return NULL;
        }
        if (!maps[map].hasRow(r)) {
            return INDEX;
        }
        return n < 0 ? SIZE : 0;
    }

    private int numberRefusal(int map, int kind, int r, int i) {
        if (!isMapNumber(map) || !isMapKind(kind)) {
            return BAD;
        }
        if (!maps[map].isThere()) {
            return NULL;
        }
        if (maps[map].kind != kind) {
            return CAST;
        }
        if (!maps[map].hasRow(r)) {
            return INDEX;
        }
        if (maps[map].lengths[r] < 0) {
            return NULL;
        }
        return i < 0 || i >= maps[map].lengths[r] ? INDEX : 0;
    }

    private int readRefusal(NumberMap source, int r) {
        if (source.lengths[r] < 0) {
            return NULL;
        }
        if (source.lengths[r] < ROW_LENGTH) {
            return INDEX;
        }
        // As longs, so that a number beyond an int is BAD by the bounds of a line's own numbers.
        return lineRefusal(source.number(r, 0), source.number(r, 1), source.number(r, 2),
                source.number(r, 3), source.number(r, 4));
    }

    /** A LINE: what it does, other kinds do too that have nothing of their own; marks are what the trace has of it. */
    private static class PlainKind {
        int lets(int width, boolean fromStart) {
            return width;
        }

        int letsMark(boolean fromStart) {
            return 1;
        }

        int costs(int price) {
            return NONE;
        }

        int costsMark() {
            return 1000;
        }

        int begins(int width) {
            return width;
        }

        int beginsMark() {
            return 0;
        }
    }

    private static final class OnewayKind extends PlainKind {
        int lets(int width, boolean fromStart) {
            return fromStart ? super.lets(width, fromStart) : 0;
        }

        int letsMark(boolean fromStart) {
            return fromStart ? 10 + super.letsMark(fromStart) : 10;
        }
    }

    private static final class StrongKind extends PlainKind {
        int lets(int width, boolean fromStart) {
            return ENDLESS;
        }

        int letsMark(boolean fromStart) {
            return 100;
        }
    }

    private static class DearKind extends PlainKind {
        int costs(int price) {
            return price;
        }

        int costsMark() {
            return 10000;
        }
    }

    private static final class ShutKind extends DearKind {
        int costs(int price) {
            return super.costs(price) + 1;
        }

        int costsMark() {
            return 100000 + super.costsMark();
        }

        int begins(int width) {
            return 0;
        }

        int beginsMark() {
            return 1000000;
        }
    }

    /** Places and lines as they stand; a missing line has NONE as both its ends. */
    private static final class Net {
        int places = 0;
        int lines = 0;
        final int[] kinds = new int[MAX_LINES];
        final int[] starts = new int[MAX_LINES];
        final int[] ends = new int[MAX_LINES];
        final int[] widths = new int[MAX_LINES];
        final int[] prices = new int[MAX_LINES];

        boolean hasPlace(long place) {
            return place >= 0 && place < places;
        }

        boolean hasPair(long a, long b) {
            return hasPlace(a) && hasPlace(b) && a != b;
        }

        boolean hasLine(int line) {
            return line >= 0 && line < lines;
        }

        boolean isMissing(int line) {
            return starts[line] == NONE;
        }

        int missingLines() {
            int missing = 0;
            for (int line = 0; line < lines; line++) {
                missing += isMissing(line) ? 1 : 0;
            }
            return missing;
        }

        boolean isWhole() {
            for (int line = 0; line < lines; line++) {
                boolean breaks = kinds[line] == KIND_ONEWAY || kinds[line] == KIND_STRONG;
                if (breaks && !isMissing(line)) {
                    return false;
                }
            }
            return places >= 2;
        }

        int append(int kind, int a, int b, int width, int price) {
            kinds[lines] = kind;
            starts[lines] = a;
            ends[lines] = b;
            widths[lines] = width;
            prices[lines] = price;
            lines++;
            return lines - 1;
        }

        int join(int low, int high) {
            int lost = 0;
            for (int line = 0; line < lines; line++) {
                if (!isMissing(line)) {
                    starts[line] = renumbered(starts[line], low, high);
                    ends[line] = renumbered(ends[line], low, high);
                    if (starts[line] == ends[line]) {
                        starts[line] = NONE;
                        ends[line] = NONE;
                        lost++;
                    }
                }
            }
            places--;
            return lost;
        }

        private static int renumbered(int place, int low, int high) {
            if (place == high) {
                return low;
            }
            return place > high ? place - 1 : place;
        }

        void become(Net other) {
            places = other.places;
            lines = other.lines;
            System.arraycopy(other.kinds, 0, kinds, 0, lines);
            System.arraycopy(other.starts, 0, starts, 0, lines);
            System.arraycopy(other.ends, 0, ends, 0, lines);
            System.arraycopy(other.widths, 0, widths, 0, lines);
            System.arraycopy(other.prices, 0, prices, 0, lines);
        }
    }

    /** What flows between two places of the net: load() takes the net as it is, fill() lets flow. */
    private static final class Current {
        final Net net;
        private final PlainKind[] kinds;
        final int[][] lets = new int[MAX_PLACES][MAX_PLACES];
        final int[][] room = new int[MAX_PLACES][MAX_PLACES];
        final int[] flowing = new int[MAX_LINES];
        private final int[] letsForth = new int[MAX_LINES];
        private final int[] letsBack = new int[MAX_LINES];
        private final int[] queue = new int[MAX_PLACES];
        private final int[] cameFrom = new int[MAX_PLACES];

        Current(Net net, PlainKind[] kinds) {
            this.net = net;
            this.kinds = kinds;
        }

        /** The line raised (NONE: no one) is taken as 1 wider. */
        void load(int raised) {
            for (int x = 0; x < net.places; x++) {
                Arrays.fill(lets[x], 0);
            }
            for (int line = 0; line < net.lines; line++) {
                if (!net.isMissing(line)) {
                    int width = line == raised ? net.widths[line] + 1 : net.widths[line];
                    PlainKind kind = kinds[net.kinds[line]];
                    letsForth[line] = asRoom(kind.lets(width, true));
                    letsBack[line] = asRoom(kind.lets(width, false));
                    lets[net.starts[line]][net.ends[line]] += letsForth[line];
                    lets[net.ends[line]][net.starts[line]] += letsBack[line];
                }
            }
        }

        private static int asRoom(int lets) {
            return lets == ENDLESS ? ENDLESS_ROOM : lets;
        }

        /** MOST from s to t, or ENDLESS; then flowing and room tell of the flow. */
        int fill(int s, int t) {
            Arrays.fill(flowing, 0);
            for (int x = 0; x < net.places; x++) {
                System.arraycopy(lets[x], 0, room[x], 0, net.places);
            }
            if ((reachedFrom(s, ENDLESS_ROOM) >> t & 1) == 1) {
                return ENDLESS;
            }
            int total = 0;
            for (int way = 0; way < MAX_WAYS && findWay(s, t); way++) {
                total += sendAlongWay(s, t);
            }
            return total;
        }

        private boolean findWay(int s, int t) {
            int met = 1 << s;
            int tail = 1;
            queue[0] = s;
            for (int head = 0; head < tail && head < MAX_PLACES; head++) {
                int x = queue[head];
                for (int y = 0; y < net.places; y++) {
                    if ((met >> y & 1) == 0 && room[x][y] > 0) {
                        cameFrom[y] = x;
                        if (y == t) {
                            return true;
                        }
                        met |= 1 << y;
                        queue[tail] = y;
                        tail++;
                    }
                }
            }
            return false;
        }

        private int sendAlongWay(int s, int t) {
            int amount = VERY_MANY;
            int y = t;
            for (int step = 0; step < MAX_PLACES && y != s; step++) {
                amount = Math.min(amount, room[cameFrom[y]][y]);
                y = cameFrom[y];
            }
            y = t;
            for (int step = 0; step < MAX_PLACES && y != s; step++) {
                sendOver(cameFrom[y], y, amount);
                y = cameFrom[y];
            }
            return amount;
        }

        private void sendOver(int x, int y, int amount) {
            room[x][y] -= amount;
            room[y][x] += amount;
            int left = amount;
            for (int line = 0; line < net.lines && left > 0; line++) {
                if (net.starts[line] == x && net.ends[line] == y) {
                    int taken = Math.min(left, letsForth[line] - flowing[line]);
                    flowing[line] += taken;
                    left -= taken;
                } else if (net.starts[line] == y && net.ends[line] == x) {
                    int taken = Math.min(left, letsBack[line] + flowing[line]);
                    flowing[line] -= taken;
                    left -= taken;
                }
            }
        }

        int nearCut(int s) {
            return reachedFrom(s, 1);
        }

        int farCut(int t) {
            return (1 << net.places) - 1 & ~reaching(t);
        }

        private int reachedFrom(int s, int needed) {
            int met = 1 << s;
            int tail = 1;
            queue[0] = s;
            for (int head = 0; head < tail && head < MAX_PLACES; head++) {
                for (int y = 0; y < net.places; y++) {
                    if ((met >> y & 1) == 0 && room[queue[head]][y] >= needed) {
                        met |= 1 << y;
                        queue[tail] = y;
                        tail++;
                    }
                }
            }
            return met;
        }

        private int reaching(int t) {
            int met = 1 << t;
            int tail = 1;
            queue[0] = t;
            for (int head = 0; head < tail && head < MAX_PLACES; head++) {
                for (int x = 0; x < net.places; x++) {
                    if ((met >> x & 1) == 0 && room[x][queue[head]] > 0) {
                        met |= 1 << x;
                        queue[tail] = x;
                        tail++;
                    }
                }
            }
            return met;
        }

        /** What lines let out of a set; ENDLESS_ROOM or more, if one is endless. */
        int leaving(int set) {
            int sum = 0;
            for (int x = 0; x < net.places; x++) {
                if ((set >> x & 1) == 1) {
                    sum += betweenSets(x, ~set);
                }
            }
            return sum;
        }

        private int betweenSets(int x, int others) {
            int sum = 0;
            for (int y = 0; y < net.places; y++) {
                if ((others >> y & 1) == 1) {
                    sum += lets[x][y];
                }
            }
            return sum;
        }
    }

    /** Goes through sets of places by their numbers as bits, highest place first. */
    private static final class SetHunt {
        private final Current current;
        private int must;
        private int mustNot;
        private int aim;
        private int wanted;
        private int met;
        private int found;
        int denseSet;
        int denseSum;

        SetHunt(Current current) {
            this.current = current;
        }

        int countCuts(int must, int mustNot, int aim) {
            hunt(must, mustNot, aim, VERY_MANY);
            return met;
        }

        int findCut(int must, int mustNot, int aim, int i) {
            hunt(must, mustNot, aim, i);
            return found;
        }

        private void hunt(int must, int mustNot, int aim, int wanted) {
            this.must = must;
            this.mustNot = mustNot;
            this.aim = aim;
            this.wanted = wanted;
            met = 0;
            found = NONE;
            chooseForCut(current.net.places - 1, 0, 0);
        }

        /** Places above place are chosen; size is what lines among them let out of set. */
        private void chooseForCut(int place, int set, int size) {
            if (size > aim || found != NONE) {
                return;
            }
            if (place < 0) {
                meet(set, size);
                return;
            }
            int bit = 1 << place;
            if ((must & bit) == 0) {
                chooseForCut(place - 1, set, size + letIn(place, set));
            }
            if ((mustNot & bit) == 0) {
                chooseForCut(place - 1, set | bit, size + letOut(place, set));
            }
        }

        private void meet(int set, int size) {
            if (size != aim || set == 0) {
                return;
            }
            if (met == wanted) {
                found = set;
            }
            met++;
        }

        private int letIn(int place, int set) {
            int sum = 0;
            for (int x = place + 1; x < current.net.places; x++) {
                if ((set >> x & 1) == 1) {
                    sum += current.lets[x][place];
                }
            }
            return sum;
        }

        private int letOut(int place, int set) {
            int sum = 0;
            for (int y = place + 1; y < current.net.places; y++) {
                if ((set >> y & 1) == 0) {
                    sum += current.lets[place][y];
                }
            }
            return sum;
        }

        void findDensest() {
            denseSet = 0;
            denseSum = 0;
            chooseForDense(current.net.places - 1, 0, 0);
        }

        /** Places above place are chosen; sum is what lines within set have as widths. */
        private void chooseForDense(int place, int set, int sum) {
            if (place < 0) {
                compareDense(set, sum);
                return;
            }
            chooseForDense(place - 1, set, sum);
            // In a whole net a line lets its width, so what comes in from the set is what comes to the sum.
            chooseForDense(place - 1, set | 1 << place, sum + letIn(place, set));
        }

        private void compareDense(int set, int sum) {
            int places = Integer.bitCount(set);
            int densePlaces = Integer.bitCount(denseSet);
            int mine = sum * densePlaces;
            int best = denseSum * places;
            if (mine > best || mine == best && places > densePlaces) {
                denseSet = set;
                denseSum = sum;
            }
        }
    }

    /** The tree of a whole net. */
    private static final class CutTree {
        private final Current current;
        final int[] nexts = new int[MAX_PLACES];
        final int[] numbers = new int[MAX_PLACES];

        CutTree(Current current) {
            this.current = current;
        }

        /** From the net as it is now. */
        void grow() {
            current.load(NONE);
            Arrays.fill(nexts, 0);
            nexts[0] = NONE;
            numbers[0] = NONE;
            for (int i = 1; i < current.net.places; i++) {
                hang(i);
            }
        }

        private void hang(int i) {
            int t = nexts[i];
            int number = current.fill(i, t);
            int near = current.nearCut(i);
            numbers[i] = number;
            for (int j = i + 1; j < current.net.places; j++) {
                if ((near >> j & 1) == 1 && nexts[j] == t) {
                    nexts[j] = i;
                }
            }
            if (t != 0 && (near >> nexts[t] & 1) == 1) {
                nexts[i] = nexts[t];
                numbers[i] = numbers[t];
                nexts[t] = i;
                numbers[t] = number;
            }
        }

        int leastOnWay(int a, int b) {
            int least = VERY_MANY;
            int x = a;
            int y = b;
            int stepsOfX = stepsToRoot(a);
            int stepsOfY = stepsToRoot(b);
            for (int step = 0; step < 2 * MAX_PLACES && x != y; step++) {
                if (stepsOfX >= stepsOfY) {
                    least = Math.min(least, numbers[x]);
                    x = nexts[x];
                    stepsOfX--;
                } else {
                    least = Math.min(least, numbers[y]);
                    y = nexts[y];
                    stepsOfY--;
                }
            }
            return least;
        }

        private int stepsToRoot(int place) {
            int steps = 0;
            for (int x = place; x != 0 && steps < MAX_PLACES; x = nexts[x]) {
                steps++;
            }
            return steps;
        }

        int leastNumber() {
            int least = VERY_MANY;
            for (int i = 1; i < current.net.places; i++) {
                least = Math.min(least, numbers[i]);
            }
            return least;
        }

        /** The least place of the part by k that a place is in. */
        int leastAlike(int k, int place) {
            for (int other = 0; other < place; other++) {
                if (leastOnWay(other, place) >= k) {
                    return other;
                }
            }
            return place;
        }

        /** How many parts by k have a least place below a bound. */
        int partsBelow(int k, int bound) {
            int parts = 0;
            for (int place = 0; place < bound; place++) {
                parts += leastAlike(k, place) == place ? 1 : 0;
            }
            return parts;
        }
    }

    /**
     * Lets more flow than the net does, for costs, as cheap as can be: each time along the cheapest way.
     * It goes on from what current has flowing; a room below 0 is what was widened there.
     */
    private static final class Widening {
        private final Current current;
        private final PlainKind[] kinds;
        private final int[][] prices = new int[MAX_PLACES][MAX_PLACES];
        private final int[] costs = new int[MAX_PLACES];
        private final int[] cameFrom = new int[MAX_PLACES];

        Widening(Current current, PlainKind[] kinds) {
            this.current = current;
            this.kinds = kinds;
        }

        /** The least costs to let so much more flow; NONE, if nothing does. */
        int pay(int s, int t, int more) {
            findPrices();
            int left = more;
            int paid = 0;
            for (int way = 0; way < MAX_AIM && left > 0; way++) {
                findCosts(s);
                if (costs[t] == VERY_MANY) {
                    return NONE;
                }
                int amount = roomOfWay(s, t, left);
                sendAlongWay(s, t, amount);
                paid += amount * costs[t];
                left -= amount;
            }
            return paid;
        }

        /** Only the cheapest line between two places is worth widening. */
        private void findPrices() {
            Net net = current.net;
            for (int x = 0; x < net.places; x++) {
                Arrays.fill(prices[x], VERY_MANY);
            }
            for (int line = 0; line < net.lines; line++) {
                int price = kinds[net.kinds[line]].costs(net.prices[line]);
                if (price != NONE && !net.isMissing(line)) {
                    int a = net.starts[line];
                    int b = net.ends[line];
                    prices[a][b] = Math.min(prices[a][b], price);
                    prices[b][a] = prices[a][b];
                }
            }
        }

        private void findCosts(int s) {
            int places = current.net.places;
            Arrays.fill(costs, VERY_MANY);
            costs[s] = 0;
            boolean better = true;
            for (int round = 0; round < places && better; round++) {
                better = false;
                for (int x = 0; x < places; x++) {
                    if (costs[x] != VERY_MANY && lookFrom(x)) {
                        better = true;
                    }
                }
            }
        }

        private boolean lookFrom(int x) {
            boolean better = false;
            for (int y = 0; y < current.net.places; y++) {
                int step = x == y ? VERY_MANY : stepCosts(x, y);
                if (step != VERY_MANY && costs[x] + step < costs[y]) {
                    costs[y] = costs[x] + step;
                    cameFrom[y] = x;
                    better = true;
                }
            }
            return better;
        }

        private int stepCosts(int x, int y) {
            if (current.room[y][x] < 0) {
                return -prices[x][y];
            }
            return current.room[x][y] > 0 ? 0 : prices[x][y];
        }

        private int stepRoom(int x, int y) {
            if (current.room[y][x] < 0) {
                return -current.room[y][x];
            }
            return current.room[x][y] > 0 ? current.room[x][y] : VERY_MANY;
        }

        private int roomOfWay(int s, int t, int enough) {
            int amount = enough;
            int y = t;
            for (int step = 0; step < MAX_PLACES && y != s; step++) {
                amount = Math.min(amount, stepRoom(cameFrom[y], y));
                y = cameFrom[y];
            }
            return amount;
        }

        private void sendAlongWay(int s, int t, int amount) {
            int y = t;
            for (int step = 0; step < MAX_PLACES && y != s; step++) {
                current.room[cameFrom[y]][y] -= amount;
                current.room[y][cameFrom[y]] += amount;
                y = cameFrom[y];
            }
        }
    }

    /** A map's rows side by side, with room for the longest ones; a row of length NONE is missing. */
    private static final class NumberMap {
        int kind = 0;
        // NONE: there is no map here yet.
        int rows = NONE;
        final int[] lengths = new int[MAX_ROWS];
        private final long[] numbers = new long[MAX_ROWS * ROW_LENGTH];

        boolean isThere() {
            return rows != NONE;
        }

        boolean hasRow(int r) {
            return r >= 0 && r < rows;
        }

        void begin(int kind, int rows) {
            this.kind = kind;
            this.rows = rows;
            Arrays.fill(lengths, NONE);
        }

        void beginRow(int r, int length) {
            lengths[r] = length;
            for (int i = 0; i < ROW_LENGTH; i++) {
                numbers[r * ROW_LENGTH + i] = 0;
            }
        }

        void store(int r, int i, long v) {
            long taken = v;
            if (kind == SHORTS) {
                taken = (short) v;
            } else if (kind == INTS) {
                taken = (int) v;
            }
            numbers[r * ROW_LENGTH + i] = taken;
        }

        long number(int r, int i) {
            return numbers[r * ROW_LENGTH + i];
        }

        int whole(int r, int i) {
            return (int) number(r, i);
        }

        int moveRefusal(int r, int i, int other, int j, int n) {
            if (!isThere()) {
                return NULL;
            }
            if (!hasRow(r) || !hasRow(other)) {
                return INDEX;
            }
            if (lengths[r] < 0 || lengths[other] < 0) {
                return NULL;
            }
            return hasNumbers(r, i, n) && hasNumbers(other, j, n) ? 0 : INDEX;
        }

        private boolean hasNumbers(int r, int i, int n) {
            return i >= 0 && n >= 0 && n <= lengths[r] && i <= lengths[r] - n;
        }

        void move(int r, int i, int other, int j, int n) {
            System.arraycopy(numbers, r * ROW_LENGTH + i, numbers, other * ROW_LENGTH + j, n);
        }
    }
}
