/** The document's sentences that name a boundary case: cuts and flow of terms 2, promises 10 to 17. */
public final class BoundsOfTwoPlaces {
    private static final int BAD = -1, STATE = -2, ENDLESS = -5, NONE = -9, NO_FLOW = -1000000;
    private static final int LINE = 0, ONEWAY = 1, STRONG = 2, DEAR = 3, SHUT = 4;
    private static final int MIN = Integer.MIN_VALUE, MAX = Integer.MAX_VALUE;
    private static String sentence = "";
    private static int wrong = 0;

    public static void main(String[] args) {
        placesBad();
        mostOfNoLines();
        mostOfTheWidestNet();
        mostEndless();
        mostPastMissing();
        flowRefused();
        flowOfNothing();
        flowByOrder();
        flowEndlessCounts();
        cutWhich();
        cutOfTheFullNet();
        countFromOneOn();
        nextFromFirstToLast();
        nextRefused();
        sizeOfAnySet();
        sizeEndless();
        raiseRefused();
        raiseAtTheEdges();
        cheapestAim();
        cheapestSoAlready();
        cheapestNone();
        cheapestDearest();
        cheapestAsOftenAsItLikes();
        cheapestGivesBackWhatWasWidened();
        System.out.println(wrong == 0 ? "all bounds of two places are as due" : wrong + " answers are not as due");
        if (wrong != 0) {
            System.exit(1);
        }
    }

    private static void says(String words) {
        sentence = words;
    }

    private static void due(String call, long got, long want) {
        if (got != want) {
            wrong++;
            System.out.println("\"" + sentence + "\": " + call + " answered " + got + ", due is " + want);
        }
    }

    private static CutAtlas withPlaces(int places) {
        CutAtlas x = new CutAtlas();
        for (int i = 0; i < places; i++) {
            x.place();
        }
        return x;
    }

    private static CutAtlas pair(int... kinds) {
        CutAtlas x = withPlaces(2);
        for (int kind : kinds) {
            x.line(kind, 0, 1, 5, 7);
        }
        return x;
    }

    /** A way through all of so many places, of lines of one kind, width and price. */
    private static CutAtlas way(int places, int kind, int width, int price) {
        CutAtlas x = withPlaces(places);
        for (int i = 0; i + 1 < places; i++) {
            x.line(kind, i, i + 1, width, price);
        }
        return x;
    }

    /** 40 lines of 2000 between 0 and 1. */
    private static CutAtlas widest(int places) {
        CutAtlas x = withPlaces(places);
        for (int i = 0; i < 40; i++) {
            x.line(DEAR, 0, 1, 1000, 100);
            x.widen(i, 1000);
        }
        return x;
    }

    private static int[] outside(int bound) {
        return new int[] {
            MIN, MIN + 1, -65536, -65535, -256, -255, -32, -31, -9, -2, -1, bound, bound + 1, bound + 32, bound + 256,
            bound + 65536, 32, 33, 64, 1 << 16, 1 << 24, 1 << 30, MAX - 1, MAX
        };
    }

    /** Each call on two places, these with all else right: 10 to 17. */
    private static void pairIsBad(CutAtlas x, int s, int t) {
        String pair = "(" + s + ", " + t + ")";
        due("most" + pair, x.most(s, t), BAD);
        due("flow" + pair, x.flow(s, t, 0), NO_FLOW);
        due("cut" + pair, x.cut(s, t, 0), BAD);
        due("count" + pair, x.count(s, t), BAD);
        due("next" + pair, x.next(s, t, 0), BAD);
        due("size" + pair, x.size(s, t, 1), BAD);
        due("raise" + pair, x.raise(s, t, 0), BAD);
        due("cheapest" + pair, x.cheapest(s, t, 0), BAD);
    }

    private static void placesBad() {
        says("Promise 10: MOST; ENDLESS. BAD: the same, too. (and 11 to 17)");
        for (int places : new int[] {0, 1, 2, 12}) {
            for (int out : outside(places)) {
                CutAtlas x = way(places, LINE, 1, 0);
                pairIsBad(x, out, 0);
                pairIsBad(x, 0, out);
                pairIsBad(x, out, out);
            }
            CutAtlas y = way(places, STRONG, 1, 0);
            for (int same = 0; same < places; same++) {
                pairIsBad(y, same, same);
            }
        }
        due("most(0, 11)", way(12, LINE, 1, 0).most(0, 11), 1);
        due("most(11, 0)", way(12, LINE, 1, 0).most(11, 0), 1);
    }

    private static void mostOfNoLines() {
        says("2: MOST from s to t is the least SIZE of such CUTS");
        CutAtlas x = withPlaces(12);
        due("most(0, 11) of no lines", x.most(0, 11), 0);
        due("most(1, 0) of no lines", x.most(1, 0), 0);
        x.line(LINE, 0, 11, 0, 0);
        x.line(SHUT, 0, 11, 1000, 0);
        x.line(ONEWAY, 11, 0, 1000, 0);
        due("most(0, 11) of lines that let nothing", x.most(0, 11), 0);
        due("most(11, 0) by a ONEWAY", x.most(11, 0), 1000);
        x.line(LINE, 0, 11, 1, 0);
        due("most(0, 11)", x.most(0, 11), 1);
        due("most(11, 0)", x.most(11, 0), 1001);
    }

    private static void mostOfTheWidestNet() {
        says("1: LINES (40 at most) .. WIDTHS .. 2000 at most when they were widened");
        CutAtlas x = widest(2);
        due("most(0, 1)", x.most(0, 1), 80000);
        due("most(1, 0)", x.most(1, 0), 80000);
        due("size(0, 1, 1)", x.size(0, 1, 1), 80000);
        due("flow(0, 1, 39)", x.flow(0, 1, 39), 2000);
        due("flow(1, 0, 39)", x.flow(1, 0, 39), -2000);
        due("raise(0, 1, 39)", x.raise(0, 1, 39), 80001);
        due("count(0, 1)", x.count(0, 1), 1);
        due("cheapest(0, 1, 500)", x.cheapest(0, 1, 500), 0);
        due("most(0, 11) beside them", widest(12).most(0, 11), 0);
    }

    private static void mostEndless() {
        says("2: MOST .. ENDLESS, if all are. (SIZE: ENDLESS, if one does)");
        CutAtlas x = way(12, STRONG, 0, 0);
        due("most(0, 11) along 11 STRONG lines", x.most(0, 11), ENDLESS);
        due("most(11, 0) along 11 STRONG lines", x.most(11, 0), ENDLESS);
        due("count(0, 11)", x.count(0, 11), ENDLESS);
        due("next(0, 11, 0)", x.next(0, 11, 0), ENDLESS);
        due("cut(0, 11, 0)", x.cut(0, 11, 0), ENDLESS);
        due("cut(0, 11, 1)", x.cut(0, 11, 1), ENDLESS);
        due("flow(0, 11, 0)", x.flow(0, 11, 0), NO_FLOW);
        due("raise(0, 11, 0)", x.raise(0, 11, 0), ENDLESS);
        due("cheapest(0, 11, 500)", x.cheapest(0, 11, 500), 0);
        CutAtlas gap = way(6, STRONG, 0, 0);
        gap.place();
        gap.line(LINE, 5, 6, 1000, 0);
        due("most(0, 6): all but one are ENDLESS", gap.most(0, 6), 1000);
        due("count(0, 6)", gap.count(0, 6), 1);
        due("next(0, 6, 0)", gap.next(0, 6, 0), 63);
        due("cut(0, 6, 0)", gap.cut(0, 6, 0), 63);
        due("cut(0, 6, 1)", gap.cut(0, 6, 1), 63);
        CutAtlas many = withPlaces(2);
        for (int i = 0; i < 40; i++) {
            many.line(STRONG, i % 2, 1 - i % 2, 1000, 0);
        }
        due("most(0, 1) by 40 STRONG lines", many.most(0, 1), ENDLESS);
        due("size(0, 1, 1) by 40 STRONG lines", many.size(0, 1, 1), ENDLESS);
        due("raise(0, 1, 0) by 40 STRONG lines", many.raise(0, 1, 0), ENDLESS);
    }

    private static void mostPastMissing() {
        says("1: A LINE is MISSING whose ends were merged into one");
        CutAtlas x = withPlaces(3);
        x.line(STRONG, 0, 1, 0, 0);
        x.line(LINE, 0, 1, 9, 0);
        x.line(LINE, 1, 2, 4, 0);
        x.line(LINE, 0, 2, 3, 0);
        due("merge(0, 1)", x.merge(0, 1), 2);
        due("most(0, 1)", x.most(0, 1), 7);
        due("size(1, 0, 2)", x.size(1, 0, 2), 7);
        due("count(0, 1)", x.count(0, 1), 1);
        due("flow(0, 1, 2)", x.flow(0, 1, 2), 4);
        due("flow(0, 1, 0) of a MISSING one", x.flow(0, 1, 0), NO_FLOW);
    }

    private static void flowRefused() {
        says("Promise 11: -1000000: BAD, ENDLESS, MISSING.");
        CutAtlas x = way(12, LINE, 7, 0);
        for (int out : outside(11)) {
            due("flow(0, 11, " + out + ")", x.flow(0, 11, out), NO_FLOW);
        }
        due("flow(0, 11, 10)", x.flow(0, 11, 10), 7);
        due("flow(11, 0, 10)", x.flow(11, 0, 10), -7);
        due("flow() of a net without lines", withPlaces(2).flow(0, 1, 0), NO_FLOW);
        CutAtlas full = widest(2);
        due("flow(0, 1, 40)", full.flow(0, 1, 40), NO_FLOW);
        CutAtlas y = pair(STRONG, LINE);
        due("flow(0, 1, 0) of ENDLESS", y.flow(0, 1, 0), NO_FLOW);
        due("flow(0, 1, 1) of ENDLESS", y.flow(0, 1, 1), NO_FLOW);
        y.place();
        y.line(LINE, 1, 2, 3, 0);
        due("flow(0, 2, 0)", y.flow(0, 2, 0), 3);
        y.merge(0, 1);
        due("flow(0, 1, 0) of a MISSING one", y.flow(0, 1, 0), NO_FLOW);
        due("flow(0, 1, 1) of a MISSING one", y.flow(0, 1, 1), NO_FLOW);
        due("flow(0, 1, 2)", y.flow(0, 1, 2), 3);
    }

    private static void flowOfNothing() {
        says("Promise 11: What flows over a LINE in THE FLOW");
        CutAtlas x = withPlaces(3);
        x.line(LINE, 0, 1, 0, 0);
        x.line(ONEWAY, 1, 0, 5, 0);
        x.line(LINE, 1, 2, 5, 0);
        due("flow(0, 1, 0) of no width", x.flow(0, 1, 0), 0);
        due("flow(0, 1, 1) against a ONEWAY", x.flow(0, 1, 1), 0);
        due("flow(1, 0, 1) along a ONEWAY", x.flow(1, 0, 1), 5);
        due("flow(1, 0, 2) beside the way", x.flow(1, 0, 2), 0);
        due("flow(0, 2, 2)", x.flow(0, 2, 2), 0);
    }

    private static void flowByOrder() {
        says("2: taking PLACES one by one, s first, in the order in which they were met, and looking from each at all PLACES by number");
        // Two ways of two steps that share the last line: the one by the lower place takes all of it.
        CutAtlas x = withPlaces(5);
        x.line(LINE, 0, 3, 4, 0);
        x.line(LINE, 0, 2, 4, 0);
        x.line(LINE, 3, 1, 4, 0);
        x.line(LINE, 2, 1, 4, 0);
        x.line(LINE, 1, 4, 4, 0);
        int[] want = {0, 4, 0, 4, 4};
        for (int line = 0; line < 5; line++) {
            due("flow(0, 4, " + line + ")", x.flow(0, 4, line), want[line]);
        }
        // 3 is met ahead of 2, by the lower of 0's neighbours, so that 5 is met from 3.
        CutAtlas y = withPlaces(7);
        y.line(LINE, 0, 1, 2, 0);
        y.line(LINE, 0, 4, 2, 0);
        y.line(LINE, 1, 3, 2, 0);
        y.line(LINE, 4, 2, 2, 0);
        y.line(LINE, 3, 5, 2, 0);
        y.line(LINE, 2, 5, 2, 0);
        y.line(LINE, 5, 6, 2, 0);
        int[] then = {2, 0, 2, 0, 2, 0, 2};
        for (int line = 0; line < 7; line++) {
            due("flow(0, 6, " + line + ")", y.flow(0, 6, line), then[line]);
        }
        says("2: The least ROOM of its steps flows more along it, in each step over LINES by number, of each as much as its ROOM.");
        CutAtlas z = withPlaces(3);
        z.line(LINE, 0, 1, 2, 0);
        z.line(LINE, 1, 0, 2, 0);
        z.line(ONEWAY, 1, 0, 2, 0);
        z.line(LINE, 0, 1, 2, 0);
        z.line(LINE, 1, 2, 5, 0);
        int[] over = {2, -2, 0, 1, 5};
        for (int line = 0; line < 5; line++) {
            due("flow(0, 2, " + line + ")", z.flow(0, 2, line), over[line]);
        }
    }

    private static void flowEndlessCounts() {
        says("2: (ENDLESS counts as 1000000.)");
        CutAtlas x = withPlaces(4);
        x.line(STRONG, 1, 2, 0, 0);
        x.line(STRONG, 2, 1, 0, 0);
        for (int i = 0; i < 19; i++) {
            x.line(DEAR, 0, 1, 1000, 0);
            x.line(DEAR, 2, 3, 1000, 0);
            x.widen(2 + 2 * i, 1000);
            x.widen(3 + 2 * i, 1000);
        }
        due("most(0, 3)", x.most(0, 3), 38000);
        due("flow(0, 3, 0): the first has room for all", x.flow(0, 3, 0), 38000);
        due("flow(0, 3, 1)", x.flow(0, 3, 1), 0);
        due("flow(3, 0, 0)", x.flow(3, 0, 0), -38000);
        due("flow(0, 3, 39)", x.flow(0, 3, 39), 2000);
        due("raise(0, 3, 39)", x.raise(0, 3, 39), 38000);
    }

    private static void cutWhich() {
        says("Promise 12: NEAR (0), FAR (1) as bits; ENDLESS. BAD.");
        CutAtlas x = way(4, LINE, 3, 0);
        for (int out : outside(2)) {
            due("cut(0, 3, " + out + ")", x.cut(0, 3, out), BAD);
            due("cut(0, 1, " + out + ") of ENDLESS", pair(STRONG).cut(0, 1, out), BAD);
        }
        due("cut(0, 3, 0)", x.cut(0, 3, 0), 1);
        due("cut(0, 3, 1)", x.cut(0, 3, 1), 7);
        due("cut(0, 1, 0) of two places", pair(LINE).cut(0, 1, 0), 1);
        due("cut(0, 1, 1) of two places", pair(LINE).cut(0, 1, 1), 1);
        due("cut(1, 0, 0) of two places", pair(LINE).cut(1, 0, 0), 2);
        due("cut(1, 0, 1) of two places", pair(LINE).cut(1, 0, 1), 2);
    }

    private static void cutOfTheFullNet() {
        says("2: NEAR the one with the fewest, FAR the one with the most PLACES");
        CutAtlas lone = withPlaces(12);
        due("cut(0, 11, 0) of no lines", lone.cut(0, 11, 0), 1);
        due("cut(0, 11, 1) of no lines", lone.cut(0, 11, 1), 2047);
        due("cut(11, 0, 0) of no lines", lone.cut(11, 0, 0), 2048);
        due("cut(11, 0, 1) of no lines", lone.cut(11, 0, 1), 4094);
        CutAtlas way = way(12, LINE, 1000, 0);
        due("cut(0, 11, 0)", way.cut(0, 11, 0), 1);
        due("cut(0, 11, 1)", way.cut(0, 11, 1), 2047);
        due("cut(11, 0, 1)", way.cut(11, 0, 1), 4094);
        way.width(5, 999);
        due("cut(0, 11, 0) at the one narrow line", way.cut(0, 11, 0), 63);
        due("cut(0, 11, 1) at the one narrow line", way.cut(0, 11, 1), 63);
        due("cut(11, 0, 0) at the one narrow line", way.cut(11, 0, 0), 4032);
        CutAtlas oneway = way(12, ONEWAY, 1, 0);
        due("cut(11, 0, 0) against ONEWAY lines", oneway.cut(11, 0, 0), 2048);
        due("cut(11, 0, 1) against ONEWAY lines", oneway.cut(11, 0, 1), 4094);
    }

    private static void countFromOneOn() {
        says("Promise 13: How many LEAST CUTS there are; ENDLESS. BAD.");
        due("count(0, 1)", pair(LINE).count(0, 1), 1);
        due("count(0, 1) of no lines", withPlaces(2).count(0, 1), 1);
        due("count(0, 11) of no lines", withPlaces(12).count(0, 11), 1024);
        due("count(11, 0) of no lines", withPlaces(12).count(11, 0), 1024);
        due("count(0, 11) of a way", way(12, LINE, 1, 0).count(0, 11), 11);
        due("count(0, 11) of a way of no width", way(12, LINE, 0, 0).count(0, 11), 1024);
        // Along ONEWAY lines a least cut holds the first places; against them it holds, with a place, all behind it.
        due("count(0, 11) of a ONEWAY way", way(12, ONEWAY, 1, 0).count(0, 11), 11);
        due("count(11, 0) of a ONEWAY way", way(12, ONEWAY, 1, 0).count(11, 0), 11);
        CutAtlas x = way(12, STRONG, 0, 0);
        x.merge(0, 1);
        due("count(0, 10) of ENDLESS", x.count(0, 10), ENDLESS);
    }

    private static void nextFromFirstToLast() {
        says("Promise 14: The i-th LEAST CUT (from 0 on, by their numbers as bits); NONE");
        CutAtlas way = way(12, LINE, 1, 0);
        for (int i = 0; i < 11; i++) {
            due("next(0, 11, " + i + ")", way.next(0, 11, i), (1 << i + 1) - 1);
            due("next(11, 0, " + i + ")", way.next(11, 0, i), 4096 - (1 << 11 - i));
        }
        due("next(0, 11, 11)", way.next(0, 11, 11), NONE);
        due("next(0, 11, 12)", way.next(0, 11, 12), NONE);
        due("next(0, 11, MAX)", way.next(0, 11, MAX), NONE);
        due("next(0, 11, MAX - 1)", way.next(0, 11, MAX - 1), NONE);
        due("next(0, 11, 1000000000)", way.next(0, 11, 1000000000), NONE);
        CutAtlas lone = withPlaces(12);
        due("next(0, 11, 0) of no lines", lone.next(0, 11, 0), 1);
        due("next(0, 11, 1) of no lines", lone.next(0, 11, 1), 3);
        due("next(0, 11, 1023) of no lines", lone.next(0, 11, 1023), 2047);
        due("next(0, 11, 1024) of no lines", lone.next(0, 11, 1024), NONE);
        due("next(11, 0, 0) of no lines", lone.next(11, 0, 0), 2048);
        due("next(11, 0, 1023) of no lines", lone.next(11, 0, 1023), 4094);
        due("next(11, 0, 1024) of no lines", lone.next(11, 0, 1024), NONE);
        due("next(0, 1, 0) of two places", pair(LINE).next(0, 1, 0), 1);
        due("next(0, 1, 1) of two places", pair(LINE).next(0, 1, 1), NONE);
    }

    private static void nextRefused() {
        says("Promise 14: BAD: i below 0.");
        for (int i : new int[] {-1, -2, -9, MIN + 1, MIN}) {
            due("next(0, 1, " + i + ")", pair(LINE).next(0, 1, i), BAD);
            due("next(0, 1, " + i + ") of ENDLESS", pair(STRONG).next(0, 1, i), BAD);
        }
        due("next(0, 1, 0) of ENDLESS", pair(STRONG).next(0, 1, 0), ENDLESS);
        due("next(0, 1, MAX) of ENDLESS", pair(STRONG).next(0, 1, MAX), ENDLESS);
    }

    private static void sizeOfAnySet() {
        says("Promise 15: SIZE of a set .., with s, without t (other bits are not looked at; s, t are taken as if they were told right)");
        CutAtlas x = way(3, LINE, 4, 0);
        x.width(1, 3);
        int[] sets = {0, 1, 4, 5, 8, MIN, 1 << 12, 1 << 30, ~7};
        for (int set : sets) {
            due("size(0, 2, " + set + ") without 1", x.size(0, 2, set), 4);
            due("size(2, 0, " + set + ") without 1", x.size(2, 0, set), 3);
            due("size(0, 2, " + (set | 2) + ") with 1", x.size(0, 2, set | 2), 3);
            due("size(2, 0, " + (set | 2) + ") with 1", x.size(2, 0, set | 2), 4);
        }
        due("size(0, 2, -1)", x.size(0, 2, -1), 3);
        due("size(0, 2, MAX)", x.size(0, 2, MAX), 3);
        CutAtlas full = way(12, LINE, 1, 0);
        due("size(0, 11, 1365) of 12 places", full.size(0, 11, 1365), 11);
        due("size(11, 0, 2730) of 12 places", full.size(11, 0, 2730), 11);
        due("size(11, 0, 0) of 12 places", full.size(11, 0, 0), 1);
        due("size(11, 0, -1) of 12 places", full.size(11, 0, -1), 1);
        due("size(0, 1, 0) of no lines", withPlaces(2).size(0, 1, 0), 0);
    }

    private static void sizeEndless() {
        says("2: Its SIZE is the sum of what LINES that leave the set LET from their end in it (ENDLESS, if one does).");
        CutAtlas x = withPlaces(3);
        x.line(STRONG, 0, 1, 0, 0);
        x.line(LINE, 1, 2, 1000, 0);
        x.line(ONEWAY, 2, 0, 1000, 0);
        due("size(0, 2, 1): STRONG leaves", x.size(0, 2, 1), ENDLESS);
        due("size(0, 2, 3): STRONG is inside", x.size(0, 2, 3), 1000);
        due("size(2, 0, 4)", x.size(2, 0, 4), 2000);
        due("size(2, 0, 6): STRONG leaves by its b", x.size(2, 0, 6), ENDLESS);
        due("size(1, 0, 2)", x.size(1, 0, 2), ENDLESS);
    }

    private static void raiseRefused() {
        says("Promise 16: ENDLESS. BAD; STATE: it is MISSING.");
        CutAtlas x = way(3, LINE, 4, 0);
        x.line(STRONG, 0, 1, 0, 0);
        for (int out : outside(3)) {
            due("raise(0, 2, " + out + ")", x.raise(0, 2, out), BAD);
            due("raise(0, 1, " + out + ") of ENDLESS", x.raise(0, 1, out), BAD);
        }
        due("raise(0, 1, 0) of ENDLESS", x.raise(0, 1, 0), ENDLESS);
        x.merge(0, 1);
        due("raise(0, 1, 0) of a MISSING one", x.raise(0, 1, 0), STATE);
        due("raise(0, 1, 2) of a MISSING one", x.raise(0, 1, 2), STATE);
        due("raise(0, 0, 0) of a MISSING one", x.raise(0, 0, 0), BAD);
        due("raise(0, 2, 0) of a MISSING one", x.raise(0, 2, 0), BAD);
        due("raise(-1, 0, 0) of a MISSING one", x.raise(-1, 0, 0), BAD);
        x.line(STRONG, 0, 1, 0, 0);
        due("raise(0, 1, 0): STATE ahead of ENDLESS", x.raise(0, 1, 0), STATE);
        due("raise() of a net without lines", withPlaces(2).raise(0, 1, 0), BAD);
    }

    private static void raiseAtTheEdges() {
        says("2: RAISED is a LINE that is 1 wider. (Promise 16: a STRONG one lets what it lets)");
        int[] kinds = {LINE, ONEWAY, DEAR, SHUT};
        int[] before = {1000, 1000, 1000, 0};
        for (int i = 0; i < 4; i++) {
            CutAtlas x = withPlaces(2);
            x.line(kinds[i], 0, 1, 1000, 0);
            due("raise(0, 1, 0) of kind " + kinds[i], x.raise(0, 1, 0), before[i] + 1);
            due("raise(1, 0, 0) of kind " + kinds[i], x.raise(1, 0, 0), kinds[i] == ONEWAY ? 0 : before[i] + 1);
            due("most(0, 1) is as it was", x.most(0, 1), before[i]);
            due("told(0, 3) is as it was", x.told(0, 3), before[i]);
        }
        CutAtlas y = withPlaces(2);
        y.line(SHUT, 0, 1, 0, 0);
        y.widen(0, 1000);
        y.widen(0, 1000);
        due("raise(0, 1, 0) at 2000", y.raise(0, 1, 0), 2001);
        CutAtlas z = withPlaces(3);
        z.line(STRONG, 0, 1, 1000, 0);
        z.line(LINE, 1, 2, 0, 0);
        due("raise(0, 2, 0) of a STRONG one", z.raise(0, 2, 0), 0);
        due("raise(0, 2, 1)", z.raise(0, 2, 1), 1);
        due("about(3)", z.about(3), 5);
    }

    private static void cheapestAim() {
        says("Promise 17: CHEAPEST for k (0 .. 500) .. BAD.");
        for (int out : outside(501)) {
            if (out < 0 || out > 500) {
                due("cheapest(0, 1, " + out + ")", pair(DEAR).cheapest(0, 1, out), BAD);
                due("cheapest(0, 1, " + out + ") of ENDLESS", pair(STRONG).cheapest(0, 1, out), BAD);
                due("cheapest(0, 1, " + out + ") of none", withPlaces(2).cheapest(0, 1, out), BAD);
            }
        }
        due("cheapest(0, 1, 0)", pair(DEAR).cheapest(0, 1, 0), 0);
        due("cheapest(0, 1, 500)", pair(DEAR).cheapest(0, 1, 500), 495 * 7);
        due("cheapest(1, 0, 500)", pair(DEAR).cheapest(1, 0, 500), 495 * 7);
        due("cheapest(0, 1, 500) of SHUT", pair(SHUT).cheapest(0, 1, 500), 500 * 8);
    }

    private static void cheapestSoAlready() {
        says("Promise 17: 0, if it is so already.");
        CutAtlas x = pair(DEAR, LINE);
        due("cheapest(0, 1, 9)", x.cheapest(0, 1, 9), 0);
        due("cheapest(0, 1, 10)", x.cheapest(0, 1, 10), 0);
        due("cheapest(0, 1, 11)", x.cheapest(0, 1, 11), 7);
        due("cheapest(0, 1, 12)", x.cheapest(0, 1, 12), 14);
        due("cheapest(0, 1, 10) of none that can be", pair(LINE, LINE).cheapest(0, 1, 10), 0);
        due("cheapest(0, 1, 11) of none that can be", pair(LINE, LINE).cheapest(0, 1, 11), NONE);
        due("cheapest(0, 1, 0) of no lines", withPlaces(2).cheapest(0, 1, 0), 0);
        due("cheapest(0, 1, 1) of no lines", withPlaces(2).cheapest(0, 1, 1), NONE);
        due("cheapest(0, 1, 500) of ENDLESS", pair(STRONG).cheapest(0, 1, 500), 0);
        due("cheapest(0, 1, 500) of 1000", way(2, LINE, 1000, 0).cheapest(0, 1, 500), 0);
        due("cheapest(0, 1, 500) of 499", way(2, LINE, 499, 0).cheapest(0, 1, 500), NONE);
        due("cheapest(0, 1, 499) of 499", way(2, LINE, 499, 0).cheapest(0, 1, 499), 0);
    }

    private static void cheapestNone() {
        says("2: there is none, if no widening does.");
        CutAtlas x = way(4, DEAR, 0, 0);
        due("cheapest(0, 3, 500) for nothing", x.cheapest(0, 3, 500), 0);
        x.line(DEAR, 0, 3, 0, 1);
        due("cheapest(0, 3, 500) for nothing", x.cheapest(0, 3, 500), 0);
        x.merge(1, 2);
        due("cheapest(0, 2, 500) past a MISSING one", x.cheapest(0, 2, 500), 0);
        CutAtlas gap = way(4, DEAR, 1, 3);
        gap.place();
        gap.line(ONEWAY, 3, 4, 2, 0);
        due("cheapest(0, 4, 1)", gap.cheapest(0, 4, 1), 0);
        due("cheapest(0, 4, 2)", gap.cheapest(0, 4, 2), 9);
        due("cheapest(0, 4, 3): ONEWAY can't be", gap.cheapest(0, 4, 3), NONE);
        due("cheapest(4, 0, 1): against ONEWAY", gap.cheapest(4, 0, 1), NONE);
        due("cheapest(4, 0, 0): against ONEWAY", gap.cheapest(4, 0, 0), 0);
        CutAtlas missing = pair(DEAR);
        missing.place();
        missing.merge(0, 1);
        due("cheapest(0, 1, 1): all are MISSING", missing.cheapest(0, 1, 1), NONE);
    }

    private static void cheapestDearest() {
        says("1: COSTS .. DEAR its PRICE; SHUT up and 1 (price 0 .. 100)");
        due("cheapest(0, 11, 500) along 11 SHUT ones", way(12, SHUT, 1000, 100).cheapest(0, 11, 500), 11 * 101 * 500);
        due("cheapest(11, 0, 500) along 11 SHUT ones", way(12, SHUT, 1000, 100).cheapest(11, 0, 500), 11 * 101 * 500);
        due("cheapest(0, 11, 500) along 11 DEAR ones", way(12, DEAR, 0, 100).cheapest(0, 11, 500), 11 * 100 * 500);
        due("cheapest(0, 11, 500) along 11 for nothing", way(12, DEAR, 0, 0).cheapest(0, 11, 500), 0);
        due("cheapest(0, 11, 1) along 11 SHUT ones of 0", way(12, SHUT, 0, 0).cheapest(0, 11, 1), 11);
        CutAtlas x = withPlaces(2);
        for (int i = 0; i < 39; i++) {
            x.line(SHUT, i % 2, 1 - i % 2, 1000, 100 - i);
        }
        x.line(DEAR, 1, 0, 0, 62);
        due("cheapest(0, 1, 500) by the 40th", x.cheapest(0, 1, 500), 62 * 500);
        x.undo();
        due("cheapest(0, 1, 500) by the 39th", x.cheapest(0, 1, 500), 63 * 500);
    }

    private static void cheapestAsOftenAsItLikes() {
        says("2: LINES that are widened (each as often as it likes, each time for its COSTS)");
        // The way by 1 costs 2 as long as 0-1 has room, 4 from there on; the line beside it would cost 5.
        CutAtlas x = withPlaces(3);
        x.line(DEAR, 0, 2, 1, 5);
        x.line(DEAR, 0, 1, 3, 2);
        x.line(DEAR, 1, 2, 1, 2);
        due("cheapest(0, 2, 2)", x.cheapest(0, 2, 2), 0);
        due("cheapest(0, 2, 3)", x.cheapest(0, 2, 3), 2);
        due("cheapest(0, 2, 4)", x.cheapest(0, 2, 4), 4);
        due("cheapest(0, 2, 5)", x.cheapest(0, 2, 5), 8);
        due("cheapest(0, 2, 500)", x.cheapest(0, 2, 500), 4 + 496 * 4);
        due("about(3): nothing was widened", x.about(3), 6);
        due("told(1, 3): nothing was widened", x.told(1, 3), 3);
    }

    private static void cheapestGivesBackWhatWasWidened() {
        says("2: CHEAPEST from s to t for a number k: the least sum of COSTS");
        // For 2 the line 1-2 is widened by one; from 3 on that one is not needed, and it is no more than one.
        CutAtlas x = withPlaces(4);
        x.line(LINE, 0, 1, 2, 0);
        x.line(DEAR, 1, 2, 1, 1);
        x.line(LINE, 2, 3, 2, 0);
        x.line(DEAR, 0, 2, 0, 10);
        x.line(DEAR, 1, 3, 0, 10);
        int[] want = {0, 0, 1, 20, 40, 60, 81, 102};
        for (int k = 0; k < want.length; k++) {
            due("cheapest(0, 3, " + k + ")", x.cheapest(0, 3, k), want[k]);
        }
    }
}
