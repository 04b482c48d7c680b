/** The document's sentences that name a boundary case: the whole net of terms 2, promises 18 to 25. */
public final class BoundsOfTheWhole {
    private static final int BAD = -1, STATE = -2, NONE = -9;
    private static final int LINE = 0, ONEWAY = 1, STRONG = 2, DEAR = 3, SHUT = 4;
    private static final int MIN = Integer.MIN_VALUE, MAX = Integer.MAX_VALUE;
    private static String sentence = "";
    private static int wrong = 0;

    public static void main(String[] args) {
        stateOfNetsThatAreNotWhole();
        wholeAgain();
        treeBounds();
        treeStateAheadOfThePlace();
        treeOfTwoAndOfTwelve();
        treeOfWhatComesBetween();
        betweenBounds();
        betweenStateAheadOfThePlaces();
        betweenAtTheEdges();
        leastAtTheEdges();
        cutsAtTheEdges();
        cutAtFromFirstToLast();
        cutAtRefused();
        weakBounds();
        weakState();
        weakAtTheEdges();
        partBounds();
        partStateAheadOfThePlace();
        partAtTheEdges();
        partNumbers();
        denseBounds();
        denseOfNothing();
        denseMostPlaces();
        denseByALittle();
        denseOfTheWidestNet();
        System.out.println(wrong == 0 ? "all bounds of the whole are as due" : wrong + " answers are not as due");
        if (wrong != 0) {
            System.exit(1);
        }
    }

    private static void says(String words) {
        sentence = words;
    }

    private static void due(String call, long got, long want) {
        if (got != want) {
            wrong++;
            System.out.println("\"" + sentence + "\": " + call + " answered " + got + ", due is " + want);
        }
    }

    private static CutAtlas withPlaces(int places) {
        CutAtlas x = new CutAtlas();
        for (int i = 0; i < places; i++) {
            x.place();
        }
        return x;
    }

    private static CutAtlas way(int places, int width) {
        CutAtlas x = withPlaces(places);
        for (int i = 0; i + 1 < places; i++) {
            x.line(LINE, i, i + 1, width, 0);
        }
        return x;
    }

    private static CutAtlas ring(int places, int width) {
        CutAtlas x = way(places, width);
        x.line(LINE, places - 1, 0, width, 0);
        return x;
    }

    /** 40 lines of 2000 between two of so many places. */
    private static CutAtlas widest(int places, int a, int b) {
        CutAtlas x = withPlaces(places);
        for (int i = 0; i < 40; i++) {
            x.line(DEAR, a, b, 1000, 100);
            x.widen(i, 1000);
        }
        return x;
    }

    private static int[] outside(int bound) {
        return new int[] {
            MIN, MIN + 1, -65536, -65535, -256, -255, -32, -31, -9, -2, -1, bound, bound + 1, bound + 32, bound + 256,
            bound + 65536, 32, 33, 64, 1 << 16, 1 << 24, 1 << 30, MAX - 1, MAX
        };
    }

    private static void allAreState(String net, CutAtlas x) {
        due("tree(0, 0) of " + net, x.tree(0, 0), STATE);
        due("tree(1, 1) of " + net, x.tree(1, 1), STATE);
        due("between(0, 1) of " + net, x.between(0, 1), STATE);
        due("least() of " + net, x.least(), STATE);
        due("cuts() of " + net, x.cuts(), STATE);
        due("cutAt(0) of " + net, x.cutAt(0), STATE);
        due("cutAt(MAX) of " + net, x.cutAt(MAX), STATE);
        due("part(0, -1) of " + net, x.part(0, -1), STATE);
        due("part(MAX, 0) of " + net, x.part(MAX, 0), STATE);
        for (int what = 0; what < 3; what++) {
            due("dense(" + what + ") of " + net, x.dense(what), STATE);
        }
        if (x.about(1) > 0) {
            due("weak(0) of " + net, x.weak(0), STATE);
        }
    }

    private static void stateOfNetsThatAreNotWhole() {
        says("Promises 18 to 25: STATE: the net is not WHOLE (2: no ONEWAY, no STRONG LINES .., and two PLACES at least)");
        allAreState("no places", new CutAtlas());
        allAreState("one place", withPlaces(1));
        CutAtlas merged = way(2, 5);
        merged.merge(0, 1);
        allAreState("one place of two merged", merged);
        for (int kind = ONEWAY; kind <= STRONG; kind++) {
            CutAtlas first = withPlaces(12);
            first.line(kind, 10, 11, 0, 0);
            first.line(LINE, 0, 1, 1, 0);
            allAreState("a first line of kind " + kind, first);
            CutAtlas last = withPlaces(3);
            for (int i = 0; i < 39; i++) {
                last.line(i % 2 == 0 ? LINE : DEAR, 0, 1, 1, 0);
            }
            due("least() ahead of it", last.least(), 0);
            last.line(kind, 1, 2, 1000, 0);
            allAreState("a 40th line of kind " + kind, last);
        }
    }

    private static void wholeAgain() {
        says("2: A WHOLE net has no ONEWAY, no STRONG LINES that are not MISSING");
        for (int kind = ONEWAY; kind <= STRONG; kind++) {
            CutAtlas x = way(3, 4);
            x.line(kind, 0, 1, 9, 0);
            due("least()", x.least(), STATE);
            x.merge(0, 1);
            due("least() when it is MISSING", x.least(), 4);
            due("cuts()", x.cuts(), 1);
            due("cutAt(0)", x.cutAt(0), 2);
            due("tree(1, 0)", x.tree(1, 0), 0);
            due("tree(1, 1)", x.tree(1, 1), 4);
            due("between(1, 0)", x.between(1, 0), 4);
            due("weak(1)", x.weak(1), 1);
            due("weak(0) of a MISSING one", x.weak(0), STATE);
            due("part(4, -1)", x.part(4, -1), 1);
            due("dense(1): MISSING ones are in no set", x.dense(1), 4);
            x.undo();
            due("least() behind undo()", x.least(), STATE);
            x.undo();
            due("least() ahead of it", x.least(), 4);
        }
    }

    private static void treeBounds() {
        says("Promise 18: what = 0 ITS NEXT of a PLACE, 1 its NUMBER (NONE of PLACE 0). BAD");
        for (int places : new int[] {2, 12}) {
            CutAtlas x = way(places, 3);
            for (int out : outside(places)) {
                due("tree(" + out + ", 0)", x.tree(out, 0), BAD);
                due("tree(" + out + ", 1)", x.tree(out, 1), BAD);
            }
            for (int out : outside(2)) {
                due("tree(0, " + out + ")", x.tree(0, out), BAD);
                due("tree(1, " + out + ")", x.tree(1, out), BAD);
            }
            due("tree(0, 0)", x.tree(0, 0), NONE);
            due("tree(0, 1)", x.tree(0, 1), NONE);
            due("tree(1, 0)", x.tree(1, 0), 0);
            due("tree(1, 1)", x.tree(1, 1), 3);
            due("tree(places - 1, 1)", x.tree(places - 1, 1), 3);
        }
    }

    private static void treeStateAheadOfThePlace() {
        says("Promise 18: STATE: the net is not WHOLE (ahead of whether there is such a PLACE).");
        CutAtlas x = withPlaces(2);
        x.line(STRONG, 0, 1, 0, 0);
        for (int out : outside(2)) {
            due("tree(" + out + ", 0)", x.tree(out, 0), STATE);
            due("tree(" + out + ", 1)", x.tree(out, 1), STATE);
            due("tree(0, " + out + "): BAD is ahead", x.tree(0, out), BAD);
            due("tree(" + out + ", " + out + "): BAD is ahead", x.tree(out, out), BAD);
            due("tree(" + out + ", 0) of no places", new CutAtlas().tree(out, 0), STATE);
        }
    }

    private static void treeOfTwoAndOfTwelve() {
        says("2: THE TREE: each PLACE but 0 has ITS NEXT, at first 0. For PLACES i = 1, 2, .. in order");
        CutAtlas lone = withPlaces(12);
        CutAtlas way = way(12, 7);
        for (int i = 1; i < 12; i++) {
            due("tree(" + i + ", 0) of no lines", lone.tree(i, 0), 0);
            due("tree(" + i + ", 1) of no lines", lone.tree(i, 1), 0);
        }
        // The near cut from i to i - 1 has all from i on, so that each hangs at the one ahead.
        int[] next = new int[12];
        for (int i = 2; i < 12; i++) {
            next[i] = i - 1;
        }
        for (int i = 1; i < 12; i++) {
            due("tree(" + i + ", 0) of a way", way.tree(i, 0), next[i]);
            due("tree(" + i + ", 1) of a way", way.tree(i, 1), 7);
        }
        CutAtlas two = widest(2, 1, 0);
        due("tree(1, 0) of two", two.tree(1, 0), 0);
        due("tree(1, 1) of the widest", two.tree(1, 1), 80000);
        CutAtlas none = withPlaces(2);
        due("tree(1, 0) of two", none.tree(1, 0), 0);
        due("tree(1, 1) of two", none.tree(1, 1), 0);
    }

    private static void treeOfWhatComesBetween() {
        says("2: if t is not 0, and ITS NEXT of t is in N: i gets that one as its NEXT, with the NUMBER of t, and t gets i");
        // 1 hangs at 0 with 2 and 3 below it; then 3 comes between 0 and 1, and 2 stays at 1.
        CutAtlas x = withPlaces(4);
        x.line(LINE, 0, 3, 1, 0);
        x.line(LINE, 3, 1, 5, 0);
        x.line(LINE, 1, 2, 9, 0);
        int[] next = {NONE, 3, 1, 0};
        int[] number = {NONE, 5, 9, 1};
        for (int i = 0; i < 4; i++) {
            due("tree(" + i + ", 0)", x.tree(i, 0), next[i]);
            due("tree(" + i + ", 1)", x.tree(i, 1), number[i]);
        }
        due("between(2, 0)", x.between(2, 0), 1);
        due("between(2, 3)", x.between(2, 3), 5);
        due("between(3, 2)", x.between(3, 2), 5);
        due("between(1, 2)", x.between(1, 2), 9);
    }

    private static void betweenBounds() {
        says("Promise 19: BETWEEN, by THE TREE. BAD: the same, too");
        for (int places : new int[] {2, 12}) {
            CutAtlas x = way(places, 3);
            for (int out : outside(places)) {
                due("between(" + out + ", 0)", x.between(out, 0), BAD);
                due("between(0, " + out + ")", x.between(0, out), BAD);
                due("between(" + out + ", " + out + ")", x.between(out, out), BAD);
            }
            for (int same = 0; same < places; same++) {
                due("between(" + same + ", " + same + ")", x.between(same, same), BAD);
            }
            due("between(0, places - 1)", x.between(0, places - 1), 3);
            due("between(places - 1, 0)", x.between(places - 1, 0), 3);
        }
    }

    private static void betweenStateAheadOfThePlaces() {
        says("Promise 19: STATE (likewise: ahead of whether there is such a PLACE).");
        for (int kind = ONEWAY; kind <= STRONG; kind++) {
            CutAtlas x = withPlaces(2);
            x.line(kind, 0, 1, 0, 0);
            for (int out : outside(2)) {
                due("between(" + out + ", 0)", x.between(out, 0), STATE);
                due("between(0, " + out + ")", x.between(0, out), STATE);
                due("between(" + out + ", " + out + ")", x.between(out, out), STATE);
            }
            due("between(1, 1)", x.between(1, 1), STATE);
        }
        due("between(0, 0) of no places", new CutAtlas().between(0, 0), STATE);
        due("between(0, 0) of one place", withPlaces(1).between(0, 0), STATE);
        due("between(1, 1) of one place", withPlaces(1).between(1, 1), STATE);
        due("between(-1, MAX) of one place", withPlaces(1).between(-1, MAX), STATE);
    }

    private static void betweenAtTheEdges() {
        says("2: BETWEEN of two PLACES of a WHOLE net is MOST.");
        due("between(0, 1) of no lines", withPlaces(2).between(0, 1), 0);
        due("between(0, 11) of no lines", withPlaces(12).between(0, 11), 0);
        due("between(0, 1) of the widest", widest(2, 0, 1).between(0, 1), 80000);
        due("between(11, 10) of the widest", widest(12, 10, 11).between(11, 10), 80000);
        due("between(11, 9) of the widest", widest(12, 10, 11).between(11, 9), 0);
        // A way of falling widths: between two places is what the farther one has.
        CutAtlas x = withPlaces(12);
        for (int i = 0; i < 11; i++) {
            x.line(LINE, i, i + 1, 1000 - i, 0);
        }
        for (int a = 0; a < 12; a++) {
            for (int b = 0; b < 12; b++) {
                due("between(" + a + ", " + b + ")", x.between(a, b), a == b ? BAD : 1001 - Math.max(a, b));
            }
        }
    }

    private static void leastAtTheEdges() {
        says("Promise 20: LEAST. STATE. (2: the least BETWEEN of any two)");
        due("least() of two places", withPlaces(2).least(), 0);
        due("least() of twelve", withPlaces(12).least(), 0);
        due("least() of one line", way(2, 1).least(), 1);
        due("least() of the widest", widest(2, 0, 1).least(), 80000);
        due("least() of the widest and a lone place", widest(3, 0, 1).least(), 0);
        CutAtlas x = way(12, 1000);
        due("least() of a way", x.least(), 1000);
        x.width(10, 999);
        due("least() at the last line", x.least(), 999);
        x.width(0, 998);
        due("least() at the first line", x.least(), 998);
        due("least() of a ring", ring(12, 1000).least(), 2000);
    }

    private static void cutsAtTheEdges() {
        says("Promise 21: How many ITS CUTS are. (2: sets of that SIZE, without PLACE 0, not empty)");
        due("cuts() of two places", withPlaces(2).cuts(), 1);
        due("cuts() of three places", withPlaces(3).cuts(), 3);
        due("cuts() of twelve", withPlaces(12).cuts(), 2047);
        due("cuts() of one line", way(2, 1).cuts(), 1);
        due("cuts() of a way", way(12, 1).cuts(), 11);
        due("cuts() of a ring", ring(12, 1).cuts(), 66);
        due("cuts() of the widest", widest(2, 0, 1).cuts(), 1);
        // Two groups and nothing between: the one without 0 is the only one that no line leaves.
        CutAtlas x = way(12, 1);
        x.width(5, 0);
        due("cuts() of two groups", x.cuts(), 1);
        due("cutAt(0) of two groups", x.cutAt(0), 4032);
        due("cutAt(1) of two groups", x.cutAt(1), NONE);
    }

    private static void cutAtFromFirstToLast() {
        says("Promise 22: The i-th of ITS CUTS, by numbers as bits; NONE.");
        CutAtlas lone = withPlaces(12);
        due("cutAt(0) of no lines", lone.cutAt(0), 2);
        due("cutAt(1) of no lines", lone.cutAt(1), 4);
        due("cutAt(2046) of no lines", lone.cutAt(2046), 4094);
        due("cutAt(2047) of no lines", lone.cutAt(2047), NONE);
        CutAtlas way = way(12, 1);
        for (int i = 0; i < 11; i++) {
            due("cutAt(" + i + ") of a way", way.cutAt(i), 4096 - (1 << 11 - i));
        }
        due("cutAt(11) of a way", way.cutAt(11), NONE);
        due("cutAt(MAX)", way.cutAt(MAX), NONE);
        due("cutAt(MAX - 1)", way.cutAt(MAX - 1), NONE);
        due("cutAt(1000000000)", way.cutAt(1000000000), NONE);
        due("cutAt(0) of two", withPlaces(2).cutAt(0), 2);
        due("cutAt(1) of two", withPlaces(2).cutAt(1), NONE);
    }

    private static void cutAtRefused() {
        says("Promise 22: BAD: i below 0; STATE.");
        CutAtlas strong = withPlaces(2);
        strong.line(STRONG, 0, 1, 0, 0);
        for (int i : new int[] {-1, -2, -9, MIN + 1, MIN}) {
            due("cutAt(" + i + ")", way(2, 1).cutAt(i), BAD);
            due("cutAt(" + i + ") of no WHOLE net", strong.cutAt(i), BAD);
            due("cutAt(" + i + ") of no places", new CutAtlas().cutAt(i), BAD);
        }
        due("cutAt(0) of no WHOLE net", strong.cutAt(0), STATE);
    }

    private static void weakBounds() {
        says("Promise 23: Whether a LINE is WEAK: 1, 0. BAD");
        CutAtlas x = ring(12, 1);
        for (int out : outside(12)) {
            due("weak(" + out + ")", x.weak(out), BAD);
            due("weak(" + out + ") of no lines", withPlaces(2).weak(out), BAD);
        }
        due("weak(0) of no lines", withPlaces(2).weak(0), BAD);
        due("weak(11)", x.weak(11), 1);
        CutAtlas full = widest(3, 0, 1);
        due("weak(39)", full.weak(39), 0);
        due("weak(40)", full.weak(40), BAD);
    }

    private static void weakState() {
        says("Promise 23: BAD; STATE: also MISSING.");
        CutAtlas x = way(3, 1);
        x.merge(0, 1);
        due("weak(0) of a MISSING one", x.weak(0), STATE);
        due("weak(1)", x.weak(1), 1);
        due("weak(2)", x.weak(2), BAD);
        x.line(ONEWAY, 0, 1, 1, 0);
        due("weak(0)", x.weak(0), STATE);
        due("weak(1)", x.weak(1), STATE);
        due("weak(2) of the ONEWAY", x.weak(2), STATE);
        due("weak(3): BAD is ahead", x.weak(3), BAD);
        due("weak(-1): BAD is ahead", x.weak(-1), BAD);
        x.merge(0, 1);
        due("weak(2) of one place", x.weak(2), STATE);
        due("weak(3) of one place", x.weak(3), BAD);
    }

    private static void weakAtTheEdges() {
        says("2: A LINE is WEAK, if it is in one of ITS CUTS (one end is in it alone).");
        CutAtlas x = way(4, 2);
        x.line(LINE, 0, 3, 0, 0);
        x.line(LINE, 0, 1, 1, 0);
        int[] want = {0, 1, 1, 1, 0};
        for (int line = 0; line < 5; line++) {
            due("weak(" + line + ")", x.weak(line), want[line]);
        }
        CutAtlas none = withPlaces(2);
        none.line(SHUT, 0, 1, 1000, 0);
        due("weak(0) of no width", none.weak(0), 1);
        CutAtlas lone = way(2, 1000);
        due("weak(0) of the one line", lone.weak(0), 1);
        lone.place();
        due("weak(0) beside a lone place", lone.weak(0), 0);
        // One more on one line of a ring: no least cut goes through it any more.
        CutAtlas ring = ring(12, 999);
        for (int line = 0; line < 12; line++) {
            due("weak(" + line + ") of a ring", ring.weak(line), 1);
        }
        ring.width(7, 1000);
        for (int line = 0; line < 12; line++) {
            due("weak(" + line + ") of a ring", ring.weak(line), line == 7 ? 0 : 1);
        }
    }

    private static void partBounds() {
        says("Promise 24: (place = -1), or which one a PLACE is in. BAD: k below 0");
        for (int places : new int[] {2, 12}) {
            CutAtlas x = way(places, 3);
            for (int out : outside(places)) {
                due("part(0, " + out + ")", x.part(0, out), out == -1 ? 1 : BAD);
                due("part(4, " + out + ")", x.part(4, out), out == -1 ? places : BAD);
            }
            for (int k : new int[] {-1, -2, -9, MIN + 1, MIN}) {
                due("part(" + k + ", -1)", x.part(k, -1), BAD);
                due("part(" + k + ", 0)", x.part(k, 0), BAD);
            }
            due("part(3, places - 1)", x.part(3, places - 1), 0);
            due("part(4, places - 1)", x.part(4, places - 1), places - 1);
        }
    }

    private static void partStateAheadOfThePlace() {
        says("Promise 24: BAD: k below 0; STATE (ahead of whether there is such a PLACE).");
        CutAtlas x = withPlaces(2);
        x.line(ONEWAY, 0, 1, 0, 0);
        for (int out : outside(2)) {
            due("part(0, " + out + ")", x.part(0, out), STATE);
            due("part(MAX, " + out + ")", x.part(MAX, out), STATE);
            due("part(-1, " + out + "): BAD is ahead", x.part(-1, out), BAD);
            due("part(0, " + out + ") of no places", new CutAtlas().part(0, out), STATE);
            due("part(0, " + out + ") of one place", withPlaces(1).part(0, out), STATE);
            due("part(MIN, " + out + ") of one place", withPlaces(1).part(MIN, out), BAD);
        }
    }

    private static void partAtTheEdges() {
        says("2: PARTS by a number k: sets of PLACES any two of which have k or more BETWEEN");
        CutAtlas x = widest(3, 1, 2);
        int[] ks = {0, 1, 79999, 80000, 80001, MAX};
        int[] many = {1, 2, 2, 2, 3, 3};
        int[] last = {0, 1, 1, 1, 2, 2};
        for (int i = 0; i < ks.length; i++) {
            due("part(" + ks[i] + ", -1)", x.part(ks[i], -1), many[i]);
            due("part(" + ks[i] + ", 0)", x.part(ks[i], 0), 0);
            due("part(" + ks[i] + ", 2)", x.part(ks[i], 2), last[i]);
        }
        CutAtlas lone = withPlaces(12);
        due("part(0, -1) of no lines", lone.part(0, -1), 1);
        due("part(1, -1) of no lines", lone.part(1, -1), 12);
        due("part(0, 11) of no lines", lone.part(0, 11), 0);
        due("part(1, 11) of no lines", lone.part(1, 11), 11);
    }

    private static void partNumbers() {
        says("2: PARTS .. are numbered by their least PLACES.");
        // Pairs 0-11, 1-10, .., each narrower than the one ahead, and a line of 1 from pair to pair.
        CutAtlas x = withPlaces(12);
        for (int i = 0; i < 6; i++) {
            x.line(LINE, 11 - i, i, 100 - 10 * i, 0);
        }
        for (int i = 0; i < 5; i++) {
            x.line(LINE, i, i + 1, 1, 0);
        }
        for (int place = 0; place < 12; place++) {
            int pair = Math.min(place, 11 - place);
            due("part(1, " + place + ")", x.part(1, place), 0);
            due("part(2, " + place + ")", x.part(2, place), pair);
            due("part(51, " + place + ")", x.part(51, place), place == 6 ? 6 : pair);
            due("part(101, " + place + ")", x.part(101, place), place);
        }
        due("part(1, -1)", x.part(1, -1), 1);
        due("part(2, -1)", x.part(2, -1), 6);
        due("part(50, -1)", x.part(50, -1), 6);
        due("part(51, -1)", x.part(51, -1), 7);
        due("part(100, -1)", x.part(100, -1), 11);
        due("part(101, -1)", x.part(101, -1), 12);
    }

    private static void denseBounds() {
        says("Promise 25: 0 as bits, 1 the sum of its WIDTHS, 2 its PLACES. BAD; STATE.");
        CutAtlas strong = withPlaces(2);
        strong.line(STRONG, 0, 1, 5, 0);
        for (int out : outside(3)) {
            due("dense(" + out + ")", way(2, 1).dense(out), BAD);
            due("dense(" + out + "): BAD is ahead", strong.dense(out), BAD);
            due("dense(" + out + ") of no places", new CutAtlas().dense(out), BAD);
        }
        due("dense(2) of no WHOLE net", strong.dense(2), STATE);
        due("dense(0) of two", way(2, 1).dense(0), 3);
        due("dense(1) of two", way(2, 1).dense(1), 1);
        due("dense(2) of two", way(2, 1).dense(2), 2);
    }

    private static void denseOfNothing() {
        says("2: SHARE of a set of PLACES, not empty .. the greatest SHARE, and of those the most PLACES");
        for (int places = 2; places <= 12; places += 5) {
            CutAtlas x = withPlaces(places);
            due("dense(0) of no lines", x.dense(0), (1 << places) - 1);
            due("dense(1) of no lines", x.dense(1), 0);
            due("dense(2) of no lines", x.dense(2), places);
            x.line(LINE, 0, places - 1, 0, 0);
            x.line(SHUT, 0, 1, 1000, 0);
            due("dense(0) of no widths", x.dense(0), (1 << places) - 1);
            x.width(0, 1);
            due("dense(0) of one line", x.dense(0), 1 | 1 << places - 1);
            due("dense(1) of one line", x.dense(1), 1);
            due("dense(2) of one line", x.dense(2), 2);
        }
    }

    private static void denseMostPlaces() {
        says("2: THE DENSEST set has the greatest SHARE, and of those the most PLACES (there is one).");
        // Six pairs of one width: all of them together have the same share.
        CutAtlas x = withPlaces(12);
        for (int i = 0; i < 6; i++) {
            x.line(LINE, i, 11 - i, 1000, 0);
        }
        due("dense(0)", x.dense(0), 4095);
        due("dense(1)", x.dense(1), 6000);
        due("dense(2)", x.dense(2), 12);
        x.width(3, 999);
        due("dense(0) without the narrow pair", x.dense(0), 4095 - (1 << 3) - (1 << 8));
        due("dense(1)", x.dense(1), 5000);
        due("dense(2)", x.dense(2), 10);
        x.line(LINE, 3, 8, 2, 0);
        due("dense(0) of the pair that is wider by one", x.dense(0), (1 << 3) + (1 << 8));
        due("dense(1)", x.dense(1), 1001);
        due("dense(2)", x.dense(2), 2);
    }

    private static void denseByALittle() {
        says("2: the sum of WIDTHS of LINES with both ends in it by how many PLACES");
        // A ring has its width as its share; a place beside it lowers, keeps or lifts that by its own line.
        CutAtlas x = ring(11, 500);
        x.place();
        x.line(LINE, 0, 11, 499, 0);
        due("dense(0): the ring alone", x.dense(0), 2047);
        due("dense(1)", x.dense(1), 5500);
        x.width(11, 500);
        due("dense(0): with the place beside it", x.dense(0), 4095);
        due("dense(1)", x.dense(1), 6000);
        x.width(11, 501);
        due("dense(0)", x.dense(0), 4095);
        due("dense(1)", x.dense(1), 6001);
        due("dense(2)", x.dense(2), 12);
    }

    private static void denseOfTheWidestNet() {
        says("1: LINES (40 at most) .. WIDTHS .. 2000 at most when they were widened");
        CutAtlas x = widest(12, 0, 11);
        due("dense(0)", x.dense(0), 2049);
        due("dense(1)", x.dense(1), 80000);
        due("dense(2)", x.dense(2), 2);
        CutAtlas y = withPlaces(12);
        for (int i = 0; i < 40; i++) {
            y.line(DEAR, i % 12, (i + 1 + i / 12) % 12, 1000, 0);
            y.widen(i, 1000);
        }
        due("dense(1) of 40 lines all over", y.dense(1), 80000);
        due("dense(2) of 40 lines all over", y.dense(2), 12);
    }
}
