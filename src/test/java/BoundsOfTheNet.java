/** The document's sentences that name a boundary case: terms 1, promises 1 to 9, 32 and 33. */
public final class BoundsOfTheNet {
    private static final int BAD = -1, STATE = -2, FULL = -3, ENDLESS = -5, NONE = -9, NULL = -11;
    private static final int LINE = 0, ONEWAY = 1, STRONG = 2, DEAR = 3, SHUT = 4;
    private static final int MIN = Integer.MIN_VALUE, MAX = Integer.MAX_VALUE;
    private static String sentence = "";
    private static int wrong = 0;

    public static void main(String[] args) {
        nothingIsThere();
        objectsAreApart();
        placesTwelveAtMost();
        linesFortyAtMost();
        lineBad();
        lineBadAheadOfFull();
        widthsAsTold();
        pricesAsTold();
        numberIsNotToldAnew();
        widenBounds();
        widenUpTo2000();
        widenState();
        widthBounds();
        widthState();
        mergeBounds();
        mergeMovesNumbers();
        mergeDownToOne();
        undoThirty();
        undoWrapsAround();
        undoOfEachChange();
        undoOfRefusedOnes();
        undoOfNoChange();
        undoLeavesMapsAndTrace();
        toldBounds();
        toldOfMissing();
        askBounds();
        askAtTheEdges();
        traceOfKinds();
        traceOfRefusedOnes();
        traceOfOtherQuestions();
        aboutBounds();
        aboutWhole();
        lastOfManyCalls();
        System.out.println(wrong == 0 ? "all bounds of the net are as due" : wrong + " answers are not as due");
        if (wrong != 0) {
            System.exit(1);
        }
    }

    private static void says(String words) {
        sentence = words;
    }

    private static void due(String call, long got, long want) {
        if (got != want) {
            wrong++;
            System.out.println("\"" + sentence + "\": " + call + " answered " + got + ", due is " + want);
        }
    }

    private static CutAtlas withPlaces(int places) {
        CutAtlas x = new CutAtlas();
        for (int i = 0; i < places; i++) {
            x.place();
        }
        return x;
    }

    /** Two places with a line of each kind between them, of width 5 and price 7. */
    private static CutAtlas eachKind() {
        CutAtlas x = withPlaces(2);
        for (int kind = LINE; kind <= SHUT; kind++) {
            x.line(kind, 0, 1, 5, 7);
        }
        return x;
    }

    /** Two places and so many lines between them. */
    private static CutAtlas withLines(int lines) {
        CutAtlas x = withPlaces(2);
        for (int i = 0; i < lines; i++) {
            x.line(DEAR, i % 2, 1 - i % 2, i, i);
        }
        return x;
    }

    /** Numbers that are not in 0 .. bound - 1: beside it, at the ends of an int, and such that wrap around into it. */
    private static int[] outside(int bound) {
        return new int[] {
            MIN, MIN + 1, -65536, -65535, -256, -255, -32, -31, -9, -2, -1, bound, bound + 1, bound + 32, bound + 256,
            bound + 65536, 1 << 16, 1 << 24, 1 << 30, MAX - 1, MAX
        };
    }

    private static void nothingIsThere() {
        says("Promise 1: Nothing is there.");
        for (int what = 0; what <= 4; what++) {
            due("about(" + what + ")", new CutAtlas().about(what), 0);
        }
        CutAtlas x = new CutAtlas();
        due("trace()", x.trace(), 0);
        due("status()", x.status(), 0);
        due("undo()", x.undo(), STATE);
        due("line(0, 0, 1, 1, 1)", x.line(0, 0, 1, 1, 1), BAD);
        due("widen(0, 0)", x.widen(0, 0), BAD);
        due("width(0, 0)", x.width(0, 0), BAD);
        due("merge(0, 1)", x.merge(0, 1), BAD);
        due("merge(0, 0)", x.merge(0, 0), BAD);
        for (int what = 0; what <= 5; what++) {
            due("told(0, " + what + ")", x.told(0, what), BAD);
        }
        for (int what = 0; what <= 2; what++) {
            due("ask(0, " + what + ")", x.ask(0, what), BAD);
        }
        due("most(0, 1)", x.most(0, 1), BAD);
        due("flow(0, 1, 0)", x.flow(0, 1, 0), -1000000);
        due("cut(0, 1, 0)", x.cut(0, 1, 0), BAD);
        due("count(0, 1)", x.count(0, 1), BAD);
        due("next(0, 1, 0)", x.next(0, 1, 0), BAD);
        due("size(0, 1, 1)", x.size(0, 1, 1), BAD);
        due("raise(0, 1, 0)", x.raise(0, 1, 0), BAD);
        due("cheapest(0, 1, 0)", x.cheapest(0, 1, 0), BAD);
        due("tree(0, 0)", x.tree(0, 0), STATE);
        due("between(0, 1)", x.between(0, 1), STATE);
        due("least()", x.least(), STATE);
        due("cuts()", x.cuts(), STATE);
        due("cutAt(0)", x.cutAt(0), STATE);
        due("weak(0)", x.weak(0), BAD);
        due("part(0, -1)", x.part(0, -1), STATE);
        due("part(0, 0)", x.part(0, 0), STATE);
        due("dense(0)", x.dense(0), STATE);
        noMapsAreThere(x);
        due("place()", x.place(), 0);
    }

    private static void noMapsAreThere(CutAtlas x) {
        for (int map = 0; map < 4; map++) {
            due("row(" + map + ", 0, 0)", x.row(map, 0, 0), NULL);
            due("put(" + map + ", 0, 0, 0, 0)", x.put(map, 0, 0, 0, 0), NULL);
            due("copy(" + map + ", 0, 0, 0, 0, 0)", x.copy(map, 0, 0, 0, 0, 0), NULL);
            due("item(" + map + ", 0, 0, 0)", x.item(map, 0, 0, 0), 0);
            due("status() of item", x.status(), NULL);
            due("read(" + map + ")", x.read(map), 0);
            due("status() of read", x.status(), NULL);
        }
    }

    private static void objectsAreApart() {
        says("Promise 1: Nothing is there.");
        CutAtlas full = withLines(40);
        full.map(0, 2, 6);
        full.row(0, 0, 5);
        full.put(0, 1, 0, 0, 1);
        full.ask(0, 2);
        CutAtlas x = new CutAtlas();
        for (int what = 0; what <= 4; what++) {
            due("about(" + what + ") beside a full object", x.about(what), 0);
        }
        due("trace() beside a full object", x.trace(), 0);
        due("status() beside a full object", x.status(), 0);
        due("row(0, 0, 1) beside a full object", x.row(0, 0, 1), NULL);
        due("undo() beside a full object", x.undo(), STATE);
    }

    private static void placesTwelveAtMost() {
        says("Promise 2: A PLACE: its number. FULL. (1: PLACES, 12 at most)");
        CutAtlas x = new CutAtlas();
        for (int i = 0; i < 12; i++) {
            due("place()", x.place(), i);
            due("about(0)", x.about(0), i + 1);
        }
        due("the 13th place()", x.place(), FULL);
        due("the 13th place() again", x.place(), FULL);
        due("about(0)", x.about(0), 12);
        due("about(3)", x.about(3), 12);
        due("merge(0, 11)", x.merge(0, 11), 0);
        due("place() behind merge()", x.place(), 11);
        due("the 13th place()", x.place(), FULL);
        due("undo()", x.undo(), 13);
        due("place() behind undo()", x.place(), 11);
        due("undo()", x.undo(), 13);
        due("undo() of merge()", x.undo(), 12);
        due("the 13th place()", x.place(), FULL);
    }

    private static void linesFortyAtMost() {
        says("Promise 3: A LINE: its number. .. FULL. (1: LINES, 40 at most)");
        CutAtlas x = withPlaces(12);
        for (int i = 0; i < 40; i++) {
            due("line()", x.line(i % 5, i % 12, (i + 1) % 12, i, i), i);
        }
        for (int kind = LINE; kind <= SHUT; kind++) {
            due("the 41st line()", x.line(kind, 0, 1, 1, 1), FULL);
        }
        due("about(1)", x.about(1), 40);
        due("told(39, 3)", x.told(39, 3), 0);
        due("told(38, 3)", x.told(38, 3), 38);
        due("told(40, 3)", x.told(40, 3), BAD);
        due("undo()", x.undo(), 29);
        due("told(39, 0) behind undo()", x.told(39, 0), BAD);
        due("the 40th line() behind undo()", x.line(DEAR, 11, 0, 7, 3), 39);
        due("told(39, 3)", x.told(39, 3), 7);
        due("the 41st line()", x.line(LINE, 0, 1, 1, 1), FULL);
    }

    private static void lineBad() {
        says("Promise 3: BAD: KIND, PLACES (the same, too) .. (all are looked at for all KINDS)");
        CutAtlas x = withPlaces(3);
        for (int out : outside(5)) {
            due("line(" + out + ", 0, 1, 1, 1)", x.line(out, 0, 1, 1, 1), BAD);
        }
        for (int kind = LINE; kind <= SHUT; kind++) {
            for (int out : outside(3)) {
                due("line(" + kind + ", " + out + ", 1, 1, 1)", x.line(kind, out, 1, 1, 1), BAD);
                due("line(" + kind + ", 1, " + out + ", 1, 1)", x.line(kind, 1, out, 1, 1), BAD);
            }
            for (int same = 0; same < 3; same++) {
                due("line(" + kind + ", " + same + ", " + same + ", 1, 1)", x.line(kind, same, same, 1, 1), BAD);
            }
        }
        due("about(1)", x.about(1), 0);
        due("about(3)", x.about(3), 3);
        due("line(0, 0, 2, 1, 1)", x.line(LINE, 0, 2, 1, 1), 0);
        due("line(4, 2, 0, 1, 1)", x.line(SHUT, 2, 0, 1, 1), 1);
        due("line() of one place", withPlaces(1).line(LINE, 0, 0, 1, 1), BAD);
        due("line() of one place", withPlaces(1).line(LINE, 0, 1, 1, 1), BAD);
        due("line(0, 11, 10, 1, 1) of 12 places", withPlaces(12).line(LINE, 11, 10, 1, 1), 0);
        due("line(0, 12, 10, 1, 1) of 12 places", withPlaces(12).line(LINE, 12, 10, 1, 1), BAD);
    }

    private static void lineBadAheadOfFull() {
        says("Refused .. the first one here: BAD .., STATE .., FULL");
        CutAtlas x = withLines(40);
        due("line(5, ..)", x.line(5, 0, 1, 1, 1), BAD);
        due("line(-1, ..)", x.line(-1, 0, 1, 1, 1), BAD);
        due("line(0, 2, ..)", x.line(LINE, 2, 1, 1, 1), BAD);
        due("line(0, 0, 2, ..)", x.line(LINE, 0, 2, 1, 1), BAD);
        due("line(0, 1, 1, ..)", x.line(LINE, 1, 1, 1, 1), BAD);
        due("line(0, 0, 1, 1001, 1)", x.line(LINE, 0, 1, 1001, 1), BAD);
        due("line(0, 0, 1, -1, 1)", x.line(LINE, 0, 1, -1, 1), BAD);
        due("line(0, 0, 1, 1, 101)", x.line(LINE, 0, 1, 1, 101), BAD);
        due("line(0, 0, 1, 1, -1)", x.line(LINE, 0, 1, 1, -1), BAD);
        due("line(0, 0, 1, 1, 1)", x.line(LINE, 0, 1, 1, 1), FULL);
        due("line(0, 0, 1, 0, 0)", x.line(LINE, 0, 1, 0, 0), FULL);
        due("line(4, 1, 0, 1000, 100)", x.line(SHUT, 1, 0, 1000, 100), FULL);
    }

    private static void widthsAsTold() {
        says("Promise 3: width 0 .. 1000 (1: WIDTHS are 0 .. 1000 as they are told; BEGINS: LINE it; SHUT 0)");
        for (int kind = LINE; kind <= SHUT; kind++) {
            CutAtlas x = withPlaces(2);
            due("line(" + kind + ", 0, 1, 0, 1)", x.line(kind, 0, 1, 0, 1), 0);
            due("line(" + kind + ", 0, 1, 1, 1)", x.line(kind, 0, 1, 1, 1), 1);
            due("line(" + kind + ", 0, 1, 1000, 1)", x.line(kind, 0, 1, 1000, 1), 2);
            due("told(0, 3)", x.told(0, 3), 0);
            due("told(1, 3)", x.told(1, 3), kind == SHUT ? 0 : 1);
            due("told(2, 3)", x.told(2, 3), kind == SHUT ? 0 : 1000);
            for (int out : outside(1001)) {
                due("line(" + kind + ", 0, 1, " + out + ", 1)", x.line(kind, 0, 1, out, 1), BAD);
            }
            due("about(1)", x.about(1), 3);
        }
    }

    private static void pricesAsTold() {
        says("Promise 3: price 0 .. 100 (all are looked at for all KINDS)");
        for (int kind = LINE; kind <= SHUT; kind++) {
            CutAtlas x = withPlaces(2);
            due("line(" + kind + ", 0, 1, 1, 0)", x.line(kind, 0, 1, 1, 0), 0);
            due("line(" + kind + ", 0, 1, 1, 100)", x.line(kind, 0, 1, 1, 100), 1);
            due("told(0, 4)", x.told(0, 4), 0);
            due("told(1, 4)", x.told(1, 4), 100);
            for (int out : outside(101)) {
                due("line(" + kind + ", 0, 1, 1, " + out + ")", x.line(kind, 0, 1, 1, out), BAD);
            }
            due("about(1)", x.about(1), 2);
        }
    }

    private static void numberIsNotToldAnew() {
        says("1: A LINE is MISSING whose ends were merged into one; its number is not told anew.");
        CutAtlas x = withPlaces(12);
        x.line(LINE, 0, 1, 1, 1);
        x.line(ONEWAY, 1, 2, 2, 2);
        due("merge(0, 1)", x.merge(0, 1), 1);
        due("line() behind merge()", x.line(LINE, 0, 1, 3, 3), 2);
        due("about(1)", x.about(1), 3);
        due("about(2)", x.about(2), 1);
        CutAtlas y = withLines(40);
        y.place();
        due("merge(1, 0)", y.merge(1, 0), 40);
        due("about(2)", y.about(2), 40);
        due("line() behind 40 that are MISSING", y.line(LINE, 0, 1, 1, 1), FULL);
        due("undo() of merge()", y.undo(), 29);
        due("about(2) behind undo()", y.about(2), 0);
        due("told(39, 5)", y.told(39, 5), 0);
    }

    private static void widenBounds() {
        says("Promise 4: A WIDTH is n (0 .. 1000) more: what it costs. BAD");
        CutAtlas x = eachKind();
        for (int out : outside(1001)) {
            for (int line = 0; line < 5; line++) {
                due("widen(" + line + ", " + out + ")", x.widen(line, out), BAD);
            }
        }
        for (int out : outside(5)) {
            due("widen(" + out + ", 1)", x.widen(out, 1), BAD);
        }
        due("about(3)", x.about(3), 7);
        due("widen(3, 0)", x.widen(3, 0), 0);
        due("told(3, 3)", x.told(3, 3), 5);
        due("widen(3, 1)", x.widen(3, 1), 7);
        due("told(3, 3)", x.told(3, 3), 6);
        due("widen(3, 1000)", x.widen(3, 1000), 7000);
        due("told(3, 3)", x.told(3, 3), 1006);
        due("widen(4, 0)", x.widen(4, 0), 0);
        due("widen(4, 1)", x.widen(4, 1), 8);
        due("widen(4, 1000)", x.widen(4, 1000), 8000);
        due("told(4, 3)", x.told(4, 3), 1001);
        due("about(3)", x.about(3), 13);
        CutAtlas y = withLines(40);
        due("widen(39, 1)", y.widen(39, 1), 39);
        due("widen(40, 1)", y.widen(40, 1), BAD);
    }

    private static void widenUpTo2000() {
        says("Promise 4: STATE: .. it would be above 2000. (1: 2000 at most when they were widened)");
        CutAtlas x = withPlaces(2);
        x.line(DEAR, 0, 1, 1000, 100);
        x.line(DEAR, 0, 1, 1000, 0);
        x.line(SHUT, 0, 1, 1000, 100);
        x.line(SHUT, 0, 1, 0, 0);
        due("widen(0, 1000)", x.widen(0, 1000), 100000);
        due("told(0, 3)", x.told(0, 3), 2000);
        due("widen(0, 0) at 2000", x.widen(0, 0), 0);
        due("widen(0, 1) at 2000", x.widen(0, 1), STATE);
        due("widen(0, 1000) at 2000", x.widen(0, 1000), STATE);
        due("widen(1, 999)", x.widen(1, 999), 0);
        due("widen(1, 2) at 1999", x.widen(1, 2), STATE);
        due("told(1, 3)", x.told(1, 3), 1999);
        due("widen(1, 1) at 1999", x.widen(1, 1), 0);
        due("told(1, 3)", x.told(1, 3), 2000);
        due("widen(2, 1000)", x.widen(2, 1000), 101000);
        due("widen(2, 1000)", x.widen(2, 1000), 101000);
        due("told(2, 3)", x.told(2, 3), 2000);
        due("widen(2, 1)", x.widen(2, 1), STATE);
        due("widen(3, 1000)", x.widen(3, 1000), 1000);
        due("widen(3, 1)", x.widen(3, 1), 1);
        due("widen(3, 1000) at 1001", x.widen(3, 1000), STATE);
        due("widen(3, 999) at 1001", x.widen(3, 999), 999);
        due("told(3, 3)", x.told(3, 3), 2000);
    }

    private static void widenState() {
        says("Promise 4: BAD; STATE: it can't be, it is MISSING");
        CutAtlas x = eachKind();
        for (int line = LINE; line <= STRONG; line++) {
            due("widen(" + line + ", 0)", x.widen(line, 0), STATE);
            due("widen(" + line + ", 1000)", x.widen(line, 1000), STATE);
            due("widen(" + line + ", 1001)", x.widen(line, 1001), BAD);
        }
        x.merge(0, 1);
        for (int line = LINE; line <= SHUT; line++) {
            due("widen(" + line + ", 0) of a MISSING one", x.widen(line, 0), STATE);
            due("widen(" + line + ", 1000) of a MISSING one", x.widen(line, 1000), STATE);
            due("widen(" + line + ", 1001) of a MISSING one", x.widen(line, 1001), BAD);
            due("widen(" + line + ", -1) of a MISSING one", x.widen(line, -1), BAD);
        }
        x.undo();
        due("widen(3, 1) behind undo()", x.widen(3, 1), 7);
    }

    private static void widthBounds() {
        says("Promise 5: A WIDTH becomes w (0 .. 1000): what it was. BAD");
        CutAtlas x = eachKind();
        for (int out : outside(1001)) {
            for (int line = 0; line < 5; line++) {
                due("width(" + line + ", " + out + ")", x.width(line, out), BAD);
            }
        }
        for (int out : outside(5)) {
            due("width(" + out + ", 1)", x.width(out, 1), BAD);
        }
        due("about(3)", x.about(3), 7);
        for (int line = 0; line < 5; line++) {
            due("width(" + line + ", 1000)", x.width(line, 1000), line == SHUT ? 0 : 5);
            due("width(" + line + ", 0)", x.width(line, 0), 1000);
            due("width(" + line + ", 1)", x.width(line, 1), 0);
            due("told(" + line + ", 3)", x.told(line, 3), 1);
        }
        x.width(3, 1000);
        x.widen(3, 1000);
        due("width(3, 1001) at 2000", x.width(3, 1001), BAD);
        due("width(3, 1000) at 2000", x.width(3, 1000), 2000);
        due("told(3, 3)", x.told(3, 3), 1000);
    }

    private static void widthState() {
        says("Promise 5: BAD; STATE: it is MISSING.");
        CutAtlas x = eachKind();
        x.merge(1, 0);
        for (int line = 0; line < 5; line++) {
            due("width(" + line + ", 0) of a MISSING one", x.width(line, 0), STATE);
            due("width(" + line + ", 1000) of a MISSING one", x.width(line, 1000), STATE);
            due("width(" + line + ", 1001) of a MISSING one", x.width(line, 1001), BAD);
            due("width(" + line + ", -1) of a MISSING one", x.width(line, -1), BAD);
            due("told(" + line + ", 3)", x.told(line, 3), line == SHUT ? 0 : 5);
        }
    }

    private static void mergeBounds() {
        says("Promise 6: BAD: the same, too.");
        for (int places = 0; places <= 12; places += 3) {
            CutAtlas x = withPlaces(places);
            for (int out : outside(places)) {
                due("merge(" + out + ", 0)", x.merge(out, 0), BAD);
                due("merge(0, " + out + ")", x.merge(0, out), BAD);
                due("merge(" + out + ", " + out + ")", x.merge(out, out), BAD);
            }
            for (int same = 0; same < places; same++) {
                due("merge(" + same + ", " + same + ")", x.merge(same, same), BAD);
            }
            due("about(0)", x.about(0), places);
            due("about(3)", x.about(3), places);
        }
        CutAtlas y = withPlaces(12);
        due("merge(11, 0)", y.merge(11, 0), 0);
        due("merge(11, 0) again", y.merge(11, 0), BAD);
        due("merge(0, 10)", y.merge(0, 10), 0);
    }

    private static void mergeMovesNumbers() {
        says("Promise 6: LINES of the higher one go to the lower one .., PLACES above the higher one get the number below theirs");
        // Lines from 5 and to 5, at each place; 3 and 7 are merged, told either way.
        int[] ends = {0, 1, 2, 3, 4, 6, 7, 8, 11};
        int[] then = {0, 1, 2, 3, 4, 6, 3, 7, 10};
        for (int turn = 0; turn < 2; turn++) {
            CutAtlas x = withPlaces(12);
            for (int end : ends) {
                x.line(LINE, 5, end, end, 0);
                x.line(LINE, end, 5, end, 0);
            }
            due("merge()", turn == 0 ? x.merge(3, 7) : x.merge(7, 3), 0);
            due("about(0)", x.about(0), 11);
            for (int i = 0; i < ends.length; i++) {
                due("told(" + 2 * i + ", 1)", x.told(2 * i, 1), 5);
                due("told(" + 2 * i + ", 2)", x.told(2 * i, 2), then[i]);
                due("told(" + (2 * i + 1) + ", 1)", x.told(2 * i + 1, 1), then[i]);
                due("told(" + (2 * i + 1) + ", 2)", x.told(2 * i + 1, 2), 5);
                due("told(" + 2 * i + ", 3)", x.told(2 * i, 3), ends[i]);
            }
        }
        says("Promise 6: (those between both are MISSING) .. how many LINES are MISSING by that");
        CutAtlas y = withPlaces(3);
        y.line(LINE, 0, 2, 1, 0);
        y.line(LINE, 2, 0, 1, 0);
        y.line(LINE, 1, 2, 1, 0);
        due("merge(2, 0)", y.merge(2, 0), 2);
        due("merge(1, 0): those ahead do not count", y.merge(1, 0), 1);
        due("about(2)", y.about(2), 3);
    }

    private static void mergeDownToOne() {
        says("Promise 6: Two PLACES are merged");
        CutAtlas x = withPlaces(12);
        for (int i = 0; i < 11; i++) {
            x.line(LINE, i, i + 1, i, 0);
        }
        for (int places = 12; places > 1; places--) {
            due("merge(" + (places - 2) + ", " + (places - 1) + ")", x.merge(places - 2, places - 1), 1);
            due("about(0)", x.about(0), places - 1);
        }
        due("merge(0, 1) of one place", x.merge(0, 1), BAD);
        due("merge(0, 0) of one place", x.merge(0, 0), BAD);
        due("about(0)", x.about(0), 1);
        due("about(2)", x.about(2), 11);
        due("line() of one place", x.line(LINE, 0, 1, 1, 1), BAD);
        due("place()", x.place(), 1);
        due("line()", x.line(LINE, 0, 1, 1, 1), 11);
    }

    private static void undoThirty() {
        says("Promise 7: how many more could be undone (the latest 30 can). STATE: there is none.");
        int[] many = {0, 1, 2, 28, 29, 30, 31, 32, 59, 60, 61, 89, 90, 91, 200};
        for (int changes : many) {
            CutAtlas x = withLines(1);
            for (int i = 1; i <= changes; i++) {
                x.width(0, i);
            }
            int could = Math.min(30, changes + 3);
            due("about(3) behind " + changes, x.about(3), could);
            for (int left = could - 1; left >= 0; left--) {
                due("undo() behind " + changes, x.undo(), left);
                due("about(3) behind undo()", x.about(3), left);
                if (changes >= 30) {
                    due("told(0, 3) behind undo()", x.told(0, 3), changes - 30 + left);
                }
            }
            due("undo() of none", x.undo(), STATE);
            due("undo() of none again", x.undo(), STATE);
            due("about(0)", x.about(0), changes + 3 <= 30 ? 0 : changes < 30 ? changes + 3 - 30 : 2);
        }
    }

    private static void undoWrapsAround() {
        says("Promise 7: The net is as it was ahead of the latest .., undone ones but");
        CutAtlas x = withLines(1);
        for (int i = 1; i <= 40; i++) {
            x.width(0, i);
        }
        for (int round = 0; round < 3; round++) {
            for (int left = 29; left >= 10; left--) {
                due("undo()", x.undo(), left);
            }
            due("told(0, 3)", x.told(0, 3), 20);
            for (int i = 21; i <= 40; i++) {
                due("width(0, " + i + ")", x.width(0, i), i - 1);
            }
            due("about(3)", x.about(3), 30);
        }
        due("width(0, 500)", x.width(0, 500), 40);
        due("about(3)", x.about(3), 30);
        due("undo()", x.undo(), 29);
        due("told(0, 3)", x.told(0, 3), 40);
        for (int left = 28; left >= 0; left--) {
            due("undo()", x.undo(), left);
            due("told(0, 3)", x.told(0, 3), 11 + left);
        }
        due("undo()", x.undo(), STATE);
        due("told(0, 3)", x.told(0, 3), 11);
    }

    private static void undoOfEachChange() {
        says("Promise 7: ahead of the latest place(), line(), widen(), width(), merge(), read()");
        CutAtlas x = withPlaces(3);
        x.line(DEAR, 0, 2, 5, 7);
        x.map(0, 1, 2);
        x.row(0, 0, 5);
        x.put(0, 1, 0, 2, 1);
        x.row(0, 1, 5);
        x.put(0, 1, 1, 1, 2);
        due("place()", x.place(), 3);
        due("undo() of place()", x.undo(), 4);
        due("about(0)", x.about(0), 3);
        due("line()", x.line(SHUT, 1, 2, 1, 1), 1);
        due("undo() of line()", x.undo(), 4);
        due("about(1)", x.about(1), 1);
        due("widen(0, 3)", x.widen(0, 3), 21);
        due("undo() of widen()", x.undo(), 4);
        due("told(0, 3)", x.told(0, 3), 5);
        due("width(0, 9)", x.width(0, 9), 5);
        due("undo() of width()", x.undo(), 4);
        due("told(0, 3)", x.told(0, 3), 5);
        due("merge(0, 2)", x.merge(0, 2), 1);
        due("undo() of merge()", x.undo(), 4);
        due("told(0, 1)", x.told(0, 1), 0);
        due("told(0, 2)", x.told(0, 2), 2);
        due("told(0, 5)", x.told(0, 5), 0);
        due("about(0)", x.about(0), 3);
        due("read(0)", x.read(0), 2);
        due("undo() of read()", x.undo(), 4);
        due("about(1)", x.about(1), 1);
        due("about(3)", x.about(3), 4);
    }

    private static void undoOfRefusedOnes() {
        says("Promise 7: that was not refused");
        CutAtlas x = withPlaces(12);
        x.line(LINE, 0, 1, 5, 7);
        x.line(DEAR, 2, 3, 5, 7);
        x.width(0, 6);
        due("place()", x.place(), FULL);
        due("line()", x.line(LINE, 0, 0, 1, 1), BAD);
        due("widen(0, 1)", x.widen(0, 1), STATE);
        due("widen(1, 1001)", x.widen(1, 1001), BAD);
        due("width(0, 1001)", x.width(0, 1001), BAD);
        due("merge(0, 12)", x.merge(0, 12), BAD);
        due("read(0)", x.read(0), 0);
        due("read(4)", x.read(4), BAD);
        x.map(0, 1, 1);
        due("read(0) of a MISSING row", x.read(0), 0);
        x.row(0, 0, 5);
        due("read(0) of a BAD row", x.read(0), 0);
        x.map(0, 1, 0);
        due("read(0) of no rows", x.read(0), 0);
        due("about(3)", x.about(3), 15);
        due("undo() of width()", x.undo(), 14);
        due("told(0, 3)", x.told(0, 3), 5);
        due("undo() of line()", x.undo(), 13);
        due("about(1)", x.about(1), 1);
    }

    private static void undoOfNoChange() {
        says("Promise 7: a call that was not refused can be undone, even if it leaves all as it was");
        CutAtlas x = eachKind();
        x.place();
        due("widen(3, 0)", x.widen(3, 0), 0);
        due("about(3)", x.about(3), 9);
        due("width(0, 5)", x.width(0, 5), 5);
        due("about(3)", x.about(3), 10);
        due("undo()", x.undo(), 9);
        due("undo()", x.undo(), 8);
        due("undo() of place()", x.undo(), 7);
        due("about(0)", x.about(0), 2);
    }

    private static void undoLeavesMapsAndTrace() {
        says("Promise 7: (MAPS, THE TRACE stay.)");
        CutAtlas x = withPlaces(2);
        x.line(SHUT, 0, 1, 5, 7);
        x.map(3, 2, 6);
        x.row(3, 5, 5);
        x.put(3, 2, 5, 4, 99);
        x.widen(0, 1);
        x.put(3, 0, 5, 4, 99);
        for (int left = 3; left >= 0; left--) {
            due("undo()", x.undo(), left);
            due("trace()", x.trace(), 1110000);
            due("status()", x.status(), -13);
        }
        due("undo()", x.undo(), STATE);
        due("item(3, 2, 5, 4)", x.item(3, 2, 5, 4), 99);
    }

    private static void toldBounds() {
        says("Promise 8: 0 KIND, 1 a, 2 b .., 3 WIDTH, 4 PRICE, 5 whether it is MISSING. BAD.");
        CutAtlas x = withLines(40);
        for (int out : outside(6)) {
            due("told(0, " + out + ")", x.told(0, out), BAD);
            due("told(39, " + out + ")", x.told(39, out), BAD);
        }
        for (int out : outside(40)) {
            for (int what = 0; what < 6; what++) {
                due("told(" + out + ", " + what + ")", x.told(out, what), BAD);
            }
        }
        int[] first = {DEAR, 0, 1, 0, 0, 0};
        int[] last = {DEAR, 1, 0, 39, 39, 0};
        for (int what = 0; what < 6; what++) {
            due("told(0, " + what + ")", x.told(0, what), first[what]);
            due("told(39, " + what + ")", x.told(39, what), last[what]);
        }
        for (int kind = LINE; kind <= SHUT; kind++) {
            due("told(" + kind + ", 0)", eachKind().told(kind, 0), kind);
        }
    }

    private static void toldOfMissing() {
        says("Promise 8: (NONE of a MISSING one)");
        for (int turn = 0; turn < 2; turn++) {
            CutAtlas x = eachKind();
            x.place();
            x.widen(3, 1000);
            due("merge()", turn == 0 ? x.merge(0, 1) : x.merge(1, 0), 5);
            for (int line = 0; line < 5; line++) {
                int[] want = {line, NONE, NONE, line == SHUT ? 0 : line == DEAR ? 1005 : 5, 7, 1};
                for (int what = 0; what < 6; what++) {
                    due("told(" + line + ", " + what + ") of a MISSING one", x.told(line, what), want[what]);
                }
            }
            x.merge(0, 1);
            due("told(0, 1) behind one more merge()", x.told(0, 1), NONE);
            due("told(0, 6) of a MISSING one", x.told(0, 6), BAD);
            x.undo();
            x.undo();
            due("told(0, 1) behind undo()", x.told(0, 1), 0);
            due("told(0, 2) behind undo()", x.told(0, 2), 1);
        }
    }

    private static void askBounds() {
        says("Promise 9: what = 0 what it LETS from its a, 1 from its b (ENDLESS), 2 its COSTS .. BAD.");
        CutAtlas x = eachKind();
        for (int out : outside(3)) {
            for (int line = 0; line < 5; line++) {
                due("ask(" + line + ", " + out + ")", x.ask(line, out), BAD);
            }
        }
        for (int out : outside(5)) {
            for (int what = 0; what < 3; what++) {
                due("ask(" + out + ", " + what + ")", x.ask(out, what), BAD);
            }
        }
        due("trace()", x.trace(), 1000000);
        CutAtlas y = withLines(40);
        due("ask(39, 2)", y.ask(39, 2), 39);
        due("ask(40, 2)", y.ask(40, 2), BAD);
    }

    private static void askAtTheEdges() {
        says("1: LETS: LINE its WIDTH; ONEWAY up, if x is a, else 0; STRONG ENDLESS. COSTS: LINE none; DEAR its PRICE; SHUT up and 1");
        int[] widths = {0, 1, 1000};
        int[] prices = {0, 1, 100};
        for (int missing = 0; missing < 2; missing++) {
            for (int e = 0; e < 3; e++) {
                int w = widths[e];
                int p = prices[e];
                int[][] want = {{w, w, NONE}, {w, 0, NONE}, {ENDLESS, ENDLESS, NONE}, {w, w, p}, {0, 0, p + 1}};
                for (int kind = LINE; kind <= SHUT; kind++) {
                    CutAtlas x = withPlaces(2);
                    x.line(kind, 1, 0, w, p);
                    if (missing == 1) {
                        x.merge(0, 1);
                    }
                    for (int what = 0; what < 3; what++) {
                        due("ask(0, " + what + ") of kind " + kind + ", width " + w, x.ask(0, what), want[kind][what]);
                    }
                }
            }
        }
        CutAtlas y = withPlaces(2);
        y.line(DEAR, 0, 1, 1000, 100);
        y.widen(0, 1000);
        due("ask(0, 0) at 2000", y.ask(0, 0), 2000);
        due("ask(0, 1) at 2000", y.ask(0, 1), 2000);
        y.line(SHUT, 0, 1, 1000, 100);
        y.width(1, 1000);
        due("ask(1, 0) of a SHUT one that was opened", y.ask(1, 0), 1000);
    }

    private static void traceOfKinds() {
        says("1: THE TRACE has the sum of the numbers in brackets, each as often as a KIND's own was done (an up, too)");
        int[][] marks = {{1, 1, 1000}, {11, 10, 1000}, {100, 100, 1000}, {1, 1, 10000}, {1, 1, 110000}};
        int[] begins = {0, 0, 0, 0, 1000000};
        int[] costs = {0, 0, 0, 10000, 110000};
        for (int kind = LINE; kind <= SHUT; kind++) {
            CutAtlas x = withPlaces(2);
            long sum = 0;
            due("trace()", x.trace(), 0);
            x.line(kind, 0, 1, 5, 7);
            sum += begins[kind];
            due("trace() of line() of kind " + kind, x.trace(), sum);
            x.widen(0, 0);
            x.widen(0, 1000);
            sum += 2 * costs[kind];
            due("trace() of widen() of kind " + kind, x.trace(), sum);
            for (int what = 0; what < 3; what++) {
                x.ask(0, what);
                sum += marks[kind][what];
                due("trace() of ask(0, " + what + ") of kind " + kind, x.trace(), sum);
            }
            x.width(0, 1);
            x.merge(0, 1);
            due("trace() of width(), merge()", x.trace(), sum);
        }
    }

    private static void traceOfRefusedOnes() {
        says("Refused, and nothing changes but status() (of THE TRACE)");
        CutAtlas x = eachKind();
        long before = x.trace();
        x.line(SHUT, 0, 0, 1, 1);
        x.line(SHUT, 0, 1, 1001, 1);
        x.line(SHUT, 0, 1, 1, 101);
        for (int line = -1; line <= 5; line++) {
            x.widen(line, -1);
            x.widen(line, 1001);
            x.ask(line, -1);
            x.ask(line, 3);
        }
        for (int line = LINE; line <= STRONG; line++) {
            x.widen(line, 1);
        }
        due("trace() of BAD ones, and of such that can't be widened", x.trace(), before);
        x.widen(3, 1000);
        x.widen(4, 1000);
        x.widen(4, 1000);
        due("trace()", x.trace(), before + 10000 + 2 * 110000);
        before = x.trace();
        x.widen(3, 996);
        x.widen(4, 1);
        due("trace() of such beyond 2000", x.trace(), before);
        x.merge(0, 1);
        x.widen(3, 0);
        x.widen(4, 0);
        due("trace() of MISSING ones", x.trace(), before);
        CutAtlas full = withLines(40);
        full.line(SHUT, 0, 1, 1, 1);
        due("trace() of line() that is FULL", full.trace(), 0);
    }

    private static void traceOfOtherQuestions() {
        says("1: THE TRACE .. by ask(), line(), and widen(); not by other questions.");
        CutAtlas x = withPlaces(4);
        for (int i = 0; i < 12; i++) {
            x.line(i % 2 == 0 ? DEAR : SHUT, i % 4, (i + 1 + i % 3) % 4, i, i);
        }
        long before = x.trace();
        for (int s = 0; s < 4; s++) {
            for (int t = 0; t < 4; t++) {
                x.most(s, t);
                x.flow(s, t, 0);
                x.cut(s, t, 1);
                x.count(s, t);
                x.next(s, t, 0);
                x.size(s, t, 3);
                x.raise(s, t, 1);
                x.cheapest(s, t, 50);
                x.between(s, t);
            }
            x.tree(s, 0);
            x.part(1, s);
            x.weak(s);
            x.dense(s);
            x.cutAt(s);
            x.told(s, s);
            x.about(s);
        }
        x.least();
        x.cuts();
        due("trace() of questions", x.trace(), before);
    }

    private static void aboutBounds() {
        says("Promise 32: 0 PLACES, 1 LINES (MISSING ones, too), 2 those that are MISSING, 3 .. undone, 4 .. WHOLE. BAD.");
        CutAtlas x = withLines(40);
        for (int out : outside(5)) {
            due("about(" + out + ")", x.about(out), BAD);
            due("about(" + out + ") of a new object", new CutAtlas().about(out), BAD);
        }
        int[] before = {2, 40, 0, 30, 1};
        int[] after = {1, 40, 40, 30, 0};
        for (int what = 0; what < 5; what++) {
            due("about(" + what + ")", x.about(what), before[what]);
        }
        x.merge(0, 1);
        for (int what = 0; what < 5; what++) {
            due("about(" + what + ") behind merge()", x.about(what), after[what]);
        }
        due("about(0) of 12", withPlaces(12).about(0), 12);
    }

    private static void aboutWhole() {
        says("2: A WHOLE net has no ONEWAY, no STRONG LINES that are not MISSING, and two PLACES at least.");
        for (int places = 0; places <= 12; places++) {
            due("about(4) of " + places, withPlaces(places).about(4), places >= 2 ? 1 : 0);
        }
        int[] whole = {1, 0, 0, 1, 1};
        for (int kind = LINE; kind <= SHUT; kind++) {
            CutAtlas x = withPlaces(3);
            x.line(LINE, 1, 2, 1, 0);
            x.line(kind, 0, 1, 0, 0);
            due("about(4) with a line of kind " + kind, x.about(4), whole[kind]);
            x.merge(0, 1);
            due("about(4) when it is MISSING", x.about(4), 1);
            x.merge(0, 1);
            due("about(4) of one place", x.about(4), 0);
            x.undo();
            x.undo();
            due("about(4) behind undo()", x.about(4), whole[kind]);
            x.undo();
            due("about(4) ahead of it", x.about(4), 1);
        }
        CutAtlas y = withLines(39);
        y.line(ONEWAY, 0, 1, 0, 0);
        due("about(4) with a 40th that is ONEWAY", y.about(4), 0);
    }

    private static void lastOfManyCalls() {
        says("An object is used for at most 512 calls after it has been made");
        CutAtlas x = eachKind();
        for (int call = 8; call <= 510; call++) {
            x.ask(4, 2);
        }
        due("trace(), the 511th call", x.trace(), 1000000 + 503 * 110000L);
        due("undo(), the 512th call", x.undo(), 6);
        CutAtlas y = withLines(1);
        for (int call = 4; call <= 510; call++) {
            y.width(0, call);
        }
        due("told(0, 3), the 511th call", y.told(0, 3), 510);
        due("undo(), the 512th call", y.undo(), 29);
    }
}
