import java.lang.reflect.InvocationTargetException;
import java.lang.reflect.Method;
import java.lang.reflect.Modifier;

/** Each promise of the document: ordinary inputs, the edges that it names, and wrong inputs. */
public final class CutAtlasPromises {
    private static final int BAD = -1, STATE = -2, FULL = -3, ENDLESS = -5, NONE = -9;
    private static final int NULL = -11, INDEX = -12, CAST = -13, SIZE = -15;
    private static final int LINE = 0, ONEWAY = 1, STRONG = 2, DEAR = 3, SHUT = 4;
    private static final int MIN = Integer.MIN_VALUE, MAX = Integer.MAX_VALUE;
    private static int promise = 0;
    private static int wrong = 0;

    public static void main(String[] args) throws Exception {
        newObject();
        place();
        line();
        widen();
        width();
        merge();
        undo();
        told();
        ask();
        most();
        flow();
        cut();
        count();
        next();
        size();
        raise();
        cheapest();
        tree();
        between();
        least();
        cuts();
        cutAt();
        weak();
        part();
        dense();
        map();
        row();
        put();
        copy();
        item();
        read();
        about();
        trace();
        status();
        neverThrows();
        System.out.println(wrong == 0 ? "all promises are as due" : wrong + " answers are not as due");
        if (wrong != 0) {
            System.exit(1);
        }
    }

    private static void due(String call, long got, long want) {
        if (got != want) {
            wrong++;
            System.out.println("promise " + promise + ": " + call + " answered " + got + ", due is " + want);
        }
    }

    private static CutAtlas withPlaces(int places) {
        CutAtlas x = new CutAtlas();
        for (int i = 0; i < places; i++) {
            x.place();
        }
        return x;
    }

    /** A square 0-1-3-2-0 with 0-1 of 3, 0-2 of 2, 1-3 of 2, 2-3 of 3, and 1-2 of 1. */
    private static CutAtlas square() {
        CutAtlas x = withPlaces(4);
        x.line(LINE, 0, 1, 3, 0);
        x.line(LINE, 0, 2, 2, 0);
        x.line(LINE, 1, 3, 2, 0);
        x.line(LINE, 2, 3, 3, 0);
        x.line(LINE, 1, 2, 1, 0);
        return x;
    }

    /** A way 0-1-2-3 of one width. */
    private static CutAtlas way(int width) {
        CutAtlas x = withPlaces(4);
        x.line(LINE, 0, 1, width, 0);
        x.line(LINE, 1, 2, width, 0);
        x.line(LINE, 2, 3, width, 0);
        return x;
    }

    /** Two places with a line of each of these kinds between them, of width 5 and price 7. */
    private static CutAtlas pair(int... kinds) {
        CutAtlas x = withPlaces(2);
        for (int kind : kinds) {
            x.line(kind, 0, 1, 5, 7);
        }
        return x;
    }

    private static void newObject() {
        promise = 1;
        CutAtlas x = new CutAtlas();
        for (int what = 0; what <= 4; what++) {
            due("about(" + what + ")", x.about(what), 0);
        }
        due("trace()", x.trace(), 0);
        due("status()", x.status(), 0);
        due("undo()", x.undo(), STATE);
        due("told(0, 0)", x.told(0, 0), BAD);
        due("row(0, 0, 0)", x.row(0, 0, 0), NULL);
    }

    private static void place() {
        promise = 2;
        CutAtlas x = new CutAtlas();
        for (int i = 0; i < 12; i++) {
            due("place()", x.place(), i);
        }
        due("place() the 13th", x.place(), FULL);
        due("about(0)", x.about(0), 12);
        due("about(3)", x.about(3), 12);
        due("merge(3, 4)", x.merge(3, 4), 0);
        due("place() after merge", x.place(), 11);
    }

    private static void line() {
        promise = 3;
        CutAtlas x = withPlaces(3);
        due("line", x.line(LINE, 0, 1, 1000, 100), 0);
        due("line", x.line(SHUT, 2, 1, 0, 0), 1);
        due("kind -1", x.line(-1, 0, 1, 1, 1), BAD);
        due("kind 5", x.line(5, 0, 1, 1, 1), BAD);
        due("a -1", x.line(0, -1, 1, 1, 1), BAD);
        due("a 3", x.line(0, 3, 1, 1, 1), BAD);
        due("b -1", x.line(0, 0, -1, 1, 1), BAD);
        due("b 3", x.line(0, 0, 3, 1, 1), BAD);
        due("the same", x.line(0, 1, 1, 1, 1), BAD);
        for (int kind = 0; kind < 5; kind++) {
            due("width -1", x.line(kind, 0, 1, -1, 1), BAD);
            due("width 1001", x.line(kind, 0, 1, 1001, 1), BAD);
            due("price -1", x.line(kind, 0, 1, 1, -1), BAD);
            due("price 101", x.line(kind, 0, 1, 1, 101), BAD);
        }
        due("about(3)", x.about(3), 5);
        for (int i = 2; i < 40; i++) {
            due("line", x.line(i % 5, i % 3, (i + 1) % 3, i, i), i);
        }
        due("the 41st", x.line(0, 0, 1, 1, 1), FULL);
        due("bad and full", x.line(0, 0, 0, 1, 1), BAD);
        x.merge(0, 1);
        due("full of missing ones, too", x.line(0, 0, 1, 1, 1), FULL);
        due("about(1)", x.about(1), 40);
    }

    private static void widen() {
        promise = 4;
        CutAtlas x = pair(LINE, ONEWAY, STRONG, DEAR, SHUT);
        due("widen(0, 1)", x.widen(0, 1), STATE);
        due("widen(1, 0)", x.widen(1, 0), STATE);
        due("widen(2, 1)", x.widen(2, 1), STATE);
        due("trace()", x.trace(), 1000000);
        due("widen(3, 4)", x.widen(3, 4), 28);
        due("told(3, 3)", x.told(3, 3), 9);
        due("trace()", x.trace(), 1010000);
        due("widen(4, 4)", x.widen(4, 4), 32);
        due("told(4, 3)", x.told(4, 3), 4);
        due("trace()", x.trace(), 1120000);
        due("widen(4, 0)", x.widen(4, 0), 0);
        due("widen(3, 1000)", x.widen(3, 1000), 7000);
        due("widen(3, 992)", x.widen(3, 992), STATE);
        due("widen(3, 991)", x.widen(3, 991), 6937);
        due("widen(3, 0)", x.widen(3, 0), 0);
        due("widen(3, 1)", x.widen(3, 1), STATE);
        due("n -1", x.widen(3, -1), BAD);
        due("n 1001", x.widen(3, 1001), BAD);
        due("n 1001 of one that can't be", x.widen(0, 1001), BAD);
        due("line -1", x.widen(-1, 1), BAD);
        due("line 5", x.widen(5, 1), BAD);
        x.place();
        x.merge(0, 1);
        due("missing", x.widen(4, 1), STATE);
    }

    private static void width() {
        promise = 5;
        CutAtlas x = pair(LINE, SHUT, STRONG, DEAR);
        due("width(0, 0)", x.width(0, 0), 5);
        due("width(0, 1000)", x.width(0, 1000), 0);
        due("width(1, 9)", x.width(1, 9), 0);
        due("width(2, 1)", x.width(2, 1), 5);
        x.widen(3, 1000);
        due("width(3, 3)", x.width(3, 3), 1005);
        due("told(3, 3)", x.told(3, 3), 3);
        due("w -1", x.width(0, -1), BAD);
        due("w 1001", x.width(0, 1001), BAD);
        due("line -1", x.width(-1, 1), BAD);
        due("line 4", x.width(4, 1), BAD);
        due("trace()", x.trace(), 1010000);
        x.merge(0, 1);
        due("missing", x.width(0, 1), STATE);
    }

    private static void merge() {
        promise = 6;
        CutAtlas x = withPlaces(5);
        x.line(LINE, 1, 3, 1, 0);
        x.line(ONEWAY, 3, 1, 2, 0);
        x.line(LINE, 3, 4, 3, 0);
        x.line(LINE, 0, 3, 4, 0);
        x.line(LINE, 4, 2, 5, 0);
        due("merge(3, 1)", x.merge(3, 1), 2);
        due("about(0)", x.about(0), 4);
        due("about(1)", x.about(1), 5);
        due("about(2)", x.about(2), 2);
        due("told(2, 1)", x.told(2, 1), 1);
        due("told(2, 2)", x.told(2, 2), 3);
        due("told(3, 2)", x.told(3, 2), 1);
        due("told(4, 1)", x.told(4, 1), 3);
        due("told(4, 2)", x.told(4, 2), 2);
        due("told(0, 1)", x.told(0, 1), NONE);
        due("merge(2, 3)", x.merge(2, 3), 1);
        due("merge(0, 2)", x.merge(0, 2), 0);
        due("told(2, 2)", x.told(2, 2), 0);
        due("the same", x.merge(1, 1), BAD);
        due("none such", x.merge(0, 2), BAD);
        due("none such", x.merge(-1, 0), BAD);
        due("merge(0, 1)", x.merge(0, 1), 2);
        due("about(0)", x.about(0), 1);
        due("merge(0, 1)", x.merge(0, 1), BAD);
    }

    private static void undo() {
        promise = 7;
        CutAtlas x = pair(DEAR);
        x.widen(0, 3);
        x.width(0, 1);
        x.merge(0, 1);
        x.merge(0, 1);
        due("about(3)", x.about(3), 6);
        due("undo() of merge", x.undo(), 5);
        due("told(0, 5)", x.told(0, 5), 0);
        due("told(0, 2)", x.told(0, 2), 1);
        due("undo() of width", x.undo(), 4);
        due("told(0, 3)", x.told(0, 3), 8);
        due("undo() of widen", x.undo(), 3);
        due("told(0, 3)", x.told(0, 3), 5);
        due("undo() of line", x.undo(), 2);
        due("about(1)", x.about(1), 0);
        due("undo() of place", x.undo(), 1);
        due("undo()", x.undo(), 0);
        due("undo()", x.undo(), STATE);
        due("about(0)", x.about(0), 0);
        due("trace() stays", x.trace(), 10000);
        due("place()", x.place(), 0);

        CutAtlas y = pair(LINE);
        for (int i = 0; i < 100; i++) {
            y.width(0, i);
        }
        due("about(3)", y.about(3), 30);
        for (int left = 29; left >= 0; left--) {
            due("undo()", y.undo(), left);
            due("told(0, 3)", y.told(0, 3), 69 + left);
            if (left == 10) {
                y.width(0, 500);
                due("undo()", y.undo(), 10);
            }
        }
        due("undo() the 31st", y.undo(), STATE);
        due("told(0, 3)", y.told(0, 3), 69);
    }

    private static void told() {
        promise = 8;
        CutAtlas x = withPlaces(3);
        x.line(SHUT, 2, 1, 9, 8);
        x.line(ONEWAY, 0, 1, 9, 8);
        int[][] want = {{4, 2, 1, 0, 8, 0}, {1, 0, 1, 9, 8, 0}};
        for (int line = 0; line < 2; line++) {
            for (int what = 0; what < 6; what++) {
                due("told(" + line + ", " + what + ")", x.told(line, what), want[line][what]);
            }
        }
        x.merge(0, 1);
        int[] missing = {1, NONE, NONE, 9, 8, 1};
        for (int what = 0; what < 6; what++) {
            due("told(1, " + what + ") of a missing one", x.told(1, what), missing[what]);
        }
        due("told(0, 1)", x.told(0, 1), 1);
        due("told(0, 2)", x.told(0, 2), 0);
        due("told(2, 0)", x.told(2, 0), BAD);
        due("told(-1, 0)", x.told(-1, 0), BAD);
        due("told(0, -1)", x.told(0, -1), BAD);
        due("told(0, 6)", x.told(0, 6), BAD);
    }

    private static void ask() {
        promise = 9;
        CutAtlas x = pair(LINE, ONEWAY, STRONG, DEAR, SHUT);
        int[][] want = {{5, 5, NONE}, {5, 0, NONE}, {ENDLESS, ENDLESS, NONE}, {5, 5, 7}, {0, 0, 8}};
        int[][] marks = {{1, 1, 1000}, {11, 10, 1000}, {100, 100, 1000}, {1, 1, 10000}, {1, 1, 110000}};
        for (int missing = 0; missing < 2; missing++) {
            for (int line = 0; line < 5; line++) {
                for (int what = 0; what < 3; what++) {
                    long before = x.trace();
                    due("ask(" + line + ", " + what + ")", x.ask(line, what), want[line][what]);
                    due("trace() of ask(" + line + ", " + what + ")", x.trace() - before, marks[line][what]);
                }
            }
            x.merge(0, 1);
        }
        long before = x.trace();
        due("ask(5, 0)", x.ask(5, 0), BAD);
        due("ask(-1, 0)", x.ask(-1, 0), BAD);
        due("ask(0, 3)", x.ask(0, 3), BAD);
        due("ask(0, -1)", x.ask(0, -1), BAD);
        due("trace() of refused ones", x.trace() - before, 0);
    }

    private static void most() {
        promise = 10;
        CutAtlas x = square();
        due("most(0, 3)", x.most(0, 3), 5);
        due("most(1, 2)", x.most(1, 2), 5);
        due("the same", x.most(1, 1), BAD);
        due("none such", x.most(0, 4), BAD);
        due("none such", x.most(-1, 0), BAD);
        CutAtlas y = withPlaces(4);
        y.line(STRONG, 0, 1, 0, 0);
        y.line(STRONG, 2, 1, 0, 0);
        y.line(ONEWAY, 3, 2, 6, 0);
        due("most(0, 2)", y.most(0, 2), ENDLESS);
        due("most(2, 0)", y.most(2, 0), ENDLESS);
        due("most(3, 0)", y.most(3, 0), 6);
        due("most(0, 3)", y.most(0, 3), 0);
        CutAtlas z = withPlaces(2);
        for (int i = 0; i < 40; i++) {
            z.line(DEAR, 0, 1, 1000, 0);
            z.widen(i, 1000);
        }
        due("most(0, 1)", z.most(0, 1), 80000);
    }

    private static void flow() {
        promise = 11;
        CutAtlas x = square();
        int[] want = {3, 2, 2, 3, 1};
        for (int line = 0; line < 5; line++) {
            due("flow(0, 3, " + line + ")", x.flow(0, 3, line), want[line]);
            due("flow(3, 0, " + line + ")", x.flow(3, 0, line), -want[line]);
        }
        CutAtlas y = pair(LINE, ONEWAY);
        y.line(ONEWAY, 1, 0, 4, 0);
        y.line(LINE, 1, 0, 1, 0);
        int[] forth = {5, 5, 0, -1};
        int[] back = {-5, 0, 4, 1};
        for (int line = 0; line < 4; line++) {
            due("flow(0, 1, " + line + ")", y.flow(0, 1, line), forth[line]);
            due("flow(1, 0, " + line + ")", y.flow(1, 0, line), back[line]);
        }
        // The first way is by 1 and 2; the second goes from 2 back to 1.
        CutAtlas z = withPlaces(6);
        z.line(LINE, 0, 1, 1, 0);
        z.line(LINE, 1, 2, 1, 0);
        z.line(LINE, 2, 5, 1, 0);
        z.line(LINE, 0, 3, 1, 0);
        z.line(LINE, 3, 4, 1, 0);
        z.line(LINE, 4, 2, 1, 0);
        z.line(LINE, 1, 5, 1, 0);
        due("flow(0, 5, 6)", z.flow(0, 5, 6), 1);
        due("flow(0, 5, 1)", z.flow(0, 5, 1), 0);
        due("flow(0, 5, 5)", z.flow(0, 5, 5), 1);
        backFlow();
        due("no line", x.flow(0, 3, 5), -1000000);
        due("no line", x.flow(0, 3, -1), -1000000);
        due("the same", x.flow(0, 0, 0), -1000000);
        due("no place", x.flow(0, 4, 0), -1000000);
        x.merge(0, 1);
        due("missing", x.flow(0, 1, 0), -1000000);
        due("ENDLESS", pair(STRONG, LINE).flow(0, 1, 1), -1000000);
    }

    /** A way that takes back what flowed, over a strong line too. */
    private static void backFlow() {
        CutAtlas x = withPlaces(6);
        x.line(LINE, 0, 1, 1, 0);
        x.line(STRONG, 1, 2, 0, 0);
        x.line(LINE, 2, 5, 1, 0);
        x.line(LINE, 0, 4, 1, 0);
        x.line(LINE, 4, 2, 1, 0);
        x.line(ONEWAY, 1, 3, 1, 0);
        x.line(ONEWAY, 3, 5, 1, 0);
        int[] want = {1, 0, 1, 1, 1, 1, 1};
        for (int line = 0; line < 7; line++) {
            due("flow(0, 5, " + line + ") of a way back", x.flow(0, 5, line), want[line]);
        }
    }

    private static void cut() {
        promise = 12;
        CutAtlas x = way(4);
        due("cut(0, 3, 0)", x.cut(0, 3, 0), 1);
        due("cut(0, 3, 1)", x.cut(0, 3, 1), 7);
        due("cut(3, 0, 0)", x.cut(3, 0, 0), 8);
        due("cut(3, 0, 1)", x.cut(3, 0, 1), 14);
        x.place();
        due("cut(0, 3, 0) beside a lone place", x.cut(0, 3, 0), 1);
        due("cut(0, 3, 1) beside a lone place", x.cut(0, 3, 1), 23);
        x.width(1, 3);
        due("cut(0, 3, 0)", x.cut(0, 3, 0), 3);
        due("cut(0, 3, 1)", x.cut(0, 3, 1), 19);
        due("which 2", x.cut(0, 3, 2), BAD);
        due("which -1", x.cut(0, 3, -1), BAD);
        due("the same", x.cut(3, 3, 0), BAD);
        due("no place", x.cut(0, 5, 0), BAD);
        due("ENDLESS", pair(STRONG).cut(0, 1, 1), ENDLESS);
        due("BAD ahead of ENDLESS", pair(STRONG).cut(0, 1, 2), BAD);
    }

    private static void count() {
        promise = 13;
        due("count(0, 3)", way(4).count(0, 3), 3);
        due("count(0, 3)", way(0).count(0, 3), 4);
        due("count(0, 3)", square().count(0, 3), 3);
        due("count(0, 11)", withPlaces(12).count(0, 11), 1024);
        due("the same", way(4).count(0, 0), BAD);
        due("no place", way(4).count(0, 4), BAD);
        due("ENDLESS", pair(STRONG).count(0, 1), ENDLESS);
        CutAtlas x = way(4);
        x.line(STRONG, 1, 2, 0, 0);
        due("count(0, 3)", x.count(0, 3), 2);
    }

    private static void next() {
        promise = 14;
        CutAtlas x = way(4);
        int[] forth = {1, 3, 7, NONE};
        int[] back = {8, 12, 14, NONE};
        for (int i = 0; i < 4; i++) {
            due("next(0, 3, " + i + ")", x.next(0, 3, i), forth[i]);
            due("next(3, 0, " + i + ")", x.next(3, 0, i), back[i]);
        }
        CutAtlas lone = withPlaces(12);
        due("next(11, 5, 0)", lone.next(11, 5, 0), 2048);
        due("next(11, 5, 32)", lone.next(11, 5, 32), 2048 + 64);
        due("next(11, 5, 1023)", lone.next(11, 5, 1023), 4095 - 32);
        due("next(11, 5, 1024)", lone.next(11, 5, 1024), NONE);
        due("next(11, 5, MAX)", lone.next(11, 5, MAX), NONE);
        due("i -1", x.next(0, 3, -1), BAD);
        due("the same", x.next(0, 0, 0), BAD);
        due("no place", x.next(4, 0, 0), BAD);
        due("ENDLESS", pair(STRONG).next(0, 1, 7), ENDLESS);
        due("BAD ahead of ENDLESS", pair(STRONG).next(0, 1, -1), BAD);
    }

    private static void size() {
        promise = 15;
        CutAtlas x = square();
        due("size(0, 3, 1)", x.size(0, 3, 1), 5);
        due("size(0, 3, 2): with s", x.size(0, 3, 2), 5);
        due("size(0, 3, 11): without t", x.size(0, 3, 11), 5);
        due("size(0, 3, 5)", x.size(0, 3, 5), 7);
        due("size(0, 3, -1)", x.size(0, 3, -1), 5);
        due("size(0, 3, other bits)", x.size(0, 3, MIN | 1 << 12 | 4), 7);
        due("size(0, 3, 0)", x.size(0, 3, 0), 5);
        due("the same", x.size(1, 1, 1), BAD);
        due("no place", x.size(0, 4, 1), BAD);
        x.line(STRONG, 1, 2, 0, 0);
        due("ENDLESS", x.size(0, 3, 5), ENDLESS);
        due("strong inside", x.size(0, 3, 7), 5);
        x.line(ONEWAY, 3, 0, 9, 0);
        due("oneway into it", x.size(0, 3, 7), 5);
        due("oneway out of it", x.size(3, 0, 8), 14);
    }

    private static void raise() {
        promise = 16;
        CutAtlas x = withPlaces(3);
        x.line(LINE, 0, 1, 3, 0);
        x.line(ONEWAY, 1, 2, 2, 0);
        x.line(STRONG, 1, 2, 2, 0);
        x.line(SHUT, 0, 2, 2, 0);
        due("raise(0, 2, 0)", x.raise(0, 2, 0), 4);
        due("raise(0, 2, 1)", x.raise(0, 2, 1), 3);
        due("raise(0, 2, 2)", x.raise(0, 2, 2), 3);
        due("raise(0, 2, 3)", x.raise(0, 2, 3), 4);
        due("raise(2, 0, 3)", x.raise(2, 0, 3), 4);
        due("raise(1, 2, 0)", x.raise(1, 2, 0), ENDLESS);
        due("most(0, 2) as it was", x.most(0, 2), 3);
        CutAtlas y = pair(ONEWAY);
        due("raise(0, 1, 0)", y.raise(0, 1, 0), 6);
        due("raise(1, 0, 0)", y.raise(1, 0, 0), 0);
        CutAtlas z = pair(DEAR);
        z.width(0, 1000);
        z.widen(0, 1000);
        due("raise at 2000", z.raise(0, 1, 0), 2001);
        due("no line", x.raise(0, 2, 4), BAD);
        due("no line", x.raise(0, 2, -1), BAD);
        due("the same", x.raise(0, 0, 0), BAD);
        due("no place", x.raise(0, 3, 0), BAD);
        x.merge(0, 1);
        due("missing", x.raise(0, 1, 0), STATE);
        due("BAD ahead of STATE", x.raise(0, 2, 0), BAD);
    }

    private static void cheapest() {
        promise = 17;
        CutAtlas x = pair(DEAR, SHUT, LINE);
        due("cheapest(0, 1, 0)", x.cheapest(0, 1, 0), 0);
        due("cheapest(0, 1, 10)", x.cheapest(0, 1, 10), 0);
        due("cheapest(0, 1, 11)", x.cheapest(0, 1, 11), 7);
        due("cheapest(1, 0, 500)", x.cheapest(1, 0, 500), 490 * 7);
        due("k 501", x.cheapest(0, 1, 501), BAD);
        due("k -1", x.cheapest(0, 1, -1), BAD);
        due("the same", x.cheapest(0, 0, 1), BAD);
        due("no place", x.cheapest(0, 2, 1), BAD);
        due("NONE", pair(LINE, ONEWAY).cheapest(0, 1, 11), NONE);
        due("ENDLESS is so already", pair(STRONG).cheapest(0, 1, 500), 0);
        due("BAD of ENDLESS", pair(STRONG).cheapest(0, 1, 501), BAD);
        due("SHUT", pair(SHUT).cheapest(0, 1, 2), 16);
        // The first one flows by 1-2 for nothing; the second one turns it to 1-3.
        CutAtlas y = withPlaces(4);
        y.line(LINE, 0, 1, 1, 0);
        y.line(LINE, 1, 2, 1, 0);
        y.line(LINE, 2, 3, 1, 0);
        y.line(DEAR, 1, 3, 0, 5);
        y.line(DEAR, 0, 2, 0, 4);
        due("cheapest(0, 3, 1)", y.cheapest(0, 3, 1), 0);
        due("cheapest(0, 3, 2)", y.cheapest(0, 3, 2), 9);
        due("cheapest(0, 3, 3)", y.cheapest(0, 3, 3), 18);
        due("cheapest(0, 3, 4)", y.cheapest(0, 3, 4), NONE);
        turnedBack();
        long before = y.trace();
        y.cheapest(0, 3, 3);
        due("trace() of cheapest", y.trace(), before);
    }

    /** What was widened for the first unit is given back for the second: by 1-2 first, then not. */
    private static void turnedBack() {
        CutAtlas x = withPlaces(4);
        x.line(LINE, 0, 1, 1, 0);
        x.line(DEAR, 1, 2, 0, 1);
        x.line(LINE, 2, 3, 1, 0);
        x.line(LINE, 0, 2, 0, 0);
        x.line(DEAR, 0, 2, 0, 10);
        x.line(DEAR, 1, 3, 0, 10);
        due("cheapest(0, 3, 1)", x.cheapest(0, 3, 1), 1);
        due("cheapest(0, 3, 2)", x.cheapest(0, 3, 2), 20);
        due("cheapest(0, 3, 3)", x.cheapest(0, 3, 3), 41);
    }

    private static void tree() {
        promise = 18;
        CutAtlas x = way(4);
        int[] next = {NONE, 0, 1, 2};
        int[] number = {NONE, 4, 3, 4};
        x.width(1, 3);
        for (int i = 0; i < 4; i++) {
            due("tree(" + i + ", 0)", x.tree(i, 0), next[i]);
            due("tree(" + i + ", 1)", x.tree(i, 1), number[i]);
        }
        // The near cut from 1 has no other place, so that both hang at 0.
        CutAtlas y = withPlaces(3);
        y.line(LINE, 0, 2, 5, 0);
        y.line(LINE, 2, 1, 3, 0);
        due("tree(1, 0)", y.tree(1, 0), 0);
        due("tree(1, 1)", y.tree(1, 1), 3);
        due("tree(2, 0)", y.tree(2, 0), 0);
        due("tree(2, 1)", y.tree(2, 1), 5);
        exchanged();
        due("place 4", x.tree(4, 0), BAD);
        due("place -1", x.tree(-1, 0), BAD);
        due("what 2", x.tree(0, 2), BAD);
        due("what -1", x.tree(0, -1), BAD);
        x.line(ONEWAY, 0, 1, 1, 0);
        due("STATE", x.tree(0, 0), STATE);
        due("STATE ahead of the place", x.tree(9, 0), STATE);
        due("BAD ahead of STATE", x.tree(0, 2), BAD);
        x.merge(0, 1);
        due("the oneway is missing", x.tree(0, 1), NONE);
        due("one place", withPlaces(1).tree(0, 0), STATE);
    }

    /** 2 hangs at 1 when its turn comes; its near cut has 0, the next of 1, so that 2 comes between. */
    private static void exchanged() {
        CutAtlas x = withPlaces(3);
        x.line(LINE, 2, 0, 1, 0);
        x.line(LINE, 2, 1, 4, 0);
        int[] next = {NONE, 2, 0};
        int[] number = {NONE, 4, 1};
        for (int i = 0; i < 3; i++) {
            due("tree(" + i + ", 0) exchanged", x.tree(i, 0), next[i]);
            due("tree(" + i + ", 1) exchanged", x.tree(i, 1), number[i]);
        }
        due("between(0, 1) exchanged", x.between(0, 1), 1);
        due("between(2, 1) exchanged", x.between(2, 1), 4);
    }

    private static void between() {
        promise = 19;
        CutAtlas x = way(4);
        x.width(1, 3);
        int[][] want = {{0, 4, 3, 3}, {4, 0, 3, 3}, {3, 3, 0, 4}, {3, 3, 4, 0}};
        for (int a = 0; a < 4; a++) {
            for (int b = 0; b < 4; b++) {
                due("between(" + a + ", " + b + ")", x.between(a, b), a == b ? BAD : want[a][b]);
            }
        }
        due("no place", x.between(0, 4), BAD);
        due("no place", x.between(-1, 0), BAD);
        x.line(STRONG, 0, 1, 1, 0);
        due("STATE", x.between(0, 1), STATE);
        due("STATE ahead of the place", x.between(0, 4), STATE);
        due("STATE ahead of the same", x.between(1, 1), STATE);
        due("STATE ahead of the same, not there", x.between(-1, -1), STATE);
        due("STATE of no places", new CutAtlas().between(1, 1), STATE);
        due("STATE of one place", withPlaces(1).between(0, 0), STATE);
        x.merge(0, 1);
        due("the strong line is missing", x.between(1, 1), BAD);
        due("the strong line is missing", x.between(0, 1), 3);
        CutAtlas y = square();
        for (int a = 0; a < 4; a++) {
            for (int b = 0; b < a; b++) {
                due("between is most", y.between(a, b), y.most(a, b));
            }
        }
    }

    private static void least() {
        promise = 20;
        CutAtlas x = way(4);
        x.width(2, 2);
        due("least()", x.least(), 2);
        due("least()", square().least(), 5);
        x.place();
        due("least() of a lone place", x.least(), 0);
        x.line(ONEWAY, 0, 1, 1, 0);
        due("ONEWAY", x.least(), STATE);
        due("STRONG", pair(STRONG).least(), STATE);
        due("one place", withPlaces(1).least(), STATE);
        due("no place", withPlaces(0).least(), STATE);
        due("two places", withPlaces(2).least(), 0);
    }

    private static void cuts() {
        promise = 21;
        due("cuts()", way(4).cuts(), 3);
        due("cuts()", way(0).cuts(), 7);
        due("cuts()", withPlaces(12).cuts(), 2047);
        due("cuts()", square().cuts(), 3);
        CutAtlas ring = way(2);
        ring.line(LINE, 3, 0, 2, 0);
        due("cuts() of a ring", ring.cuts(), 6);
        ring.line(STRONG, 3, 0, 2, 0);
        due("STATE", ring.cuts(), STATE);
    }

    private static void cutAt() {
        promise = 22;
        CutAtlas ring = way(2);
        ring.line(LINE, 3, 0, 2, 0);
        int[] want = {2, 4, 6, 8, 12, 14, NONE};
        for (int i = 0; i < 7; i++) {
            due("cutAt(" + i + ")", ring.cutAt(i), want[i]);
        }
        due("cutAt(0)", withPlaces(12).cutAt(0), 2);
        due("cutAt(2046)", withPlaces(12).cutAt(2046), 4094);
        due("cutAt(MAX)", ring.cutAt(MAX), NONE);
        due("cutAt(-1)", ring.cutAt(-1), BAD);
        CutAtlas x = pair(ONEWAY);
        due("STATE", x.cutAt(0), STATE);
        due("BAD ahead of STATE", x.cutAt(-1), BAD);
    }

    private static void weak() {
        promise = 23;
        CutAtlas x = way(4);
        x.width(1, 3);
        due("weak(0)", x.weak(0), 0);
        due("weak(1)", x.weak(1), 1);
        due("weak(2)", x.weak(2), 0);
        due("weak(3)", x.weak(3), BAD);
        due("weak(-1)", x.weak(-1), BAD);
        CutAtlas y = square();
        y.width(4, 2);
        int[] want = {1, 1, 1, 1, 0};
        for (int line = 0; line < 5; line++) {
            due("weak(" + line + ") of the square", y.weak(line), want[line]);
        }
        x.merge(0, 1);
        due("missing", x.weak(0), STATE);
        x.line(ONEWAY, 0, 1, 1, 0);
        due("not whole", x.weak(1), STATE);
        due("BAD ahead of STATE", x.weak(4), BAD);
    }

    private static void part() {
        promise = 24;
        CutAtlas x = withPlaces(5);
        x.line(LINE, 0, 2, 5, 0);
        x.line(LINE, 1, 3, 4, 0);
        x.line(LINE, 2, 3, 2, 0);
        int[][] want = {{0, 0, 0, 0, 0}, {0, 0, 0, 0, 1}, {0, 0, 0, 0, 1}, {0, 1, 0, 1, 2}, {0, 1, 0, 1, 2}, {0, 1, 0, 2, 3}, {0, 1, 2, 3, 4}};
        int[] many = {1, 2, 2, 3, 3, 4, 5};
        for (int k = 0; k < 7; k++) {
            due("part(" + k + ", -1)", x.part(k, -1), many[k]);
            for (int place = 0; place < 5; place++) {
                due("part(" + k + ", " + place + ")", x.part(k, place), want[k][place]);
            }
        }
        due("part(MAX, 4)", x.part(MAX, 4), 4);
        due("k -1", x.part(-1, 0), BAD);
        due("place 5", x.part(1, 5), BAD);
        due("place -2", x.part(1, -2), BAD);
        CutAtlas y = pair(ONEWAY);
        due("STATE", y.part(1, -1), STATE);
        due("STATE ahead of the place", y.part(1, 7), STATE);
        due("BAD ahead of STATE", y.part(-1, 0), BAD);
    }

    private static void dense() {
        promise = 25;
        CutAtlas x = withPlaces(5);
        x.line(LINE, 1, 2, 4, 0);
        x.line(DEAR, 2, 3, 1, 0);
        x.line(SHUT, 3, 4, 9, 0);
        due("dense(0)", x.dense(0), 6);
        due("dense(1)", x.dense(1), 4);
        due("dense(2)", x.dense(2), 2);
        x.width(1, 2);
        due("the most places of the greatest share", x.dense(0), 14);
        due("dense(1)", x.dense(1), 6);
        due("dense(2)", x.dense(2), 3);
        x.width(2, 9);
        due("dense(0)", x.dense(0), 24);
        x.merge(3, 4);
        due("a missing line is in no set", x.dense(1), 6);
        due("all places of an empty net", withPlaces(12).dense(0), 4095);
        due("dense(3)", x.dense(3), BAD);
        due("dense(-1)", x.dense(-1), BAD);
        CutAtlas y = pair(STRONG);
        due("STATE", y.dense(0), STATE);
        due("BAD ahead of STATE", y.dense(3), BAD);
        CutAtlas z = withPlaces(12);
        for (int i = 0; i < 40; i++) {
            z.line(DEAR, 10, 11, 1000, 0);
            z.widen(i, 1000);
        }
        due("dense(0) of the widest net", z.dense(0), 3072);
        due("dense(1) of the widest net", z.dense(1), 80000);
    }

    private static void map() {
        promise = 26;
        CutAtlas x = new CutAtlas();
        due("map(0, 0, 0)", x.map(0, 0, 0), 1);
        due("map(3, 2, 6)", x.map(3, 2, 6), 1);
        due("row(3, 5, 5)", x.row(3, 5, 5), 1);
        due("put(3, 2, 5, 4, 1)", x.put(3, 2, 5, 4, 1L), 1);
        due("n 7", x.map(3, 2, 7), BAD);
        due("n -1", x.map(3, 2, -1), SIZE);
        due("n MIN", x.map(3, 2, MIN), SIZE);
        due("map 4", x.map(4, 2, -1), BAD);
        due("map -1", x.map(-1, 2, 1), BAD);
        due("kind 3", x.map(3, 3, 1), BAD);
        due("kind -1", x.map(3, -1, -1), BAD);
        due("status()", x.status(), BAD);
        due("as it was", x.item(3, 2, 5, 4), 1);
        due("map(3, 1, 6)", x.map(3, 1, 6), 1);
        due("all are missing", x.put(3, 1, 5, 4, 1L), NULL);
        due("about(3)", x.about(3), 0);
    }

    private static void row() {
        promise = 27;
        CutAtlas x = new CutAtlas();
        due("no map", x.row(0, 0, 5), NULL);
        due("BAD ahead of NULL", x.row(0, 0, 6), BAD);
        due("no map ahead of SIZE", x.row(0, 0, -1), NULL);
        due("map 4", x.row(4, 0, 1), BAD);
        due("map -1", x.row(-1, 0, 1), BAD);
        x.map(0, 1, 2);
        due("row(0, 1, 5)", x.row(0, 1, 5), 1);
        due("put", x.put(0, 1, 1, 4, 9L), 1);
        due("INDEX", x.row(0, 2, 1), INDEX);
        due("INDEX", x.row(0, -1, 1), INDEX);
        due("INDEX ahead of SIZE", x.row(0, 2, -1), INDEX);
        due("SIZE", x.row(0, 1, -1), SIZE);
        due("n 6", x.row(0, 9, 6), BAD);
        due("as it was", x.item(0, 1, 1, 4), 9);
        due("row(0, 1, 5)", x.row(0, 1, 5), 1);
        due("a new one", x.item(0, 1, 1, 4), 0);
        due("row(0, 1, 0)", x.row(0, 1, 0), 1);
        due("no number", x.put(0, 1, 1, 0, 1L), INDEX);
    }

    private static void put() {
        promise = 28;
        CutAtlas x = new CutAtlas();
        long[] values = {1L << 40 | 1L << 31 | 1L << 15 | 3, Long.MIN_VALUE, -1, 65536};
        for (int kind = 0; kind < 3; kind++) {
            x.map(kind, kind, 2);
            x.row(kind, 0, 4);
            for (int i = 0; i < 4; i++) {
                long v = values[i];
                due("put of kind " + kind, x.put(kind, kind, 0, i, v), 1);
                due("item", x.item(kind, kind, 0, i), kind == 0 ? (short) v : kind == 1 ? (int) v : v);
            }
        }
        due("map 4", x.put(4, 0, 0, 0, 1), BAD);
        due("map -1", x.put(-1, 0, 0, 0, 1), BAD);
        due("kind 3", x.put(0, 3, 0, 0, 1), BAD);
        due("kind -1", x.put(3, -1, 0, 0, 1), BAD);
        due("no map", x.put(3, 0, 9, 9, 1), NULL);
        due("CAST", x.put(0, 1, 0, 0, 1), CAST);
        due("CAST ahead of INDEX", x.put(0, 2, 9, 0, 1), CAST);
        due("no row", x.put(0, 0, 2, 0, 1), INDEX);
        due("no row", x.put(0, 0, -1, 0, 1), INDEX);
        due("a missing row", x.put(0, 0, 1, 9, 1), NULL);
        due("no number", x.put(0, 0, 0, 4, 1), INDEX);
        due("no number", x.put(0, 0, 0, -1, 1), INDEX);
        due("as it was", x.item(0, 0, 0, 3), 0);
    }

    private static void copy() {
        promise = 29;
        CutAtlas x = new CutAtlas();
        x.map(0, 2, 4);
        x.row(0, 0, 5);
        x.row(0, 1, 3);
        for (int i = 0; i < 5; i++) {
            x.put(0, 2, 0, i, 10 + i);
        }
        due("copy", x.copy(0, 0, 1, 1, 0, 3), 3);
        due("item", x.item(0, 2, 1, 0), 11);
        due("item", x.item(0, 2, 1, 2), 13);
        due("copy up the same", x.copy(0, 0, 0, 0, 1, 4), 4);
        for (int i = 0; i < 5; i++) {
            due("item " + i, x.item(0, 2, 0, i), i == 0 ? 10 : 9 + i);
        }
        due("copy down the same", x.copy(0, 0, 1, 0, 0, 4), 4);
        for (int i = 0; i < 5; i++) {
            due("item " + i, x.item(0, 2, 0, i), i == 4 ? 13 : 10 + i);
        }
        due("copy of none", x.copy(0, 0, 5, 1, 3, 0), 0);
        due("n -1", x.copy(0, 0, 0, 1, 0, -1), INDEX);
        due("n MIN", x.copy(0, 0, 0, 1, 0, MIN), INDEX);
        due("n MAX", x.copy(0, 0, 5, 1, 3, MAX), INDEX);
        due("i 6", x.copy(0, 0, 6, 1, 0, 0), INDEX);
        due("i -1", x.copy(0, 0, -1, 1, 0, 0), INDEX);
        due("i MAX", x.copy(0, 0, MAX, 1, 0, 1), INDEX);
        due("j -1", x.copy(0, 0, 0, 1, -1, 0), INDEX);
        due("j 4", x.copy(0, 0, 0, 1, 4, 0), INDEX);
        due("beyond the other", x.copy(0, 0, 0, 1, 0, 4), INDEX);
        due("beyond the first", x.copy(0, 1, 0, 0, 0, 4), INDEX);
        due("r missing", x.copy(0, 2, 0, 0, 0, -1), NULL);
        due("other missing", x.copy(0, 0, 0, 2, 0, -1), NULL);
        due("INDEX ahead of NULL", x.copy(0, 2, 0, 4, 0, 0), INDEX);
        due("no row", x.copy(0, 4, 0, 2, 0, 0), INDEX);
        due("no row", x.copy(0, -1, 0, 0, 0, 0), INDEX);
        due("no row", x.copy(0, 0, 0, -1, 0, 0), INDEX);
        due("no map", x.copy(1, 9, 0, 0, 0, 0), NULL);
        due("map 4", x.copy(4, 0, 0, 0, 0, 0), BAD);
        due("map -1", x.copy(-1, 0, 0, 0, 0, 0), BAD);
        due("as it was", x.item(0, 2, 1, 0), 11);
    }

    private static void item() {
        promise = 30;
        CutAtlas x = new CutAtlas();
        x.map(2, 2, 2);
        x.row(2, 1, 2);
        x.put(2, 2, 1, 1, Long.MAX_VALUE);
        due("item", x.item(2, 2, 1, 1), Long.MAX_VALUE);
        due("status()", x.status(), 0);
        due("0 at first", x.item(2, 2, 1, 0), 0);
        int[][] refused = {
            {4, 2, 1, 1, BAD}, {-1, 2, 1, 1, BAD}, {2, 3, 1, 1, BAD}, {2, -1, 1, 1, BAD}, {0, 0, 0, 0, NULL},
            {2, 1, 1, 1, CAST}, {2, 1, 9, 1, CAST}, {2, 2, 2, 0, INDEX}, {2, 2, -1, 0, INDEX}, {2, 2, 0, 9, NULL},
            {2, 2, 1, 2, INDEX}, {2, 2, 1, -1, INDEX}
        };
        for (int[] r : refused) {
            due("item refused", x.item(r[0], r[1], r[2], r[3]), 0);
            due("status()", x.status(), r[4]);
        }
        x.item(2, 2, 1, 1);
        due("status()", x.status(), 0);
    }

    private static void fillRow(CutAtlas x, int map, int kind, int r, long... numbers) {
        x.row(map, r, 5);
        for (int i = 0; i < 5; i++) {
            x.put(map, kind, r, i, numbers[i]);
        }
    }

    private static void read() {
        promise = 31;
        CutAtlas x = withPlaces(3);
        due("map 4", x.read(4), BAD);
        due("map -1", x.read(-1), BAD);
        due("status()", x.status(), BAD);
        due("no map", x.read(0), 0);
        due("status()", x.status(), NULL);
        x.map(0, 2, 0);
        due("no rows", x.read(0), 0);
        due("status()", x.status(), 0);
        due("about(3): nothing came", x.about(3), 3);
        x.map(0, 2, 4);
        fillRow(x, 0, 2, 0, SHUT, 0, 1, 9, 7);
        fillRow(x, 0, 2, 1, ONEWAY, 2, 1, 1000, 100);
        due("a missing row ends it", x.read(0), 2);
        due("status()", x.status(), NULL);
        due("told(0, 3)", x.told(0, 3), 0);
        due("told(0, 4)", x.told(0, 4), 7);
        due("told(1, 0)", x.told(1, 0), ONEWAY);
        due("told(1, 1)", x.told(1, 1), 2);
        due("told(1, 2)", x.told(1, 2), 1);
        due("told(1, 3)", x.told(1, 3), 1000);
        due("about(3)", x.about(3), 4);
        due("undo() of all", x.undo(), 3);
        due("about(1)", x.about(1), 0);
        due("the map stays", x.item(0, 2, 1, 3), 1000);
        x.row(0, 2, 4);
        due("a short row ends it", x.read(0), 2);
        due("status()", x.status(), INDEX);
        readRefused(x);
        readFull();
    }

    private static void readRefused(CutAtlas x) {
        long far = 1L << 32;
        long[][] bad = {
            {5, 0, 1, 1, 1}, {-1, 0, 1, 1, 1}, {0, 3, 1, 1, 1}, {0, 0, 3, 1, 1}, {0, 1, 1, 1, 1}, {0, 0, 1, 1001, 1},
            {0, 0, 1, -1, 1}, {0, 0, 1, 1, 101}, {0, 0, 1, 1, -1}, {far, 0, 1, 1, 1}, {0, far, 1, 1, 1},
            {0, 0, far + 1, 1, 1}, {0, 0, 1, far, 1}, {0, 0, 1, 1, far}
        };
        for (long[] row : bad) {
            x.map(1, 2, 3);
            fillRow(x, 1, 2, 0, LINE, 0, 1, 1, 1);
            fillRow(x, 1, 2, 1, row);
            fillRow(x, 1, 2, 2, LINE, 0, 1, 1, 1);
            due("a bad row ends it", x.read(1), 1);
            due("status()", x.status(), BAD);
            x.undo();
        }
        int changes = x.about(3);
        x.map(1, 0, 1);
        fillRow(x, 1, 0, 0, LINE, 0, 0, 1, 1);
        due("none came", x.read(1), 0);
        due("about(3): none came", x.about(3), changes);
    }

    private static void readFull() {
        CutAtlas x = withPlaces(2);
        for (int i = 0; i < 38; i++) {
            x.line(LINE, 0, 1, 1, 1);
        }
        x.map(0, 1, 4);
        for (int r = 0; r < 4; r++) {
            fillRow(x, 0, 1, r, LINE, 0, 1, 1, 1);
        }
        due("FULL ends it", x.read(0), 2);
        due("status()", x.status(), FULL);
        due("undo()", x.undo(), 29);
        due("about(1)", x.about(1), 38);
    }

    private static void about() {
        promise = 32;
        CutAtlas x = withPlaces(4);
        x.line(LINE, 0, 1, 1, 1);
        x.line(ONEWAY, 1, 2, 1, 1);
        x.line(STRONG, 1, 2, 1, 1);
        int[] before = {4, 3, 0, 7, 0};
        int[] after = {3, 3, 2, 8, 1};
        for (int what = 0; what < 5; what++) {
            due("about(" + what + ")", x.about(what), before[what]);
        }
        x.merge(1, 2);
        for (int what = 0; what < 5; what++) {
            due("about(" + what + ") after merge", x.about(what), after[what]);
        }
        x.merge(0, 1);
        due("about(4) of two places", x.about(4), 1);
        x.merge(0, 1);
        due("about(4) of one place", x.about(4), 0);
        due("about(5)", x.about(5), BAD);
        due("about(-1)", x.about(-1), BAD);
    }

    private static void trace() {
        promise = 33;
        CutAtlas x = pair(LINE, DEAR);
        due("trace()", x.trace(), 0);
        x.line(SHUT, 0, 1, 1, 1);
        due("trace()", x.trace(), 1000000);
        x.line(SHUT, 0, 1, 1, 101);
        due("trace() of a refused one", x.trace(), 1000000);
        x.widen(2, 2);
        due("trace()", x.trace(), 1110000);
        x.most(0, 1);
        x.size(0, 1, 1);
        x.raise(0, 1, 0);
        x.cheapest(0, 1, 100);
        x.least();
        x.dense(0);
        x.told(2, 3);
        due("trace() of other questions", x.trace(), 1110000);
        x.undo();
        x.undo();
        due("trace() stays", x.trace(), 1110000);
        // The document names ask(), line() and widen(), not read().
        x.map(0, 0, 1);
        fillRow(x, 0, 0, 0, SHUT, 0, 1, 9, 7);
        x.read(0);
        due("trace() of read", x.trace(), 1110000);
        for (int i = 0; i < 400; i++) {
            x.ask(2, 2);
        }
        due("trace()", x.trace(), 1110000 + 400 * 110000L);
    }

    private static void status() {
        promise = 34;
        CutAtlas x = withPlaces(2);
        x.map(0, 0, -1);
        due("status() of map", x.status(), SIZE);
        x.line(9, 9, 9, 9, 9);
        x.place();
        x.most(0, 0);
        x.least();
        x.undo();
        due("status() after other calls", x.status(), SIZE);
        due("status() again", x.status(), SIZE);
        x.map(0, 0, 2);
        due("status() of map", x.status(), 0);
        x.row(0, 2, 1);
        due("status() of row", x.status(), INDEX);
        x.row(0, 0, 5);
        due("status() of row", x.status(), 0);
        x.put(0, 1, 0, 0, 1);
        due("status() of put", x.status(), CAST);
        x.put(0, 0, 0, 2, 1);
        due("status() of put", x.status(), 0);
        x.copy(0, 0, 0, 1, 0, 1);
        due("status() of copy", x.status(), NULL);
        x.copy(0, 0, 0, 0, 1, 0);
        due("status() of copy", x.status(), 0);
        x.read(0);
        due("status() of read", x.status(), NULL);
        x.item(0, 0, 0, 2);
        due("status() of item", x.status(), 0);
        x.row(0, 1, 5);
        x.put(0, 0, 1, 2, 1);
        due("read(0)", x.read(0), 2);
        due("status() of read", x.status(), 0);
    }

    /** Every call with every mix of a few numbers, most of them wrong, on an empty object and on others. */
    private static void neverThrows() throws Exception {
        promise = 0;
        for (Method method : CutAtlas.class.getMethods()) {
            if (method.getDeclaringClass() == CutAtlas.class && !Modifier.isStatic(method.getModifiers())) {
                for (CutAtlas x : manyStates()) {
                    callAll(x, method);
                }
            }
        }
    }

    private static CutAtlas[] manyStates() {
        CutAtlas maps = square();
        maps.map(0, 0, 6);
        maps.map(1, 1, 0);
        maps.map(2, 2, 2);
        maps.row(2, 1, 5);
        return new CutAtlas[] {
            new CutAtlas(), full(LINE, ONEWAY, STRONG, DEAR, SHUT), full(LINE, DEAR, SHUT), maps, withPlaces(2), pair(0, 1, 2, 3, 4)
        };
    }

    private static CutAtlas full(int... kinds) {
        CutAtlas x = withPlaces(12);
        for (int i = 0; i < 40; i++) {
            x.line(kinds[i % kinds.length], i % 12, (i + 1 + i / 12) % 12, i * 25, i);
        }
        return x;
    }

    private static void callAll(CutAtlas x, Method method) throws Exception {
        int many = method.getParameterCount();
        int[] few = {0, MIN, -1, 1, MAX, 12};
        int[] several = {0, MIN, -1, 1, MAX, 12, 2, 3, 4, 5, 11, 39, 40};
        int[] numbers = many > 3 ? few : several;
        int[] at = new int[many];
        boolean more = true;
        while (more) {
            Object[] given = new Object[many];
            for (int i = 0; i < many; i++) {
                given[i] = method.getParameterTypes()[i] == long.class ? (Object) (long) numbers[at[i]] : (Object) numbers[at[i]];
            }
            try {
                method.invoke(x, given);
            } catch (InvocationTargetException e) {
                wrong++;
                System.out.println(method.getName() + java.util.Arrays.toString(given) + " threw " + e.getCause());
            }
            int i = 0;
            while (i < many && ++at[i] == numbers.length) {
                at[i++] = 0;
            }
            more = i < many;
        }
    }
}
