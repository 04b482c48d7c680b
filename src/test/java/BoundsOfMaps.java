/** The document's sentences that name a boundary case: terms 3, promises 26 to 31 and 34. */
public final class BoundsOfMaps {
    private static final int BAD = -1, FULL = -3, NULL = -11, INDEX = -12, CAST = -13, SIZE = -15;
    private static final int LINE = 0, ONEWAY = 1, SHUT = 4;
    private static final int SHORTS = 0, INTS = 1, LONGS = 2;
    private static final int MIN = Integer.MIN_VALUE, MAX = Integer.MAX_VALUE;
    private static String sentence = "";
    private static int wrong = 0;

    public static void main(String[] args) {
        mapBad();
        mapSize();
        mapOrder();
        mapAnew();
        rowBad();
        rowNullIndexSize();
        rowOrder();
        rowAnew();
        putBad();
        putFindings();
        putOrder();
        putCasts();
        putTouchesOneNumber();
        copyBad();
        copyRows();
        copyNumbers();
        copyOrder();
        copyAsTheyWere();
        itemRefusedAsPut();
        readBad();
        readOfNothing();
        readEnds();
        readOrderInARow();
        readBeyondAnInt();
        readBadRows();
        readAtTheBounds();
        readFull();
        readFullOrder();
        readUndone();
        readSeesRowsAhead();
        statusOfEachCall();
        statusOfOtherCalls();
        System.out.println(wrong == 0 ? "all bounds of maps are as due" : wrong + " answers are not as due");
        if (wrong != 0) {
            System.exit(1);
        }
    }

    private static void says(String words) {
        sentence = words;
    }

    private static void due(String call, long got, long want) {
        if (got != want) {
            wrong++;
            System.out.println("\"" + sentence + "\": " + call + " answered " + got + ", due is " + want);
        }
    }

    private static CutAtlas withPlaces(int places) {
        CutAtlas x = new CutAtlas();
        for (int i = 0; i < places; i++) {
            x.place();
        }
        return x;
    }

    /** Map 1 of a kind: rows 0 .. 4 of as many numbers as theirs, row 5 is missing. */
    private static CutAtlas steps(int kind) {
        CutAtlas x = new CutAtlas();
        x.map(1, kind, 6);
        for (int r = 0; r < 5; r++) {
            x.row(1, r, r);
        }
        return x;
    }

    private static void fill(CutAtlas x, int map, int kind, int r, long... numbers) {
        x.row(map, r, numbers.length);
        for (int i = 0; i < numbers.length; i++) {
            x.put(map, kind, r, i, numbers[i]);
        }
    }

    private static int[] outside(int bound) {
        return new int[] {
            MIN, MIN + 1, -65536, -65535, -256, -255, -32, -31, -9, -2, -1, bound, bound + 1, bound + 32, bound + 256,
            bound + 65536, 1 << 16, 1 << 24, 1 << 30, MAX - 1, MAX
        };
    }

    private static final int[] BELOW = {-1, -2, -6, -9, MIN + 1, MIN};

    private static void mapBad() {
        says("Promise 26: A MAP gets n (6 at most) ROWS of a KIND .. BAD (3: MAPS, 4 at most at 0 .. 3, KIND 0, 1, 2)");
        CutAtlas x = new CutAtlas();
        for (int out : outside(4)) {
            due("map(" + out + ", 0, 1)", x.map(out, 0, 1), BAD);
            due("status()", x.status(), BAD);
        }
        for (int out : outside(3)) {
            due("map(0, " + out + ", 1)", x.map(0, out, 1), BAD);
            due("status()", x.status(), BAD);
        }
        for (int n : new int[] {7, 8, 38, 262, 65536, 65537, 1 << 30, MAX - 1, MAX}) {
            due("map(0, 0, " + n + ")", x.map(0, 0, n), BAD);
            due("status()", x.status(), BAD);
        }
        for (int map = 0; map < 4; map++) {
            due("row(" + map + ", 0, 1): no map came", x.row(map, 0, 1), NULL);
        }
        for (int map = 0; map < 4; map++) {
            for (int kind = 0; kind < 3; kind++) {
                for (int n = 0; n <= 6; n++) {
                    due("map(" + map + ", " + kind + ", " + n + ")", x.map(map, kind, n), 1);
                    due("status()", x.status(), 0);
                }
            }
        }
    }

    private static void mapSize() {
        says("Promise 26: SIZE. (3: SIZE, below 0)");
        CutAtlas x = new CutAtlas();
        for (int n : BELOW) {
            due("map(0, 0, " + n + ")", x.map(0, 0, n), SIZE);
            due("status()", x.status(), SIZE);
            due("row(0, 0, 0): no map came", x.row(0, 0, 0), NULL);
        }
        due("map(0, 0, 0)", x.map(0, 0, 0), 1);
        due("row(0, 0, 0) of no rows", x.row(0, 0, 0), INDEX);
    }

    private static void mapOrder() {
        says("Refused .. the first one here: BAD ..; then FINDINGS. (of map)");
        CutAtlas x = new CutAtlas();
        due("map(4, 0, -1)", x.map(4, 0, -1), BAD);
        due("map(-1, 0, -1)", x.map(-1, 0, -1), BAD);
        due("map(0, 3, -1)", x.map(0, 3, -1), BAD);
        due("map(0, -1, -1)", x.map(0, -1, -1), BAD);
        due("map(3, 2, -1)", x.map(3, 2, -1), SIZE);
    }

    private static void mapAnew() {
        says("Promise 26: all MISSING");
        for (int kind = 0; kind < 3; kind++) {
            CutAtlas x = new CutAtlas();
            x.map(0, kind, 6);
            for (int r = 0; r < 6; r++) {
                due("put(0, " + kind + ", " + r + ", 0, 1)", x.put(0, kind, r, 0, 1), NULL);
                fill(x, 0, kind, r, 1, 2, 3, 4, 5);
            }
            due("map() refused", x.map(0, kind, 7), BAD);
            due("map() refused", x.map(0, kind, -1), SIZE);
            due("map() refused", x.map(0, 3, 1), BAD);
            due("item() as it was", x.item(0, kind, 5, 4), 5);
            due("map() anew", x.map(0, kind, 6), 1);
            for (int r = 0; r < 6; r++) {
                due("item() of a row that was there", x.item(0, kind, r, 0), 0);
                due("status()", x.status(), NULL);
                due("row()", x.row(0, r, 5), 1);
                due("item() of the new row", x.item(0, kind, r, 4), 0);
                due("status()", x.status(), 0);
            }
            due("map() of another kind and size", x.map(0, (kind + 1) % 3, 1), 1);
            due("row(0, 1, 1)", x.row(0, 1, 1), INDEX);
            due("map() beside it", x.row(1, 0, 1), NULL);
        }
    }

    private static void rowBad() {
        says("Promise 27: A ROW becomes a new one of n (5 at most) numbers: 1. BAD");
        CutAtlas x = steps(INTS);
        for (int out : outside(4)) {
            due("row(" + out + ", 0, 1)", x.row(out, 0, 1), BAD);
            due("status()", x.status(), BAD);
        }
        for (int n : new int[] {6, 7, 37, 261, 65536, 65541, 1 << 30, MAX - 1, MAX}) {
            due("row(1, 0, " + n + ")", x.row(1, 0, n), BAD);
            due("status()", x.status(), BAD);
        }
        for (int n = 0; n <= 5; n++) {
            due("row(1, 0, " + n + ")", x.row(1, 0, n), 1);
            due("status()", x.status(), 0);
            due("put() of one beyond", x.put(1, INTS, 0, n, 1), INDEX);
            due("put() of the last", x.put(1, INTS, 0, n - 1, 1), n == 0 ? INDEX : 1);
        }
    }

    private static void rowNullIndexSize() {
        says("Promise 27: NULL; INDEX; SIZE: n (the last of these).");
        CutAtlas x = steps(SHORTS);
        for (int map : new int[] {0, 2, 3}) {
            due("row(" + map + ", 0, 1)", x.row(map, 0, 1), NULL);
            due("status()", x.status(), NULL);
        }
        for (int out : outside(6)) {
            due("row(1, " + out + ", 1)", x.row(1, out, 1), INDEX);
            due("status()", x.status(), INDEX);
        }
        for (int n : BELOW) {
            due("row(1, 5, " + n + ")", x.row(1, 5, n), SIZE);
            due("status()", x.status(), SIZE);
        }
        due("put() of the row that did not come", x.put(1, SHORTS, 5, 0, 1), NULL);
        due("row(1, 5, 0)", x.row(1, 5, 0), 1);
        due("put() of no number", x.put(1, SHORTS, 5, 0, 1), INDEX);
    }

    private static void rowOrder() {
        says("Refused .. BAD; NULL; INDEX; SIZE (of row)");
        CutAtlas x = steps(SHORTS);
        due("row(4, 9, -1)", x.row(4, 9, -1), BAD);
        due("row(0, 9, 6): BAD ahead of NULL", x.row(0, 9, 6), BAD);
        due("row(1, 9, 6): BAD ahead of INDEX", x.row(1, 9, 6), BAD);
        due("row(0, 9, -1): NULL ahead of INDEX, SIZE", x.row(0, 9, -1), NULL);
        due("row(0, 0, -1): NULL ahead of SIZE", x.row(0, 0, -1), NULL);
        due("row(1, 6, -1): INDEX ahead of SIZE", x.row(1, 6, -1), INDEX);
        due("row(1, -1, -1): INDEX ahead of SIZE", x.row(1, -1, -1), INDEX);
        due("row(1, 0, -1)", x.row(1, 0, -1), SIZE);
    }

    private static void rowAnew() {
        says("3: a ROW may be MISSING, has up to 5 numbers, 0 at first.");
        CutAtlas x = new CutAtlas();
        x.map(0, LONGS, 3);
        fill(x, 0, LONGS, 0, 11, 12, 13, 14, 15);
        fill(x, 0, LONGS, 1, 21, 22, 23, 24, 25);
        fill(x, 0, LONGS, 2, 31, 32, 33, 34, 35);
        due("row(0, 1, -1)", x.row(0, 1, -1), SIZE);
        due("row(0, 1, 6)", x.row(0, 1, 6), BAD);
        due("item() as it was", x.item(0, LONGS, 1, 4), 25);
        due("row(0, 1, 2)", x.row(0, 1, 2), 1);
        due("row(0, 1, 5)", x.row(0, 1, 5), 1);
        for (int i = 0; i < 5; i++) {
            due("item(0, 2, 1, " + i + ") of a new row", x.item(0, LONGS, 1, i), 0);
            due("status()", x.status(), 0);
            due("item() of the row ahead", x.item(0, LONGS, 0, i), 11 + i);
            due("item() of the row behind", x.item(0, LONGS, 2, i), 31 + i);
        }
    }

    private static void putBad() {
        says("Promise 28: BAD (of the MAP's number and the KIND)");
        CutAtlas x = steps(SHORTS);
        for (int out : outside(4)) {
            due("put(" + out + ", 0, 1, 0, 1)", x.put(out, 0, 1, 0, 1), BAD);
            due("status()", x.status(), BAD);
        }
        for (int out : outside(3)) {
            due("put(1, " + out + ", 1, 0, 1)", x.put(1, out, 1, 0, 1), BAD);
            due("status()", x.status(), BAD);
        }
        due("item() as it was", x.item(1, SHORTS, 1, 0), 0);
        due("put(1, 0, 1, 0, 1)", x.put(1, SHORTS, 1, 0, 1), 1);
        due("status()", x.status(), 0);
    }

    private static void putFindings() {
        says("Promise 28: NULL (the MAP); CAST; INDEX (the ROW); NULL (the ROW is MISSING); INDEX (the number).");
        for (int kind = 0; kind < 3; kind++) {
            CutAtlas x = steps(kind);
            due("put() of no map", x.put(0, kind, 0, 0, 1), NULL);
            for (int other = 0; other < 3; other++) {
                due("put() of kind " + other + " to " + kind, x.put(1, other, 4, 3, 1), other == kind ? 1 : CAST);
                due("status()", x.status(), other == kind ? 0 : CAST);
            }
            for (int out : outside(6)) {
                due("put() of row " + out, x.put(1, kind, out, 0, 1), INDEX);
            }
            for (int out : outside(4)) {
                due("put() of a missing row", x.put(1, kind, 5, out, 1), NULL);
                due("put() of number " + out, x.put(1, kind, 4, out, 1), INDEX);
                due("status()", x.status(), INDEX);
            }
            for (int r = 0; r < 5; r++) {
                due("put() of the last of row " + r, x.put(1, kind, r, r - 1, 1), r == 0 ? INDEX : 1);
                due("put() of one beyond row " + r, x.put(1, kind, r, r, 1), INDEX);
            }
        }
    }

    private static void putOrder() {
        says("Refused .. BAD; NULL; CAST; INDEX; NULL; INDEX (of put)");
        CutAtlas x = steps(INTS);
        due("put(4, 1, ..): BAD ahead of all", x.put(4, INTS, 9, 9, 1), BAD);
        due("put(0, 3, ..): BAD ahead of NULL", x.put(0, 3, 9, 9, 1), BAD);
        due("put(1, 3, ..): BAD ahead of CAST", x.put(1, 3, 9, 9, 1), BAD);
        due("put(0, 2, 9, 9): NULL ahead of CAST, INDEX", x.put(0, LONGS, 9, 9, 1), NULL);
        due("put(1, 2, 9, 9): CAST ahead of INDEX", x.put(1, LONGS, 9, 9, 1), CAST);
        due("put(1, 2, 5, 9): CAST ahead of NULL", x.put(1, LONGS, 5, 9, 1), CAST);
        due("put(1, 2, 4, 9): CAST ahead of INDEX", x.put(1, LONGS, 4, 9, 1), CAST);
        due("put(1, 1, 6, 9): INDEX of the row", x.put(1, INTS, 6, 9, 1), INDEX);
        due("put(1, 1, 5, 9): NULL ahead of INDEX", x.put(1, INTS, 5, 9, 1), NULL);
        due("put(1, 1, 5, -1): NULL ahead of INDEX", x.put(1, INTS, 5, -1, 1), NULL);
        due("put(1, 1, 4, 4): INDEX of the number", x.put(1, INTS, 4, 4, 1), INDEX);
        due("put(1, 1, 4, 3)", x.put(1, INTS, 4, 3, 1), 1);
        x.map(0, LONGS, 0);
        due("put(0, 1, 0, 0) of no rows: CAST ahead of INDEX", x.put(0, INTS, 0, 0, 1), CAST);
        due("put(0, 2, 0, 0) of no rows", x.put(0, LONGS, 0, 0, 1), INDEX);
    }

    private static void putCasts() {
        says("Promise 28: A number of a ROW becomes v, as Java casts it, taken as of a KIND: 1.");
        long[] given = {
            32767, 32768, -32768, -32769, 65535, 65536, 65537, 2147483647L, 2147483648L, -2147483648L, -2147483649L,
            4294967295L, 4294967296L, 4294967297L, Long.MAX_VALUE, Long.MIN_VALUE, -1, 0
        };
        long[] shorts = {32767, -32768, -32768, 32767, -1, 0, 1, -1, 0, 0, -1, -1, 0, 1, -1, 0, -1, 0};
        long[] ints = {
            32767, 32768, -32768, -32769, 65535, 65536, 65537, 2147483647L, -2147483648L, -2147483648L, 2147483647L,
            -1, 0, 1, -1, 0, -1, 0
        };
        for (int i = 0; i < given.length; i++) {
            long[] want = {shorts[i], ints[i], given[i]};
            for (int kind = 0; kind < 3; kind++) {
                CutAtlas x = steps(kind);
                x.put(1, kind, 1, 0, 7);
                due("put(1, " + kind + ", 1, 0, " + given[i] + ")", x.put(1, kind, 1, 0, given[i]), 1);
                due("item() of it", x.item(1, kind, 1, 0), want[kind]);
            }
        }
    }

    private static void putTouchesOneNumber() {
        says("Promise 28: A number of a ROW becomes v");
        CutAtlas x = new CutAtlas();
        for (int map = 0; map < 2; map++) {
            x.map(map, LONGS, 6);
            for (int r = 0; r < 6; r++) {
                x.row(map, r, 5);
            }
        }
        due("put()", x.put(0, LONGS, 2, 4, Long.MIN_VALUE), 1);
        for (int map = 0; map < 2; map++) {
            for (int r = 0; r < 6; r++) {
                for (int i = 0; i < 5; i++) {
                    boolean it = map == 0 && r == 2 && i == 4;
                    due("item(" + map + ", 2, " + r + ", " + i + ")", x.item(map, LONGS, r, i), it ? Long.MIN_VALUE : 0);
                }
            }
        }
    }

    private static void copyBad() {
        says("Promise 29: BAD; NULL (the MAP)");
        CutAtlas x = steps(INTS);
        for (int out : outside(4)) {
            due("copy(" + out + ", 1, 0, 1, 0, 0)", x.copy(out, 1, 0, 1, 0, 0), BAD);
            due("status()", x.status(), BAD);
        }
        for (int map : new int[] {0, 2, 3}) {
            due("copy(" + map + ", 1, 0, 1, 0, 0)", x.copy(map, 1, 0, 1, 0, 0), NULL);
            due("status()", x.status(), NULL);
        }
        due("copy(1, 1, 0, 1, 0, 0)", x.copy(1, 1, 0, 1, 0, 0), 0);
        due("status()", x.status(), 0);
    }

    private static void copyRows() {
        says("Promise 29: INDEX (the first ROW, then the other one); NULL (likewise)");
        CutAtlas x = steps(INTS);
        for (int out : outside(6)) {
            due("copy(1, " + out + ", 0, 4, 0, 0)", x.copy(1, out, 0, 4, 0, 0), INDEX);
            due("copy(1, 4, 0, " + out + ", 0, 0)", x.copy(1, 4, 0, out, 0, 0), INDEX);
            due("copy(1, " + out + ", 0, " + out + ", 0, 0)", x.copy(1, out, 0, out, 0, 0), INDEX);
            due("status()", x.status(), INDEX);
        }
        due("copy(1, 5, 0, 4, 0, 0)", x.copy(1, 5, 0, 4, 0, 0), NULL);
        due("copy(1, 4, 0, 5, 0, 0)", x.copy(1, 4, 0, 5, 0, 0), NULL);
        due("copy(1, 5, 0, 5, 0, 0)", x.copy(1, 5, 0, 5, 0, 0), NULL);
        due("status()", x.status(), NULL);
        x.map(0, INTS, 0);
        due("copy(0, 0, 0, 0, 0, 0) of no rows", x.copy(0, 0, 0, 0, 0, 0), INDEX);
    }

    private static void copyNumbers() {
        says("Promise 29: INDEX: the numbers are not there, or n is below 0.");
        CutAtlas x = steps(LONGS);
        for (int n : BELOW) {
            due("copy(1, 4, 0, 4, 0, " + n + ")", x.copy(1, 4, 0, 4, 0, n), INDEX);
            due("copy(1, 4, 4, 4, 4, " + n + ")", x.copy(1, 4, 4, 4, 4, n), INDEX);
            due("copy(1, 0, 0, 0, 0, " + n + ")", x.copy(1, 0, 0, 0, 0, n), INDEX);
        }
        for (int out : outside(5)) {
            due("copy(1, 4, " + out + ", 4, 0, 0)", x.copy(1, 4, out, 4, 0, 0), INDEX);
            due("copy(1, 4, 0, 4, " + out + ", 0)", x.copy(1, 4, 0, 4, out, 0), INDEX);
            due("copy(1, 4, " + out + ", 4, 0, MAX)", x.copy(1, 4, out, 4, 0, MAX), INDEX);
            due("copy(1, 4, 0, 4, " + out + ", MAX)", x.copy(1, 4, 0, 4, out, MAX), INDEX);
        }
        for (int n = 0; n <= 4; n++) {
            due("copy() of the last " + n, x.copy(1, 4, 4 - n, 4, 4 - n, n), n);
            due("copy() of one more", x.copy(1, 4, 4 - n, 4, 0, n + 1), INDEX);
            due("copy() to one less", x.copy(1, 4, 0, 4, 5 - n, n), INDEX);
        }
        due("copy(1, 4, 0, 3, 0, 3)", x.copy(1, 4, 0, 3, 0, 3), 3);
        due("copy(1, 4, 0, 3, 0, 4)", x.copy(1, 4, 0, 3, 0, 4), INDEX);
        due("copy(1, 3, 0, 4, 0, 4)", x.copy(1, 3, 0, 4, 0, 4), INDEX);
        due("copy(1, 0, 0, 0, 0, 0) of rows of no numbers", x.copy(1, 0, 0, 0, 0, 0), 0);
        due("copy(1, 0, 0, 0, 0, 1) of rows of no numbers", x.copy(1, 0, 0, 0, 0, 1), INDEX);
        due("copy(1, 0, 0, 0, 0, MAX)", x.copy(1, 0, 0, 0, 0, MAX), INDEX);
    }

    private static void copyOrder() {
        says("Refused .. BAD; NULL; INDEX; NULL; INDEX (of copy)");
        CutAtlas x = steps(INTS);
        due("copy(4, 9, 9, 9, 9, -1)", x.copy(4, 9, 9, 9, 9, -1), BAD);
        due("copy(0, 9, 9, 9, 9, -1): NULL of the map", x.copy(0, 9, 9, 9, 9, -1), NULL);
        due("copy(1, 9, 9, 5, 9, -1): INDEX ahead of NULL", x.copy(1, 9, 9, 5, 9, -1), INDEX);
        due("copy(1, 5, 9, 9, 9, -1): INDEX ahead of NULL", x.copy(1, 5, 9, 9, 9, -1), INDEX);
        due("copy(1, 5, 9, 4, 9, -1): NULL ahead of INDEX", x.copy(1, 5, 9, 4, 9, -1), NULL);
        due("copy(1, 4, 9, 5, 9, -1): NULL ahead of INDEX", x.copy(1, 4, 9, 5, 9, -1), NULL);
        due("copy(1, 4, 9, 4, 9, -1)", x.copy(1, 4, 9, 4, 9, -1), INDEX);
    }

    private static void copyAsTheyWere() {
        says("Promise 29: come to another ROW of the MAP (or the same), from j on, as they were: n.");
        for (int i = 0; i < 5; i++) {
            for (int j = 0; j < 5; j++) {
                int n = 5 - Math.max(i, j);
                for (int other = 0; other < 2; other++) {
                    copyOnce(i, j, n, other);
                }
            }
        }
    }

    private static void copyOnce(int i, int j, int n, int other) {
        CutAtlas x = new CutAtlas();
        long big = 1L << 40;
        x.map(3, LONGS, 2);
        fill(x, 3, LONGS, 0, big, big + 1, big + 2, big + 3, big + 4);
        fill(x, 3, LONGS, 1, -1, -2, -3, -4, -5);
        due("copy(3, 0, " + i + ", " + other + ", " + j + ", " + n + ")", x.copy(3, 0, i, other, j, n), n);
        for (int k = 0; k < 5; k++) {
            boolean came = k >= j && k < j + n;
            long first = came && other == 0 ? big + i + k - j : big + k;
            long second = came && other == 1 ? big + i + k - j : -1 - k;
            due("item(3, 2, 0, " + k + ")", x.item(3, LONGS, 0, k), first);
            due("item(3, 2, 1, " + k + ")", x.item(3, LONGS, 1, k), second);
        }
    }

    private static void itemIs(CutAtlas x, int map, int kind, int r, int i, int want) {
        due("item(" + map + ", " + kind + ", " + r + ", " + i + ")", x.item(map, kind, r, i), 0);
        due("status()", x.status(), want);
    }

    private static void itemRefusedAsPut() {
        says("Promise 30: 0, with status(): refused as put().");
        for (int kind = 0; kind < 3; kind++) {
            CutAtlas x = steps(kind);
            int cast = (kind + 1) % 3;
            fill(x, 1, kind, 4, 1, 2, 3, 4);
            for (int out : outside(4)) {
                itemIs(x, out, kind, 4, 0, BAD);
                itemIs(x, 1, kind, 4, out, INDEX);
                itemIs(x, 1, kind, 5, out, NULL);
            }
            for (int out : outside(3)) {
                itemIs(x, 1, out, 4, 0, BAD);
                itemIs(x, 0, out, 4, 0, BAD);
            }
            for (int out : outside(6)) {
                itemIs(x, 1, kind, out, 0, INDEX);
                itemIs(x, 1, cast, out, 0, CAST);
            }
            itemIs(x, 0, kind, 9, 9, NULL);
            itemIs(x, 1, cast, 5, 9, CAST);
            itemIs(x, 1, cast, 4, 0, CAST);
            due("item() of the last", x.item(1, kind, 4, 3), 4);
            due("status()", x.status(), 0);
        }
        CutAtlas x = steps(LONGS);
        itemIs(x, 1, LONGS, 4, 0, 0);
        x.put(1, LONGS, 4, 0, Long.MIN_VALUE);
        due("item() of the least long", x.item(1, LONGS, 4, 0), Long.MIN_VALUE);
        x.put(1, LONGS, 4, 0, BAD);
        due("item() of -1", x.item(1, LONGS, 4, 0), -1);
        due("status()", x.status(), 0);
    }

    private static void readBad() {
        says("Promise 31: BAD: the MAP's number.");
        CutAtlas x = withPlaces(2);
        for (int out : outside(4)) {
            due("read(" + out + ")", x.read(out), BAD);
            due("status()", x.status(), BAD);
        }
        due("about(3)", x.about(3), 2);
    }

    private static void readOfNothing() {
        says("Promise 31: at NULL (no MAP; a ROW that is MISSING)");
        CutAtlas x = withPlaces(2);
        for (int map = 0; map < 4; map++) {
            due("read(" + map + ") of no map", x.read(map), 0);
            due("status()", x.status(), NULL);
            due("map()", x.map(map, LONGS, 0), 1);
            due("read(" + map + ") of no rows", x.read(map), 0);
            due("status()", x.status(), 0);
            due("map()", x.map(map, LONGS, 6), 1);
            due("read(" + map + ") of rows that are missing", x.read(map), 0);
            due("status()", x.status(), NULL);
        }
        due("about(1)", x.about(1), 0);
        due("about(3)", x.about(3), 2);
    }

    private static void readEnds() {
        says("Promise 31: It ends, with those ahead come, and tells so by status(): at NULL .., INDEX (.. fewer than 5 numbers), BAD");
        for (int at = 0; at < 6; at++) {
            CutAtlas x = withPlaces(2);
            x.map(2, INTS, 6);
            for (int r = 0; r < 6; r++) {
                if (r != at) {
                    fill(x, 2, INTS, r, LINE, 0, 1, r, r);
                }
            }
            due("read() that ends at a missing row " + at, x.read(2), at);
            due("status()", x.status(), NULL);
            due("about(1)", x.about(1), at);
            for (int n = 0; n < 5; n++) {
                x.row(2, at, n);
                due("read() that ends at a row of " + n + " numbers", x.read(2), at);
                due("status()", x.status(), INDEX);
            }
            x.row(2, at, 5);
            due("read() that ends at a row of zeros", x.read(2), at);
            due("status()", x.status(), BAD);
        }
        CutAtlas y = withPlaces(2);
        y.map(2, INTS, 6);
        for (int r = 0; r < 6; r++) {
            fill(y, 2, INTS, r, LINE, 0, 1, r, r);
        }
        due("read() of all", y.read(2), 6);
        due("status()", y.status(), 0);
        for (int r = 0; r < 6; r++) {
            due("told(" + r + ", 3): in order", y.told(r, 3), r);
            due("told(" + r + ", 4): in order", y.told(r, 4), r);
        }
    }

    private static void readOrderInARow() {
        says("Promise 31: a short ROW is INDEX, whatever its numbers are");
        CutAtlas x = withPlaces(2);
        x.map(0, LONGS, 1);
        fill(x, 0, LONGS, 0, 9, 9, 9, 9);
        due("read() of a short row that would be BAD", x.read(0), 0);
        due("status()", x.status(), INDEX);
        fill(x, 0, LONGS, 0, 9, 9, 9, 9, 9);
        due("read() of it with 5 numbers", x.read(0), 0);
        due("status()", x.status(), BAD);
    }

    private static void readBeyondAnInt() {
        says("Promise 31: a number beyond an int is BAD");
        long[] right = {LINE, 0, 1, 5, 7};
        long[] beyond = {1L << 31, 1L << 32, -(1L << 32), 1L << 33, 1L << 48, -(1L << 31) - 1, Long.MIN_VALUE};
        for (int i = 0; i < 5; i++) {
            for (long far : beyond) {
                CutAtlas x = withPlaces(2);
                x.map(0, LONGS, 2);
                fill(x, 0, LONGS, 0, right);
                fill(x, 0, LONGS, 1, right);
                x.put(0, LONGS, 1, i, right[i] + far);
                due("read() with number " + i + " at " + (right[i] + far), x.read(0), 1);
                due("status()", x.status(), BAD);
            }
            CutAtlas y = withPlaces(2);
            y.map(0, LONGS, 1);
            fill(y, 0, LONGS, 0, right);
            y.put(0, LONGS, 0, i, Long.MAX_VALUE);
            due("read() with number " + i + " at the greatest long", y.read(0), 0);
            due("status()", y.status(), BAD);
        }
    }

    private static void readBadRows() {
        says("Promise 31: BAD .. (what line() would tell)");
        long[] right = {LINE, 0, 1, 5, 7};
        int[][] beside = {{-1, 5}, {-1, 1, 2}, {-1, 0, 2}, {-1, 1001}, {-1, 101}};
        long[][] ends = {{Short.MIN_VALUE, Short.MAX_VALUE}, {MIN, MAX}, {Long.MIN_VALUE, Long.MAX_VALUE}};
        for (int kind = SHORTS; kind <= LONGS; kind++) {
            for (int i = 0; i < 5; i++) {
                for (int number : beside[i]) {
                    readsNone(kind, right, i, number);
                }
                for (long number : ends[kind]) {
                    readsNone(kind, right, i, number);
                }
            }
        }
    }

    private static void readsNone(int kind, long[] right, int i, long number) {
        CutAtlas x = withPlaces(2);
        x.map(3, kind, 1);
        fill(x, 3, kind, 0, right);
        x.put(3, kind, 0, i, number);
        due("read() with number " + i + " at " + number, x.read(3), 0);
        due("status()", x.status(), BAD);
        due("about(3)", x.about(3), 2);
    }

    private static void readAtTheBounds() {
        says("Promise 31: All ROWS of a MAP are READ, in order, as LINES: how many came.");
        for (int kind = SHORTS; kind <= LONGS; kind++) {
            CutAtlas x = withPlaces(12);
            x.map(0, kind, 5);
            fill(x, 0, kind, 0, LINE, 0, 11, 0, 0);
            fill(x, 0, kind, 1, ONEWAY, 11, 0, 1000, 100);
            fill(x, 0, kind, 2, SHUT, 10, 11, 1000, 100);
            fill(x, 0, kind, 3, SHUT, 11, 10, 0, 0);
            fill(x, 0, kind, 4, 3, 5, 6, 1000, 0);
            due("read() at the bounds", x.read(0), 5);
            due("status()", x.status(), 0);
            int[][] want = {{0, 0, 11, 0, 0, 0}, {1, 11, 0, 1000, 100, 0}, {4, 10, 11, 0, 100, 0}, {4, 11, 10, 0, 0, 0}, {3, 5, 6, 1000, 0, 0}};
            for (int line = 0; line < 5; line++) {
                for (int what = 0; what < 6; what++) {
                    due("told(" + line + ", " + what + ")", x.told(line, what), want[line][what]);
                }
            }
            due("read() again", x.read(0), 5);
            due("about(1)", x.about(1), 10);
        }
    }

    /** A net with so many lines, and map 0 with six rows that are right. */
    private static CutAtlas withLines(int lines) {
        CutAtlas x = withPlaces(2);
        for (int i = 0; i < lines; i++) {
            x.line(LINE, 0, 1, 1, 1);
        }
        x.map(0, INTS, 6);
        for (int r = 0; r < 6; r++) {
            fill(x, 0, INTS, r, LINE, 0, 1, r, 1);
        }
        return x;
    }

    private static void readFull() {
        says("Promise 31: FULL (what line() would tell)");
        for (int lines = 33; lines <= 40; lines++) {
            CutAtlas x = withLines(lines);
            int came = Math.min(6, 40 - lines);
            due("read() of six at " + lines + " lines", x.read(0), came);
            due("status()", x.status(), came == 6 ? 0 : FULL);
            due("about(1)", x.about(1), lines + came);
            due("undo()", x.undo(), 29);
            due("about(1): all that came, or the line() ahead", x.about(1), came == 0 ? lines - 1 : lines);
        }
    }

    private static void readFullOrder() {
        says("Promise 31: NULL .., INDEX .., BAD, FULL of a ROW of a net that is full");
        CutAtlas x = withLines(40);
        x.put(0, INTS, 0, 2, 0);
        due("read() of a BAD row", x.read(0), 0);
        due("status(): BAD ahead of FULL", x.status(), BAD);
        x.row(0, 0, 4);
        due("read() of a short row", x.read(0), 0);
        due("status()", x.status(), INDEX);
        x.map(0, INTS, 1);
        due("read() of a missing row", x.read(0), 0);
        due("status()", x.status(), NULL);
        x.map(0, INTS, 0);
        due("read() of no rows", x.read(0), 0);
        due("status()", x.status(), 0);
    }

    private static void readUndone() {
        says("Promise 31: (One that let some come can be undone by one undo(), all that came.)");
        CutAtlas x = withLines(0);
        due("read()", x.read(0), 6);
        due("about(3)", x.about(3), 3);
        x.map(0, INTS, 1);
        due("read() that lets none come", x.read(0), 0);
        due("about(3)", x.about(3), 3);
        due("undo()", x.undo(), 2);
        due("about(1)", x.about(1), 0);
        due("undo() of place()", x.undo(), 1);
        due("about(0)", x.about(0), 1);
        CutAtlas one = withPlaces(2);
        one.map(1, SHORTS, 2);
        fill(one, 1, SHORTS, 0, LINE, 0, 1, 1, 1);
        due("read() of one, then of a missing row", one.read(1), 1);
        due("about(3)", one.about(3), 3);
        due("undo()", one.undo(), 2);
        due("about(1)", one.about(1), 0);
        // 30 changes behind, the oldest of which each read() pushes out.
        CutAtlas many = withPlaces(2);
        many.map(1, SHORTS, 1);
        fill(many, 1, SHORTS, 0, LINE, 0, 1, 1, 1);
        for (int i = 0; i < 40; i++) {
            due("read()", many.read(1), 1);
        }
        due("read() that is FULL", many.read(1), 0);
        due("about(3)", many.about(3), 30);
        for (int left = 29; left >= 0; left--) {
            due("undo()", many.undo(), left);
            due("about(1)", many.about(1), 10 + left);
        }
    }

    private static void readSeesRowsAhead() {
        says("3: A ROW is READ as a LINE: its first numbers are the KIND, a, b, the WIDTH, the PRICE.");
        CutAtlas x = withPlaces(3);
        x.map(0, LONGS, 1);
        fill(x, 0, LONGS, 0, 3, 2, 1, 4, 5);
        due("read()", x.read(0), 1);
        int[] want = {3, 2, 1, 4, 5, 0};
        for (int what = 0; what < 6; what++) {
            due("told(0, " + what + ")", x.told(0, what), want[what]);
        }
        x.put(0, LONGS, 0, 3, 9);
        due("told(0, 3): the line is not the row", x.told(0, 3), 4);
        x.width(0, 8);
        due("item(): the row is not the line", x.item(0, LONGS, 0, 3), 9);
    }

    private static void statusOfEachCall() {
        says("Promise 34: What the latest row(), put(), copy(), item(), map(), read() was refused by, or ended at; 0.");
        CutAtlas x = withPlaces(2);
        due("status() of none", x.status(), 0);
        for (int round = 0; round < 2; round++) {
            due("map()", x.map(0, INTS, -1), SIZE);
            due("status() of map()", x.status(), SIZE);
            due("map()", x.map(0, INTS, 2), 1);
            due("status() of map()", x.status(), 0);
            due("row()", x.row(0, 2, 1), INDEX);
            due("status() of row()", x.status(), INDEX);
            due("row()", x.row(0, 0, 5), 1);
            due("status() of row()", x.status(), 0);
            due("put()", x.put(0, LONGS, 0, 0, 1), CAST);
            due("status() of put()", x.status(), CAST);
            due("put()", x.put(0, INTS, 0, 2, 1), 1);
            due("status() of put()", x.status(), 0);
            due("copy()", x.copy(0, 0, 0, 1, 0, 1), NULL);
            due("status() of copy()", x.status(), NULL);
            due("copy()", x.copy(0, 0, 0, 0, 0, 5), 5);
            due("status() of copy()", x.status(), 0);
            due("item()", x.item(0, INTS, 0, 5), 0);
            due("status() of item()", x.status(), INDEX);
            due("item()", x.item(0, INTS, 0, 2), 1);
            due("status() of item()", x.status(), 0);
            due("read()", x.read(0), 1);
            due("status() of read()", x.status(), NULL);
            x.row(0, 1, 5);
            x.put(0, INTS, 1, 1, 1);
            due("read()", x.read(0), 2);
            due("status() of read()", x.status(), 0);
            due("read()", x.read(4), BAD);
            due("status() of read()", x.status(), BAD);
        }
    }

    private static void statusOfOtherCalls() {
        says("Promise 34: the latest row(), put(), copy(), item(), map(), read() (other calls leave it)");
        CutAtlas x = withPlaces(12);
        x.line(SHUT, 0, 1, 1, 1);
        for (int round = 0; round < 2; round++) {
            int stays = round == 0 ? CAST : 0;
            x.map(0, INTS, 1);
            x.row(0, 0, 1);
            x.put(0, round == 0 ? LONGS : INTS, 0, 0, 1);
            due("status()", x.status(), stays);
            x.place();
            x.line(LINE, 0, 0, 0, 0);
            x.line(LINE, 0, 1, 0, 0);
            x.widen(0, 1);
            x.widen(0, -1);
            x.width(0, 1);
            x.width(9, 1);
            x.merge(3, 3);
            x.merge(3, 4);
            x.undo();
            x.told(99, 0);
            x.ask(0, 0);
            x.ask(0, 9);
            x.most(0, 1);
            x.most(0, 0);
            x.flow(0, 0, 0);
            x.cut(0, 1, 9);
            x.count(0, 0);
            x.next(0, 1, -1);
            x.size(0, 0, 0);
            x.raise(0, 1, 99);
            x.cheapest(0, 1, -1);
            x.tree(99, 0);
            x.between(0, 0);
            x.least();
            x.cuts();
            x.cutAt(-1);
            x.weak(99);
            x.part(-1, 0);
            x.dense(9);
            x.about(9);
            x.trace();
            due("status() behind other calls", x.status(), stays);
            due("status() behind status()", x.status(), stays);
        }
    }
}
