/** The boundaries that section 1 tells of ROWS, and promises 2 to 5 and 31: a test for each sentence. */
public final class TopSheetRowEdges extends Check {
    private static final int[] NO_SUCH_ROW = {-1, 8, 9, MIN, MAX};
    /** One desk with the bills 0 to 5: n GUSTS take 5 first, then 4, and so on. */
    private static final String SIX_BILLS = ALWAYS + "desk 9 0;sheet bill 0 1 12;sheet bill 0 1 12;"
        + "sheet bill 0 1 12;sheet bill 0 1 12;sheet bill 0 1 12;sheet bill 0 1 12;";

    public static void main(String[] args) {
        rowsAreMissingAtFirst();
        rowsAre0To7();
        lanesAre0To2();
        itemsAre0To40();
        fewerThanNone();
        badAheadOfSize();
        itemsAre0AtFirst();
        inPlaceOfWhatIsThere();
        bytesWrapAround();
        shortsWrapAround();
        intsAreWhole();
        setWithoutRow();
        setBesidePlaces();
        copyOfNone();
        copyOfAll();
        copyUpToTheEnd();
        copyBeyondTheEnd();
        copyBelow0();
        copyWrapsAroundNowhere();
        copyOverItself();
        copyWithoutRows();
        copyOfTwoLanes();
        copyFindsTheFirst();
        dropCounts();
        dropTwice();
        statusOfFindings();
        statusOfRefusals();
        statusOfOtherCalls();
        end("the edges of rows hold");
    }

    /** Whether ITEM i of a row is that sheet of SIX_BILLS: 1, 0, BAD if it is no sheet. */
    private static void item(String what, TopSheet x, int row, int i, int sheet) {
        x.lift(sheet);
        due(what, x.beach(row, i, 1, 1), 1);
    }

    private static TopSheet withRow(int lane, int n) {
        TopSheet x = officeOf(SIX_BILLS);
        due("row(0," + lane + "," + n + ")", x.row(0, lane, n), n);
        return x;
    }

    /** A row of 0, 1, 2, .. */
    private static TopSheet counting(int lane, int n) {
        TopSheet x = withRow(lane, n);
        for (int i = 0; i < n; i++) {
            x.set(0, i, i);
        }
        return x;
    }

    // ROWS 0 .. 7 are missing (at first)

    private static void rowsAreMissingAtFirst() {
        for (int r = 0; r < 8; r++) {
            TopSheet x = new TopSheet();
            due("set of row " + r + " at first", x.set(r, 0, 0), NO_ROW);
            due("copy from row " + r + " at first", x.copy(r, 0, r, 0, 0), NO_ROW);
            due("drop of row " + r + " at first", x.drop(r), NO_ROW);
            due("rows at first", x.count(0), 0);
        }
    }

    private static void rowsAre0To7() {
        TopSheet x = officeOf(SIX_BILLS);
        for (int r = 0; r < 8; r++) {
            due("row " + r, x.row(r, r % 3, r), r);
            due("rows", x.count(0), r + 1);
        }
        for (int r : NO_SUCH_ROW) {
            due("row(" + r + ")", x.row(r, 0, 1), BAD);
            due("set(" + r + ")", x.set(r, 0, 1), BAD);
            due("copy(" + r + ",..)", x.copy(r, 0, 1, 0, 0), BAD);
            due("copy(..," + r + ")", x.copy(1, 0, r, 0, 0), BAD);
            due("drop(" + r + ")", x.drop(r), BAD);
            due("beach(" + r + ")", x.beach(r, 0, 0, 0), BAD);
        }
        due("rows", x.count(0), 8);
        due("row 7 has its items", x.drop(7), 7);
        due("row 0 has none", x.drop(0), 0);
    }

    // a LANE (0 bytes, 1 shorts, 2 ints)

    private static void lanesAre0To2() {
        TopSheet x = new TopSheet();
        int[] ofBits = {-1, 0x7FFF, 0x7FFFFFFF};
        for (int lane = 0; lane < 3; lane++) {
            due("lane " + lane, x.row(0, lane, 1), 1);
            int all = lane == 0 ? 0xFF : ofBits[lane];
            due("lane " + lane + " holds", x.set(0, 0, all), ofBits[lane]);
        }
        for (int lane : new int[] {-1, 3, 4, MIN, MAX}) {
            due("lane " + lane, x.row(0, lane, 1), BAD);
            due("lane " + lane + " of a row that is missing", x.row(1, lane, 1), BAD);
        }
        due("rows", x.count(0), 1);
        due("the lane stays", x.set(0, 0, MAX), MAX);
    }

    // 0 to 40 ITEMS; BAD: n above 40

    private static void itemsAre0To40() {
        for (int n = 0; n <= 40; n++) {
            TopSheet x = new TopSheet();
            due("row of " + n, x.row(3, 1, n), n);
            due("its end", x.set(3, n, 1), NO_PLACE);
            if (n > 0) {
                due("its last item", x.set(3, n - 1, 1), 1);
            }
            due("it had", x.drop(3), n);
        }
        TopSheet x = new TopSheet();
        for (int n : new int[] {41, 42, 400, MAX}) {
            due("row of " + n, x.row(3, 1, n), BAD);
        }
        due("none stands", x.count(0), 0);
    }

    // 4 SIZE (fewer than none)

    private static void fewerThanNone() {
        TopSheet x = new TopSheet();
        for (int n : new int[] {-1, -2, -40, -41, MIN}) {
            due("row of " + n, x.row(3, 1, n), NO_SIZE);
            due("status of " + n, x.status(), 4);
        }
        due("none stands", x.count(0), 0);
        x.row(3, 1, 2);
        due("row of -1 in place of one", x.row(3, 2, -1), NO_SIZE);
        due("its lane stays", x.set(3, 1, 0x8000), -0x8000);
        due("its items stay", x.drop(3), 2);
    }

    private static void badAheadOfSize() {
        TopSheet x = new TopSheet();
        due("no such row", x.row(8, 0, -1), BAD);
        due("no such row", x.row(-1, 0, -1), BAD);
        due("no such lane", x.row(0, 3, -1), BAD);
        due("no such lane", x.row(0, -1, MIN), BAD);
        due("status", x.status(), 0);
    }

    // ITEMS, 0 at first

    private static void itemsAre0AtFirst() {
        for (int lane = 0; lane < 3; lane++) {
            TopSheet x = withRow(lane, 40);
            x.lift(0);
            for (int i = 0; i < 40; i++) {
                due("item " + i + " at first", x.beach(0, i, 1, 1), 1);
            }
        }
    }

    private static void inPlaceOfWhatIsThere() {
        TopSheet x = counting(2, 6);
        due("a shorter one", x.row(0, 2, 2), 2);
        due("no place 2", x.set(0, 2, 1), NO_PLACE);
        due("a longer one", x.row(0, 2, 40), 40);
        x.lift(0);
        for (int i = 0; i < 6; i++) {
            due("item " + i + " anew", x.beach(0, i, 1, 1), 1);
        }
        due("of another lane", x.row(0, 0, 3), 3);
        due("its lane", x.set(0, 0, 128), -128);
        x.row(1, 2, 3);
        due("no more of the lane it had", x.copy(1, 0, 0, 0, 1), NO_STORE);
        due("two rows", x.count(0), 2);
    }

    // ITEM i becomes v, its lowest bits, as many as the LANE has (read with their sign)

    private static void bytesWrapAround() {
        int[] set = {0, 1, -1, 127, 128, 129, -128, -129, 255, 256, 257, -255, -256, -257, 32767, 65535, MIN, MAX};
        int[] is = {0, 1, -1, 127, -128, -127, -128, 127, -1, 0, 1, 1, 0, -1, -1, -1, 0, -1};
        wraps(0, set, is);
    }

    private static void shortsWrapAround() {
        int[] set = {0, 1, -1, 128, 255, 32767, 32768, 32769, -32768, -32769, 65535, 65536, 65537, -65535, -65536,
            MIN, MAX};
        int[] is = {0, 1, -1, 128, 255, 32767, -32768, -32767, -32768, 32767, -1, 0, 1, 1, 0, 0, -1};
        wraps(1, set, is);
    }

    private static void intsAreWhole() {
        int[] all = {0, 1, -1, 128, 32768, 65536, -65537, 1 << 30, MIN, MIN + 1, MAX, MAX - 1};
        wraps(2, all, all);
    }

    private static void wraps(int lane, int[] set, int[] is) {
        TopSheet x = new TopSheet();
        x.row(5, lane, 1);
        for (int k = 0; k < set.length; k++) {
            due("lane " + lane + " set to " + set[k], x.set(5, 0, set[k]), is[k]);
        }
        TopSheet y = officeOf(SIX_BILLS);
        y.row(5, lane, 1);
        int above = lane == 0 ? 256 : lane == 1 ? 65536 : 0;
        y.set(5, 0, 3 + above);
        item("lane " + lane + " keeps the lowest bits", y, 5, 0, 3);
    }

    // set: BAD: ROW; NULL; PLACE

    private static void setWithoutRow() {
        TopSheet x = new TopSheet();
        due("missing", x.set(7, 0, 1), NO_ROW);
        due("missing ahead of place", x.set(7, -1, 1), NO_ROW);
        due("missing ahead of place", x.set(7, 40, 1), NO_ROW);
        due("bad ahead of missing", x.set(8, 0, 1), BAD);
        x.row(7, 0, 1);
        due("it stands", x.set(7, 0, 1), 1);
        x.drop(7);
        due("dropped", x.set(7, 0, 1), NO_ROW);
        due("still none", x.count(0), 0);
    }

    private static void setBesidePlaces() {
        TopSheet x = counting(2, 4);
        due("the first", x.set(0, 0, 5), 5);
        due("the last", x.set(0, 3, 5), 5);
        for (int i : new int[] {-1, 4, 5, 39, 40, 41, MIN, MAX}) {
            due("place " + i, x.set(0, i, 5), NO_PLACE);
            due("status of place " + i, x.status(), 2);
        }
        item("item 1 stays", x, 0, 1, 1);
        x.row(1, 0, 0);
        due("no place in a row of none", x.set(1, 0, 0), NO_PLACE);
        x.row(2, 0, 40);
        due("the last of forty", x.set(2, 39, 1), 1);
        due("one further", x.set(2, 40, 1), NO_PLACE);
    }

    // copy: n ITEMS of a from i on come to b from j on

    private static void copyOfNone() {
        TopSheet x = counting(2, 4);
        x.row(1, 2, 0);
        due("none, from the first", x.copy(0, 0, 0, 3, 0), 0);
        due("none, at the end", x.copy(0, 4, 0, 4, 0), 0);
        due("none, of a row of none", x.copy(1, 0, 1, 0, 0), 0);
        due("none, between them", x.copy(0, 4, 1, 0, 0), 0);
        due("status", x.status(), 0);
        due("one of a row of none", x.copy(1, 0, 0, 0, 1), NO_PLACE);
        due("one to a row of none", x.copy(0, 0, 1, 0, 1), NO_PLACE);
        for (int i = 0; i < 4; i++) {
            item("item " + i + " stays", x, 0, i, i);
        }
    }

    private static void copyOfAll() {
        TopSheet x = counting(0, 6);
        x.row(1, 0, 6);
        due("all", x.copy(0, 0, 1, 0, 6), 6);
        for (int i = 0; i < 6; i++) {
            item("item " + i + " came", x, 1, i, i);
            item("item " + i + " stays where it was", x, 0, i, i);
        }
        TopSheet y = new TopSheet();
        y.row(2, 1, 40);
        y.row(3, 1, 40);
        due("forty", y.copy(2, 0, 3, 0, 40), 40);
        due("forty-one", y.copy(2, 0, 3, 0, 41), NO_PLACE);
    }

    private static void copyUpToTheEnd() {
        TopSheet x = counting(2, 6);
        x.row(1, 2, 3);
        due("the last two to the last two", x.copy(0, 4, 1, 1, 2), 2);
        x.lift(0);
        due("item 0 stays", x.beach(1, 0, 1, 1), 1);
        item("item 1", x, 1, 1, 4);
        item("item 2", x, 1, 2, 5);
    }

    // PLACE (i, j, n below 0, or beyond an end)

    private static void copyBeyondTheEnd() {
        TopSheet x = counting(2, 6);
        x.row(1, 2, 4);
        due("one beyond the end of a", x.copy(0, 4, 1, 0, 3), NO_PLACE);
        due("one beyond the end of b", x.copy(0, 0, 1, 2, 3), NO_PLACE);
        due("from the end of a", x.copy(0, 6, 1, 0, 1), NO_PLACE);
        due("to the end of b", x.copy(0, 0, 1, 4, 1), NO_PLACE);
        due("none from beyond the end of a", x.copy(0, 7, 1, 0, 0), NO_PLACE);
        due("none to beyond the end of b", x.copy(0, 0, 1, 5, 0), NO_PLACE);
        due("an end of a, where b has room", x.copy(1, 0, 0, 0, 5), NO_PLACE);
        due("status", x.status(), 2);
        x.lift(0);
        for (int i = 0; i < 4; i++) {
            due("item " + i + " of b stays", x.beach(1, i, 1, 1), 1);
        }
    }

    private static void copyBelow0() {
        TopSheet x = counting(2, 6);
        x.row(1, 2, 6);
        for (int low : new int[] {-1, -6, MIN}) {
            due("i " + low, x.copy(0, low, 1, 0, 1), NO_PLACE);
            due("j " + low, x.copy(0, 0, 1, low, 1), NO_PLACE);
            due("n " + low, x.copy(0, 3, 1, 3, low), NO_PLACE);
            due("none from " + low, x.copy(0, low, 1, 0, 0), NO_PLACE);
            due("none to " + low, x.copy(0, 0, 1, low, 0), NO_PLACE);
        }
        due("i and n, whose sum is a place", x.copy(0, -1, 1, 0, 3), NO_PLACE);
        due("n below 0 at the end", x.copy(0, 6, 1, 6, -1), NO_PLACE);
    }

    private static void copyWrapsAroundNowhere() {
        TopSheet x = counting(2, 6);
        x.row(1, 2, 6);
        due("i and n", x.copy(0, MAX, 1, 0, 1), NO_PLACE);
        due("i and n", x.copy(0, 1, 1, 0, MAX), NO_PLACE);
        due("i and n", x.copy(0, MAX, 1, 0, MAX), NO_PLACE);
        due("j and n", x.copy(0, 0, 1, MAX, 1), NO_PLACE);
        due("j and n", x.copy(0, 0, 1, MAX, MAX), NO_PLACE);
        due("least n", x.copy(0, MAX, 1, MAX, MIN), NO_PLACE);
        due("least i", x.copy(0, MIN, 1, 0, MAX), NO_PLACE);
        due("none at the greatest place", x.copy(0, MAX, 1, 0, 0), NO_PLACE);
    }

    // as they were ahead

    private static void copyOverItself() {
        TopSheet up = counting(2, 6);
        due("two up", up.copy(0, 0, 0, 2, 4), 4);
        int[] isUp = {0, 1, 0, 1, 2, 3};
        TopSheet down = counting(1, 6);
        due("two down", down.copy(0, 2, 0, 0, 4), 4);
        int[] isDown = {2, 3, 4, 5, 4, 5};
        TopSheet same = counting(0, 6);
        due("to where they are", same.copy(0, 1, 0, 1, 5), 5);
        for (int i = 0; i < 6; i++) {
            item("up, item " + i, up, 0, i, isUp[i]);
            item("down, item " + i, down, 0, i, isDown[i]);
            item("same, item " + i, same, 0, i, i);
        }
    }

    // 1 NULL (a ROW that is missing), 5 STORE (ROWS of two LANES)

    private static void copyWithoutRows() {
        TopSheet x = counting(2, 2);
        due("a is missing", x.copy(1, 0, 0, 0, 1), NO_ROW);
        due("b is missing", x.copy(0, 0, 1, 0, 1), NO_ROW);
        due("both are missing", x.copy(1, 0, 2, 0, 1), NO_ROW);
        due("one twice", x.copy(1, 0, 1, 0, 0), NO_ROW);
        due("status", x.status(), 1);
        due("b stays missing", x.count(0), 1);
    }

    private static void copyOfTwoLanes() {
        TopSheet x = new TopSheet();
        for (int lane = 0; lane < 3; lane++) {
            x.row(lane, lane, 2);
            x.row(4 + lane, lane, 2);
        }
        for (int a = 0; a < 3; a++) {
            for (int b = 0; b < 3; b++) {
                due("lane " + a + " to lane " + b, x.copy(a, 0, 4 + b, 0, 1), a == b ? 1 : NO_STORE);
                due("none of lane " + a + " to lane " + b, x.copy(a, 0, 4 + b, 0, 0), a == b ? 0 : NO_STORE);
                due("status", x.status(), a == b ? 0 : 5);
            }
        }
    }

    // FINDINGS, of several the first in time

    private static void copyFindsTheFirst() {
        TopSheet x = new TopSheet();
        x.row(0, 0, 2);
        x.row(1, 1, 2);
        due("bad ahead of missing", x.copy(8, 0, 5, 0, 1), BAD);
        due("bad ahead of missing", x.copy(5, 0, -1, 0, 1), BAD);
        due("bad ahead of two lanes and places", x.copy(0, -1, 8, -1, -1), BAD);
        due("missing ahead of places", x.copy(0, 9, 5, 9, 9), NO_ROW);
        due("missing ahead of places", x.copy(5, -1, 0, -1, -1), NO_ROW);
        due("two lanes ahead of i", x.copy(0, 3, 1, 0, 0), NO_STORE);
        due("two lanes ahead of j", x.copy(0, 0, 1, -1, 0), NO_STORE);
        due("two lanes ahead of n", x.copy(0, 0, 1, 0, -1), NO_STORE);
        due("two lanes ahead of an end", x.copy(1, 0, 0, 0, 41), NO_STORE);
    }

    // drop: how many ITEMS it had

    private static void dropCounts() {
        TopSheet x = new TopSheet();
        x.row(0, 0, 0);
        x.row(1, 1, 1);
        x.row(7, 2, 40);
        due("none", x.drop(0), 0);
        due("one", x.drop(1), 1);
        due("rows", x.count(0), 1);
        due("forty", x.drop(7), 40);
        due("rows", x.count(0), 0);
    }

    private static void dropTwice() {
        TopSheet x = new TopSheet();
        x.row(3, 0, 0);
        due("a row of none stands", x.count(0), 1);
        due("drop", x.drop(3), 0);
        due("drop twice", x.drop(3), NO_ROW);
        due("status", x.status(), 1);
        due("row anew", x.row(3, 2, 4), 4);
        due("drop anew", x.drop(3), 4);
        due("status", x.status(), 0);
    }

    // status: the latest call with a ROW, or as(), that was not BAD, STATE, FULL

    private static void statusOfFindings() {
        TopSheet x = officeOf(SIX_BILLS);
        due("there was none", x.status(), 0);
        x.row(0, 0, -1);
        due("row: size", x.status(), 4);
        x.set(0, 0, 0);
        due("set: missing", x.status(), 1);
        x.row(0, 0, 1);
        due("row: none", x.status(), 0);
        x.set(0, 1, 0);
        due("set: place", x.status(), 2);
        x.set(0, 0, 0);
        due("set: none", x.status(), 0);
        x.copy(0, 0, 1, 0, 0);
        due("copy: missing", x.status(), 1);
        x.copy(0, 0, 0, 0, 1);
        due("copy: none", x.status(), 0);
        x.row(1, 1, 1);
        x.copy(0, 0, 1, 0, 0);
        due("copy: two lanes", x.status(), 5);
        x.copy(0, 0, 0, 0, 2);
        due("copy: place", x.status(), 2);
        x.as(0, 2);
        due("as: kind", x.status(), 3);
        x.as(0, 1);
        due("as: none", x.status(), 0);
        x.drop(2);
        due("drop: missing", x.status(), 1);
        x.drop(1);
        due("drop: none", x.status(), 0);
        x.beach(1, 0, 0, 0);
        due("beach: missing", x.status(), 1);
        x.beach(0, 2, 0, 0);
        due("beach: place", x.status(), 2);
        x.beach(0, 0, 1, 1);
        due("beach: none, though it does not fit", x.status(), 0);
    }

    private static void statusOfRefusals() {
        TopSheet x = new TopSheet();
        x.row(0, 0, 3);
        x.set(0, 3, 0);
        x.beach(0, 0, 0, 0);
        due("STATE of a beach", x.status(), 2);
        write(x, SIX_BILLS);
        x.office();
        x.row(8, 0, 0);
        x.row(0, 3, 0);
        x.row(0, 0, 41);
        due("BAD of a row", x.status(), 2);
        x.set(8, 0, 0);
        due("BAD of a set", x.status(), 2);
        x.copy(8, 0, 0, 0, 0);
        due("BAD of a copy", x.status(), 2);
        x.drop(-1);
        due("BAD of a drop", x.status(), 2);
        x.beach(8, 0, 0, 0);
        x.beach(0, 0, 17, 0);
        x.beach(0, 0, 0, 10);
        due("BAD of a beach", x.status(), 2);
        x.as(6, 0);
        x.as(0, 6);
        due("BAD of an as", x.status(), 2);
        x.set(0, 1, 77);
        x.set(0, 3, 0);
        x.beach(0, 1, 1, 1);
        due("BAD of an item that is no sheet", x.status(), 2);
        x.set(0, 0, 0);
        x.beach(0, 1, 1, 1);
        due("BAD of an item that is no sheet, after none", x.status(), 0);
    }

    private static void statusOfOtherCalls() {
        TopSheet x = officeOf(SIX_BILLS);
        x.as(0, 5);
        write(x, SIX_BILLS);
        x.office();
        x.office();
        x.fault();
        x.lift(0);
        x.lay(0, 0);
        x.blank(0);
        x.quarter(1);
        x.undo();
        x.sheet(0, 0);
        x.desk(0, 0);
        x.taken(1, 0);
        x.mean(1, 0);
        x.order(0, 1, -1);
        x.cover(0, 1);
        x.lend(0, 0);
        x.window();
        x.missed(0);
        x.image(0);
        x.restore(0);
        x.kind(0);
        x.ask(0, 0);
        x.trace(0);
        x.count(0);
        due("status once", x.status(), 3);
        due("status twice", x.status(), 3);
    }
}
