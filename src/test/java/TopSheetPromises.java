/** Promise by promise: ordinary inputs, the edges that the document names, and wrong inputs. */
public final class TopSheetPromises extends Check {
    /** Desk 0: 0 a bill of 5, 1 a will of 7, 2 a warrant of 3; desk 1: 3 a slate of 1, 4 a blank of 2. */
    private static final String TWO_DESKS = ALWAYS + "desk 5 1;desk 3 0;sheet bill 0 5 0;"
        + "sheet will 0 7 1;sheet warrant 0 3 12;sheet slate 1 1 2;sheet blank 1 2 3;";

    public static void main(String[] args) {
        newObject();
        rowPromise();
        setPromise();
        copyPromise();
        dropPromise();
        feedPromise();
        officeWords();
        officeNumbers();
        officeTooMany();
        officeState();
        faultPromise();
        liftPromise();
        layPromise();
        blankPromise();
        quarterPromise();
        undoPromise();
        undoLimit();
        sheetPromise();
        deskPromise();
        takenPromise();
        meanPromise();
        orderPromise();
        coverPromise();
        lendPromise();
        beachPromise();
        beachRefusals();
        windowPromise();
        missedPromise();
        imagePromise();
        restorePromise();
        kindAndAsPromise();
        askPromise();
        tracePromise();
        countPromise();
        statusPromise();
        end("all promises hold");
    }

    private static void newObject() {
        TopSheet x = new TopSheet();
        for (int what = 0; what <= 6; what++) {
            due("new count(" + what + ")", x.count(what), 0);
        }
        due("NONE", TopSheet.NONE, NONE);
        due("BAD", TopSheet.BAD, BAD);
        due("STATE", TopSheet.STATE, STATE);
        due("FULL", TopSheet.FULL, FULL);
        due("new fault", x.fault(), 0);
        due("new status", x.status(), 0);
        due("new undo", x.undo(), STATE);
        due("new window", x.window(), STATE);
        due("new taken, bad too", x.taken(-1, 9), STATE);
        due("new mean, bad too", x.mean(-1, 9), STATE);
        due("new missed, bad too", x.missed(9), STATE);
        due("new quarter, bad too", x.quarter(0), STATE);
        due("new beach, bad too", x.beach(-1, -1, -1, -1), STATE);
        due("new image", x.image(0), STATE);
        due("new restore", x.restore(1), STATE);
        due("new lift", x.lift(0), BAD);
        due("new lay", x.lay(0, 0), BAD);
        due("new blank", x.blank(0), BAD);
        due("new sheet", x.sheet(0, 0), BAD);
        due("new desk", x.desk(0, 0), BAD);
        due("new order", x.order(0, 0, -1), BAD);
        due("new cover", x.cover(0, 0), BAD);
        due("new lend", x.lend(0, 1), BAD);
        due("new kind", x.kind(0), BAD);
        due("new as", x.as(0, 0), BAD);
        due("new ask", x.ask(0, 0), BAD);
        due("new trace", x.trace(0), NONE);
    }

    private static void rowPromise() {
        TopSheet x = new TopSheet();
        due("row(0,0,0)", x.row(0, 0, 0), 0);
        due("row(7,2,40)", x.row(7, 2, 40), 40);
        due("row 8", x.row(8, 0, 1), BAD);
        due("row -1", x.row(-1, 0, 1), BAD);
        due("lane 3", x.row(0, 3, 1), BAD);
        due("lane -1", x.row(0, -1, 1), BAD);
        due("41 items", x.row(0, 0, 41), BAD);
        due("-1 items", x.row(0, 0, -1), NO_SIZE);
        due("least items", x.row(0, 0, MIN), NO_SIZE);
        due("bad ahead of size", x.row(8, 0, -1), BAD);
        due("bad lane ahead of size", x.row(0, 3, -1), BAD);
        due("count of rows", x.count(0), 2);
        x.set(7, 3, 9);
        due("a new row in its place", x.row(7, 2, 5), 5);
        due("its items are 0", x.copy(7, 3, 7, 0, 1), 1);
        due("a found row stays", x.row(7, 2, -1), NO_SIZE);
        due("it has its items", x.set(7, 4, 1), 1);
        due("and no more", x.set(7, 5, 1), NO_PLACE);
        due("no items, no place", x.set(0, 0, 1), NO_PLACE);
        TopSheet y = officeOf(ALWAYS + "desk 9 0;sheet bill 0 1 0;");
        due("row", y.row(0, 0, 40), 40);
        due("its first item is 0", y.beach(0, 0, 1, 1), 1);
        due("its last item is 0", y.beach(0, 39, 1, 1), 1);
        y.set(0, 0, 7);
        y.set(0, 39, 7);
        due("a row anew", y.row(0, 2, 40), 40);
        due("its first item is 0 anew", y.beach(0, 0, 1, 1), 1);
        due("its last item is 0 anew", y.beach(0, 39, 1, 1), 1);
    }

    private static void setPromise() {
        TopSheet x = new TopSheet();
        x.row(0, 0, 3);
        x.row(1, 1, 3);
        x.row(2, 2, 3);
        due("byte 127", x.set(0, 0, 127), 127);
        due("byte 128", x.set(0, 0, 128), -128);
        due("byte 511", x.set(0, 0, 511), -1);
        due("byte 256", x.set(0, 2, 256), 0);
        due("short 32767", x.set(1, 0, 32767), 32767);
        due("short 32768", x.set(1, 0, 32768), -32768);
        due("short 65536", x.set(1, 0, 65536 + 7), 7);
        due("int", x.set(2, 2, MIN), MIN);
        due("place 3", x.set(0, 3, 0), NO_PLACE);
        due("place -1", x.set(0, -1, 0), NO_PLACE);
        due("place MAX", x.set(0, MAX, 0), NO_PLACE);
        due("missing", x.set(3, 0, 0), NO_ROW);
        due("missing ahead of place", x.set(3, -1, 0), NO_ROW);
        due("row 8", x.set(8, 0, 0), BAD);
        due("row -1", x.set(-1, 0, 0), BAD);
    }

    /** What a row holds is seen by a beach: only sheets fit, in their order. */
    private static void copyPromise() {
        TopSheet x = officeOf(ALWAYS + "desk 9 0;sheet bill 0 1 0;sheet bill 0 1 0;sheet bill 0 1 0;");
        x.row(0, 2, 4);
        x.set(0, 0, 2);
        x.set(0, 1, 1);
        due("n 0 at the end", x.copy(0, 4, 0, 4, 0), 0);
        due("onto itself, one further", x.copy(0, 0, 0, 1, 3), 3);
        due("2 2 1 0", x.beach(0, 1, 3, 3), 1);
        due("onto itself, one back", x.copy(0, 1, 0, 0, 3), 3);
        due("2 1 0 0", x.beach(0, 0, 3, 3), 1);
        x.row(1, 2, 3);
        due("to another row", x.copy(0, 0, 1, 0, 3), 3);
        due("2 1 0 there", x.beach(1, 0, 3, 3), 1);
        x.row(2, 1, 3);
        due("two lanes", x.copy(0, 0, 2, 0, 1), NO_STORE);
        due("two lanes, of none", x.copy(0, 0, 2, 0, 0), NO_STORE);
        due("lanes ahead of places", x.copy(0, -1, 2, 0, 1), NO_STORE);
        due("missing ahead of lanes", x.copy(0, 0, 3, 0, 1), NO_ROW);
        due("missing the other way", x.copy(3, 0, 0, 0, 1), NO_ROW);
        due("i below 0", x.copy(0, -1, 1, 0, 1), NO_PLACE);
        due("j below 0", x.copy(0, 0, 1, -1, 1), NO_PLACE);
        due("n below 0", x.copy(0, 0, 1, 0, -1), NO_PLACE);
        due("beyond the end of a", x.copy(1, 1, 0, 0, 3), NO_PLACE);
        due("beyond the end of b", x.copy(0, 0, 1, 1, 3), NO_PLACE);
        due("none, beyond the end of a", x.copy(1, 4, 0, 0, 0), NO_PLACE);
        due("none, beyond the end of b", x.copy(0, 0, 1, 4, 0), NO_PLACE);
        due("far beyond", x.copy(0, MAX, 1, 0, MAX), NO_PLACE);
        due("far beyond b", x.copy(0, 0, 1, MAX, 2), NO_PLACE);
        due("row 8", x.copy(8, 0, 0, 0, 0), BAD);
        due("row -1", x.copy(0, 0, -1, 0, 0), BAD);
        due("bad ahead of missing", x.copy(3, 0, 8, 0, 0), BAD);
        due("what was found changed nothing", x.beach(1, 0, 3, 3), 1);
    }

    private static void dropPromise() {
        TopSheet x = new TopSheet();
        x.row(4, 1, 17);
        due("drop", x.drop(4), 17);
        due("drop anew", x.drop(4), NO_ROW);
        due("dropped", x.set(4, 0, 0), NO_ROW);
        due("count", x.count(0), 0);
        x.row(4, 1, 0);
        due("count", x.count(0), 1);
        due("drop of an empty one", x.drop(4), 0);
        due("drop 8", x.drop(8), BAD);
        due("drop -1", x.drop(-1), BAD);
    }

    private static void feedPromise() {
        TopSheet x = new TopSheet();
        due("feed 0", x.feed(0L, 0), BAD);
        due("feed 9", x.feed(0L, 9), BAD);
        due("feed -1", x.feed(0L, -1), BAD);
        for (int i = 1; i <= 61; i++) {
            due("feed 8", x.feed(0x2020202020202020L, 8), i * 8);
        }
        due("feed 7", x.feed(0x2020202020202020L, 7), 495);
        due("feed 6, no room", x.feed(0L, 6), FULL);
        due("bad ahead of full", x.feed(0L, 9), BAD);
        due("feed 5", x.feed(0x2020202020L, 5), 500);
        due("feed 1, no room", x.feed(0L, 1), FULL);
        due("count", x.count(6), 500);
        due("all blanks", x.office(), -1000100 - 500);
        due("empty", x.count(6), 0);
        TopSheet y = new TopSheet();
        y.feed(0x78787777696E64L, 5);
        due("only the lowest bytes, highest first", y.office(), -1000100);
        y.feed(0x787877696E64L, 4);
        due("a good word", y.office(), -1000104);
    }

    private static void officeWords() {
        desksOf(NEVER + "desk 1 0;", 1);
        desksOf(" \n wind\n0 0 0 0 0 0 0 0 0 0 0 0 ; desk 1 0\n;\n", 1);
        desksOf("wind000 00 0 0 0 0 0 0 0 0 0 0;desk1 0;desk 2 3;sheet bill1 0 0;sheet will0 0 0;", 2);
        faultOf("", 0, 1);
        faultOf("  \n", 3, 1);
        faultOf("desk", 0, 1);
        faultOf("winds", 0, 1);
        faultOf("winda", 0, 1);
        faultOf("windz", 0, 1);
        faultOf("wind`", 4, 1);
        faultOf("wind{", 4, 1);
        faultOf("wind/", 4, 1);
        faultOf("wind:", 4, 1);
        faultOf("Wind", 0, 1);
        faultOf("wind", 4, 1);
        faultOf("wind;", 4, 1);
        faultOf("wind,", 4, 1);
        faultOf("wind\t0", 4, 1);
        faultOf("wind " + (char) 255, 5, 1);
        faultOf("wind 0 0 0 0 0 0 0 0 0 0 0;", 26, 1);
        faultOf("wind 0 0 0 0 0 0 0 0 0 0 0 0 0;", 29, 1);
        faultOf(NEVER, 29, 1);
        faultOf(NEVER + "sheet bill 0 0 0;", 29, 1);
        faultOf(NEVER + "desk 1;", 35, 1);
        faultOf(NEVER + "desk 1 0", 37, 1);
        faultOf(NEVER + "desk 1 0;wind", 38, 1);
        faultOf(NEVER + "desk 1 0;;", 38, 1);
        faultOf(NEVER + "desk 1 0;desks", 38, 1);
        faultOf(NEVER + "desk 1 0;sheet bill 0 0 0;desk 1 0;", 55, 1);
        faultOf(NEVER + "desk 1 0;sheet;", 43, 1);
        faultOf(NEVER + "desk 1 0;sheet sheet 0 0 0;", 44, 1);
        faultOf(NEVER + "desk 1 0;sheet 0 0 0;", 44, 1);
        faultOf(NEVER + "desk 1 0;sheet bills 0 0 0;", 44, 1);
        faultOf(NEVER + "desk 1 0;sheet bill will 0 0;", 49, 1);
        faultOf(NEVER + "desk 1 0;sheet bill 0 0;", 52, 1);
        faultOf(NEVER + "desk 1 0;sheet bill 0 0 0  ", 56, 1);
        faultOf(NEVER + "desk 1 0;sheet bill 0 0 0 0;", 55, 1);
    }

    private static void officeNumbers() {
        faultOf("wind 101;", 5, 2);
        faultOf("wind 999", 5, 2);
        faultOf("wind 1000", 5, 1);
        faultOf("wind 0000", 5, 1);
        faultOf("wind 0 0 99999999999999999999;", 9, 1);
        faultOf("wind 5 0 0 101 1000", 11, 2);
        faultOf(NEVER + "desk 0 0;", 34, 2);
        faultOf(NEVER + "desk 10 9;", 34, 2);
        faultOf(NEVER + "desk 9 4;", 36, 2);
        faultOf(NEVER + "desk 9 3;sheet bill 1 0 0;", 49, 2);
        faultOf(NEVER + "desk 9 3;sheet bill 0 100 13;", 51, 2);
        faultOf(NEVER + "desk 9 3;sheet bill 0 99 13;", 54, 2);
        faultOf(NEVER + "desk 1 3;sheet bill 0 99 12;sheet bill 0 1 1;", 68, 2);
        faultOf(NEVER + "desk 1 3;sheet bill 0 99 12;sheet bill 0000", 68, 1);
        desksOf(NEVER + "desk 9 3;sheet bill 0 99 12;", 1);
        desksOf("wind 100 100 100 100 100 100 100 100 100 100 100 100;desk 1 0;", 1);
    }

    private static void officeTooMany() {
        String four = NEVER + "desk 9 0;desk 9 0;desk 9 0;desk 9 0;";
        desksOf(four, 4);
        faultOf(four + "desk 9 0;", 65, 3);
        faultOf(four + "desk", 65, 3);
        faultOf(four + "sheet bill 0 0 0;desk 9 0;", 82, 1);
        String twelve = four;
        for (int i = 0; i < 12; i++) {
            twelve += "sheet bill " + i / 3 + " 0 0;";
        }
        desksOf(twelve, 4);
        faultOf(twelve + "\n sheet", 65 + 12 * 17 + 2, 3);
        faultOf(twelve + "desk", 65 + 12 * 17, 1);
    }

    private static void officeState() {
        TopSheet x = officeOf(TWO_DESKS);
        x.row(2, 0, 7);
        x.quarter(1);
        x.lift(0);
        x.image(1);
        write(x, "wind 0;");
        due("a fault", x.office(), -1000106);
        due("the office stays", x.count(2), 5);
        due("the quarter stays", x.count(3), 1);
        due("what is gone stays", x.count(5), 2);
        due("the acts stay", x.count(4), 2);
        write(x, TWO_DESKS);
        due("read anew", x.office(), 2);
        due("quarter 0", x.count(3), 0);
        due("nothing is gone", x.count(5), 0);
        due("no act", x.count(4), 0);
        due("nothing to undo", x.undo(), STATE);
        due("rows stay", x.count(0), 1);
        for (int s = 0; s < 5; s++) {
            due("not met", x.sheet(s, 4), 0);
        }
        due("images stay", x.restore(1), 1);
        due("the quarter of the image", x.count(3), 1);
        write(x, NEVER + "desk 1 0;");
        due("a smaller one", x.office(), 1);
        due("its sheets", x.count(2), 0);
        due("no such sheet", x.sheet(0, 0), BAD);
        due("no such desk", x.desk(1, 0), BAD);
        due("it is empty", x.desk(0, 2), 0);
    }

    private static void faultPromise() {
        TopSheet x = new TopSheet();
        due("no fault", x.fault(), 0);
        write(x, "wind 101");
        x.office();
        due("fault", x.fault(), 2);
        write(x, NEVER + "desk 1 0;");
        due("office", x.office(), 1);
        due("the latest stays", x.fault(), 2);
        x.office();
        due("the latest", x.fault(), 1);
    }

    private static void liftPromise() {
        TopSheet x = officeOf(TWO_DESKS);
        due("lift the lowest", x.lift(0), 2);
        due("from below 1", x.desk(0, 10), 1);
        due("from below 2", x.desk(0, 11), 2);
        due("from below 0", x.desk(0, 12), 0);
        due("met at its quarter", x.sheet(0, 4), 1);
        due("lift the middle", x.lift(2), 1);
        due("need 12 is met, too", x.sheet(2, 4), 1);
        due("lift the uppermost", x.lift(2), 0);
        due("three acts", x.count(4), 3);
        due("how many lie", x.desk(0, 2), 3);
        x.quarter(1);
        due("gone", x.lift(2), STATE);
        due("no act of it", x.count(4), 4);
        x.quarter(1);
        due("in quarter 2, need 1", x.lift(1), 0);
        due("too late", x.sheet(1, 4), 0);
        due("in quarter 2, need 2", x.lift(3), 0);
        due("in time", x.sheet(3, 4), 1);
        due("sheet -1", x.lift(-1), BAD);
        due("sheet 5", x.lift(5), BAD);
        TopSheet y = officeOf(NEVER + "desk 9 0;sheet bill 0 1 12;sheet bill 0 1 11;");
        for (int i = 0; i < 12; i++) {
            y.quarter(1);
        }
        y.lift(0);
        y.lift(1);
        due("need 12 in quarter 12", y.sheet(0, 4), 1);
        due("need 11 in quarter 12", y.sheet(1, 4), 0);
        TopSheet z = officeOf(NEVER + "desk 9 0;sheet bill 0 1 0;");
        z.lift(0);
        z.quarter(1);
        z.lift(0);
        due("once met, it stays", z.sheet(0, 4), 1);
    }

    private static void layPromise() {
        TopSheet x = officeOf(TWO_DESKS);
        due("lay", x.lay(0, 1), 3);
        due("uppermost there", x.desk(1, 12), 0);
        due("the others fall", x.desk(0, 10), 1);
        due("one less", x.desk(0, 2), 2);
        due("its need is not met", x.sheet(0, 4), 0);
        due("an act", x.count(4), 1);
        due("no room", x.lay(1, 1), FULL);
        due("lies there", x.lay(0, 1), STATE);
        due("lies there, ahead of full", x.lay(3, 1), STATE);
        x.quarter(1);
        due("gone", x.lay(2, 0), STATE);
        due("gone, ahead of full", x.lay(0, 1), STATE);
        due("sheet 5", x.lay(5, 0), BAD);
        due("sheet -1", x.lay(-1, 0), BAD);
        due("desk 2", x.lay(1, 2), BAD);
        due("desk -1", x.lay(1, -1), BAD);
        due("refused: no act", x.count(4), 2);
        due("back", x.lay(3, 0), 2);
        due("the lowest of the other", x.desk(1, 10), 4);
    }

    private static void blankPromise() {
        TopSheet x = officeOf(TWO_DESKS);
        due("blank", x.blank(0), 5);
        due("worth", x.sheet(5, 0), 0);
        due("need", x.sheet(5, 1), 12);
        due("desk", x.sheet(5, 2), 0);
        due("above", x.sheet(5, 3), 0);
        due("not met", x.sheet(5, 4), 0);
        due("kind", x.kind(5), 4);
        due("sheets", x.count(2), 6);
        due("another", x.blank(1), 6);
        due("no room", x.blank(1), FULL);
        due("desk 2", x.blank(2), BAD);
        due("desk -1", x.blank(-1), BAD);
        due("two acts", x.count(4), 2);
        TopSheet y = officeOf(ALWAYS + "desk 1 0;");
        for (int i = 0; i < 12; i++) {
            due("blank", y.blank(0), i);
            y.quarter(1);
        }
        TopSheet z = officeOf(ALWAYS + "desk 9 0;desk 9 0;");
        for (int i = 0; i < 16; i++) {
            due("blank", z.blank(i / 8), i);
        }
        due("16 sheets", z.blank(0), FULL);
        z.quarter(1);
        due("16 sheets, of these some gone", z.blank(0), FULL);
        due("all of 16", z.count(2), 16);
        due("undo the quarter", z.undo(), 15 + 1);
        due("undo the blank", z.undo(), 15);
        due("15 sheets", z.count(2), 15);
        due("a blank anew", z.blank(0), 15);
        due("laid where it says", z.sheet(15, 2), 0);
    }

    private static void quarterPromise() {
        TopSheet x = officeOf(TWO_DESKS);
        due("a gust", x.quarter(1), 1 << 2 | 1 << 4);
        due("the quarter", x.count(3), 1);
        due("a gust, a slate stays", x.quarter(999999), 1 << 1);
        due("stones keep the last", x.quarter(5), 0);
        due("seed 0", x.quarter(0), BAD);
        due("seed 1000000", x.quarter(1000000), BAD);
        due("seed MIN", x.quarter(MIN), BAD);
        due("the quarter stays", x.count(3), 3);
        for (int i = 3; i < 12; i++) {
            due("a quarter", x.quarter(7), 0);
        }
        due("quarter 12", x.quarter(7), STATE);
        due("bad in quarter 12", x.quarter(0), BAD);
        due("twelve acts", x.count(4), 12);
        // 1 * 16807 leaves 7 by 100; 999999 * 16807 = 16806983193, less 7 times 2147483647 is 1774597664.
        due("7 is not below 7", oneQuarter(7, 1), 0);
        due("7 is below 8", oneQuarter(8, 1), 1);
        due("64 is not below 64", oneQuarter(64, 999999), 0);
        due("64 is below 65", oneQuarter(65, 999999), 1);
        due("no wind", oneQuarter(0, 1), 0);
        TopSheet y = officeOf("wind 0 100 0 0 0 0 0 0 0 0 0 0;desk 1 0;sheet bill 0 1 12;");
        due("wind of quarter 0", y.quarter(3), 0);
        due("wind of quarter 1", y.quarter(3), 1);
    }

    private static int oneQuarter(int wind, int seed) {
        return officeOf("wind " + wind + " 0 0 0 0 0 0 0 0 0 0 0;desk 1 0;sheet bill 0 1 12;").quarter(seed);
    }

    private static void undoPromise() {
        TopSheet x = officeOf(TWO_DESKS);
        x.lift(0);
        x.lay(1, 1);
        x.blank(0);
        x.quarter(1);
        due("undo the quarter", x.undo(), 3);
        due("quarter 0", x.count(3), 0);
        due("nothing gone", x.count(5), 0);
        due("undo the blank", x.undo(), 2);
        due("five sheets", x.count(2), 5);
        due("no such sheet", x.sheet(5, 0), BAD);
        due("undo the laying", x.undo(), 1);
        due("as it lay", x.desk(0, 10), 1);
        due("the other desk", x.desk(1, 2), 2);
        due("met yet", x.sheet(0, 4), 1);
        due("undo the lifting", x.undo(), 0);
        due("at its place", x.desk(0, 10), 0);
        due("not met", x.sheet(0, 4), 0);
        due("none", x.undo(), STATE);
        x.lift(2);
        due("of which nothing becomes another", x.count(4), 1);
        due("undone, too", x.undo(), 0);
    }

    private static void undoLimit() {
        TopSheet x = officeOf(TWO_DESKS);
        x.lay(2, 1);
        for (int i = 0; i < 24; i++) {
            x.lift(i % 2);
        }
        due("24 are kept", x.count(4), 24);
        for (int left = 23; left >= 0; left--) {
            due("undo", x.undo(), left);
            due("the uppermost", x.desk(0, 11), left == 0 ? 1 : (left - 1) % 2);
        }
        due("the oldest is forgotten", x.undo(), STATE);
        due("it stands", x.sheet(2, 2), 1);
        for (int i = 0; i < 30; i++) {
            x.lift(i % 2);
        }
        for (int left = 23; left >= 0; left--) {
            due("undo after more", x.undo(), left);
        }
        due("six are forgotten", x.desk(0, 11), 1);
    }

    private static void sheetPromise() {
        TopSheet x = officeOf(TWO_DESKS);
        int[] worth = {5, 7, 3, 1, 2};
        int[] need = {0, 1, 12, 2, 3};
        int[] desk = {0, 0, 0, 1, 1};
        int[] above = {2, 1, 0, 1, 0};
        for (int s = 0; s < 5; s++) {
            due("worth", x.sheet(s, 0), worth[s]);
            due("need", x.sheet(s, 1), need[s]);
            due("desk", x.sheet(s, 2), desk[s]);
            due("above", x.sheet(s, 3), above[s]);
            due("met", x.sheet(s, 4), 0);
            due("missed", x.sheet(s, 5), 0);
            due("what 6", x.sheet(s, 6), BAD);
            due("what -1", x.sheet(s, -1), BAD);
        }
        due("sheet 5", x.sheet(5, 0), BAD);
        due("sheet -1", x.sheet(-1, 0), BAD);
        x.lift(0);
        x.quarter(1);
        due("gone: desk", x.sheet(0, 2), NONE);
        due("gone: above", x.sheet(0, 3), NONE);
        due("gone: worth", x.sheet(0, 0), 5);
        due("gone, met", x.sheet(0, 4), 1);
        due("met, so not missed", x.sheet(0, 5), 0);
        due("gone ahead of its need: missed", x.sheet(4, 5), 1);
        x.quarter(1);
        due("need 12 is never missed", x.sheet(2, 5), 0);
        due("late: missed", x.sheet(1, 5), 1);
        due("in its quarter: not missed", x.sheet(3, 5), 0);
    }

    private static void deskPromise() {
        TopSheet x = officeOf(TWO_DESKS);
        due("room", x.desk(0, 0), 5);
        due("room", x.desk(1, 0), 3);
        due("stones", x.desk(0, 1), 1);
        due("stones", x.desk(1, 1), 0);
        due("sheets", x.desk(0, 2), 3);
        due("lowest", x.desk(1, 10), 3);
        due("above it", x.desk(1, 11), 4);
        due("none", x.desk(1, 12), NONE);
        due("none far", x.desk(1, MAX), NONE);
        due("what 3", x.desk(0, 3), BAD);
        due("what 9", x.desk(0, 9), BAD);
        due("what -1", x.desk(0, -1), BAD);
        due("what MIN", x.desk(0, MIN), BAD);
        due("desk 2", x.desk(2, 0), BAD);
        due("desk -1", x.desk(-1, 10), BAD);
    }

    private static void takenPromise() {
        TopSheet x = officeOf(TWO_DESKS);
        due("0 gusts", x.taken(0, 0), 0);
        due("lost by none", x.taken(0, 1), 0);
        due("1 gust", x.taken(1, 0), 1 << 2 | 1 << 4);
        due("lost by it", x.taken(1, 1), 5);
        due("2 gusts", x.taken(2, 0), 1 << 2 | 1 << 4 | 1 << 1);
        due("lost by 9", x.taken(9, 1), 12);
        due("10 gusts", x.taken(10, 0), BAD);
        due("-1 gusts", x.taken(-1, 0), BAD);
        due("what 2", x.taken(1, 2), BAD);
        due("what -1", x.taken(1, -1), BAD);
        due("nothing changes", x.count(5), 0);
        TopSheet y = officeOf(ALWAYS + "desk 4 3;sheet bill 0 1 0;sheet bill 0 1 0;sheet bill 0 1 0;");
        due("as many as stones", y.taken(9, 0), 0);
        y.blank(0);
        due("one more than stones", y.taken(9, 0), 8);
    }

    private static void meanPromise() {
        TopSheet x = officeOf("wind 50 25 10 0 0 0 0 0 0 0 1 100;desk 9 0;"
            + "sheet bill 0 8 12;sheet bill 0 4 12;sheet bill 0 2 12;");
        due("half of 2", x.mean(1, 0), 1);
        due("by 1", x.mean(1, 1), 1);
        // 3/8 + 1/8 of one gust, 1/8 of two: 2 * 4/8 + 6 * 1/8 = 7/4.
        due("two quarters", x.mean(2, 0), 7);
        due("by 4", x.mean(2, 1), 4);
        // .4875 of one, .1625 of two, .0125 of three: 2 * .4875 + 6 * .1625 + 14 * .0125 = 2.125.
        due("three quarters", x.mean(3, 0), 17);
        due("by 8", x.mean(3, 1), 8);
        due("0 quarters", x.mean(0, 0), BAD);
        due("4 quarters", x.mean(4, 0), BAD);
        due("what 2", x.mean(1, 2), BAD);
        due("what -1", x.mean(1, -1), BAD);
        for (int i = 0; i < 9; i++) {
            x.quarter(2);
        }
        due("3 quarters from 9 on", x.mean(3, 1) > 0 ? 1 : 0, 1);
        x.quarter(2);
        due("3 quarters from 10 on", x.mean(3, 0), BAD);
        due("2 quarters from 10 on", x.mean(2, 1) > 0 ? 1 : 0, 1);
        x.quarter(2);
        due("2 quarters from 11 on", x.mean(2, 0), BAD);
        int top = x.desk(0, 9 + x.desk(0, 2));
        due("surely the uppermost", x.mean(1, 0), x.sheet(top, 0));
        due("by 1", x.mean(1, 1), 1);
        x.quarter(2);
        due("none from 12 on", x.mean(1, 0), BAD);
        TopSheet y = officeOf(NEVER + "desk 9 0;sheet bill 0 8 12;");
        due("0", y.mean(3, 0), 0);
        due("by 1", y.mean(3, 1), 1);
    }

    private static void orderPromise() {
        TopSheet x = officeOf(TWO_DESKS);
        int[] line = {0, 1, 2};
        due("lost by one", x.order(0, 1, -1), 3);
        for (int k = 0; k < 3; k++) {
            due("order", x.order(0, 1, k), line[k]);
        }
        int[] two = {1, 0, 2};
        due("lost by two", x.order(0, 2, -1), 8);
        for (int k = 0; k < 3; k++) {
            due("order", x.order(0, 2, k), two[k]);
        }
        due("a stone keeps one", x.order(0, 9, -1), 8);
        due("of several the first", x.order(0, 0, 0), 0);
        due("a slate keeps all", x.order(1, 9, -1), 0);
        due("it comes uppermost", x.order(1, 1, 1), 3);
        due("not so many", x.order(0, 1, 3), NONE);
        due("far more", x.order(0, 1, MAX), NONE);
        due("k -2", x.order(0, 1, -2), BAD);
        due("n 10", x.order(0, 10, 0), BAD);
        due("n -1", x.order(0, -1, 0), BAD);
        due("desk 2", x.order(2, 1, 0), BAD);
        due("desk -1", x.order(-1, 1, 0), BAD);
        due("bad ahead of none", x.order(0, 10, 9), BAD);
        due("it lies as it did", x.desk(0, 12), 2);
        TopSheet y = officeOf(ALWAYS + "desk 9 0;sheet slate 0 9 12;sheet bill 0 0 12;sheet bill 0 0 12;");
        due("nothing of worth above the slate", y.order(0, 9, 0), 0);
        for (int i = 3; i < 7; i++) {
            y.blank(0);
        }
        due("seven", y.order(0, 9, 6), 6);
        y.blank(0);
        due("eight", y.order(0, 9, -1), NONE);
        due("eight", y.order(0, 9, 0), NONE);
        TopSheet all = officeOf(ALWAYS + "desk 9 0;desk 9 0;sheet bill 0 1 0;"
            + "sheet bill 1 6 0;sheet bill 1 9 0;");
        due("all is lost", all.order(1, 9, -1), 15);
        due("the first by numbers", all.order(1, 9, 0), 1);
        due("the first by numbers", all.order(1, 9, 1), 2);
        TopSheet z = officeOf(ALWAYS + "desk 9 0;");
        due("empty", z.order(0, 9, -1), 0);
        due("empty", z.order(0, 9, 0), NONE);
    }

    private static void coverPromise() {
        TopSheet x = officeOf(TWO_DESKS);
        due("none wanted", x.cover(0, 0), 0);
        due("one", x.cover(0, 1), 1);
        due("two", x.cover(0, 2), 2);
        due("no room for three", x.cover(0, 3), NONE);
        due("one above a slate", x.cover(1, 1), 1);
        due("two above a slate", x.cover(1, 2), NONE);
        due("n 10", x.cover(0, 10), BAD);
        due("n -1", x.cover(0, -1), BAD);
        due("desk 2", x.cover(2, 1), BAD);
        due("desk -1", x.cover(-1, 1), BAD);
        x.lift(3);
        due("a slate uppermost", x.cover(1, 9), 0);
        TopSheet y = officeOf(ALWAYS + "desk 9 2;sheet bill 0 5 0;sheet bill 0 5 0;");
        due("stones keep all", y.cover(0, 9), 0);
        y.blank(0);
        due("a blank above stones", y.cover(0, 9), 0);
        TopSheet z = officeOf(ALWAYS + "desk 9 0;desk 9 0;sheet bill 0 5 0;");
        for (int i = 0; i < 15; i++) {
            z.blank(i < 8 ? 1 : 0);
        }
        due("sixteen sheets", z.count(2), 16);
        due("by room alone", z.cover(0, 8), 1);
        due("no room for two", z.cover(0, 9), NONE);
    }

    private static void lendPromise() {
        TopSheet x = officeOf(TWO_DESKS);
        // Ahead 3 and 2; then the slate on desk 0 and the warrant of 3 on desk 1.
        due("lend", x.lend(0, 1), 5 - 3);
        due("the other way", x.lend(1, 0), 2);
        due("alike", x.lend(0, 0), BAD);
        due("desk 2", x.lend(0, 2), BAD);
        due("desk -1", x.lend(-1, 0), BAD);
        due("nothing moves", x.sheet(3, 2), 1);
        TopSheet y = officeOf(ALWAYS + "desk 9 0;desk 9 1;desk 1 0;sheet slate 0 4 0;sheet bill 0 4 0;"
            + "sheet bill 1 6 0;");
        // The lowest of two of 4 is the slate, the bill of 6 comes on desk 0, the stone keeps desk 1.
        due("the lowest of several; below 0", y.lend(0, 1), 4 - 6);
        TopSheet z = officeOf(ALWAYS + "desk 9 0;desk 9 0;desk 9 1;sheet slate 0 4 0;sheet bill 0 4 0;"
            + "sheet bill 1 6 0;sheet bill 2 9 0;");
        due("the slate is lent, the bill of 6 comes", z.lend(0, 1), 4 + 6 - 6);
        due("a stone keeps what comes", z.lend(1, 2), 6 - 9);
        due("one has none", y.lend(0, 2), NONE);
        due("one has none", y.lend(2, 1), NONE);
    }

    private static void beachPromise() {
        TopSheet x = officeOf(TWO_DESKS);
        x.row(0, 0, 6);
        int[] found = {2, 4, 1, 2, 4, 1};
        for (int i = 0; i < 6; i++) {
            x.set(0, i, found[i]);
        }
        due("one gust", x.beach(0, 0, 2, 1), 1);
        due("in any order", x.beach(0, 3, 2, 1), 1);
        due("two gusts", x.beach(0, 0, 3, 2), 1);
        due("nine gusts", x.beach(0, 3, 3, 9), 1);
        due("not all", x.beach(0, 0, 2, 2), 0);
        due("too many", x.beach(0, 0, 3, 1), 0);
        due("of two gusts in a wrong order", x.beach(0, 1, 3, 2), 0);
        due("none of none", x.beach(0, 6, 0, 0), 1);
        due("none of one", x.beach(0, 0, 0, 1), 0);
        x.set(0, 1, 2);
        due("the same one twice", x.beach(0, 0, 2, 1), 0);
        x.set(0, 0, 4);
        due("the other order", x.beach(0, 0, 2, 1), 1);
        x.quarter(1);
        due("gone already", x.beach(0, 0, 2, 1), 0);
    }

    private static void beachRefusals() {
        TopSheet x = officeOf(TWO_DESKS);
        x.row(0, 0, 20);
        due("row 8", x.beach(8, 0, 0, 0), BAD);
        due("row -1", x.beach(-1, 0, 0, 0), BAD);
        due("m 17", x.beach(0, 0, 17, 0), BAD);
        due("m -1", x.beach(0, 0, -1, 0), BAD);
        due("n 10", x.beach(0, 0, 0, 10), BAD);
        due("n -1", x.beach(0, 0, 0, -1), BAD);
        due("bad ahead of missing", x.beach(1, 0, 0, 10), BAD);
        due("missing", x.beach(1, 0, 0, 0), NO_ROW);
        due("missing ahead of place", x.beach(1, -1, 0, 0), NO_ROW);
        due("i -1", x.beach(0, -1, 0, 0), NO_PLACE);
        due("beyond", x.beach(0, 5, 16, 0), NO_PLACE);
        due("none, beyond", x.beach(0, 21, 0, 0), NO_PLACE);
        due("far beyond", x.beach(0, MAX, 16, 0), NO_PLACE);
        due("up to the end", x.beach(0, 4, 16, 0), 0);
        x.set(0, 19, 5);
        due("an item that is no sheet", x.beach(0, 4, 16, 0), BAD);
        due("it is not asked", x.beach(0, 3, 16, 0), 0);
        x.set(0, 19, -1);
        due("an item below 0", x.beach(0, 4, 16, 0), BAD);
        due("place ahead of it", x.beach(0, 5, 16, 0), NO_PLACE);
    }

    private static void windowPromise() {
        String three = "sheet bill 0 9 0;sheet bill 0 2 0;sheet bill 0 1 0;";
        due("third and first", officeOf(ALWAYS + "desk 9 0;" + three).window(), 10);
        due("one stone", officeOf(ALWAYS + "desk 9 1;" + three).window(), 1);
        due("three stones", officeOf(ALWAYS + "desk 9 3;" + three).window(), 0);
        due("two", officeOf(ALWAYS + "desk 9 0;sheet bill 0 9 0;sheet bill 0 2 0;").window(), 2);
        due("the third a slate", officeOf(ALWAYS
            + "desk 9 0;sheet slate 0 9 0;sheet bill 0 2 0;sheet bill 0 1 0;").window(), 1);
        due("the first a slate", officeOf(ALWAYS
            + "desk 9 0;sheet bill 0 9 0;sheet bill 0 2 0;sheet slate 0 1 0;").window(), 9);
        due("four, one stone", officeOf(ALWAYS + "desk 9 1;sheet bill 0 40 0;" + three).window(), 10);
        due("two desks", officeOf(TWO_DESKS).window(), 5);
        due("none lie", officeOf(ALWAYS + "desk 9 0;").window(), 0);
    }

    private static void missedPromise() {
        TopSheet x = officeOf(TWO_DESKS);
        due("none", x.missed(0), 0);
        due("nothing gone", x.missed(1), 0);
        due("what 2", x.missed(2), BAD);
        due("what -1", x.missed(-1), BAD);
        x.lift(1);
        x.quarter(1);
        due("late 0, gone 4, not gone 1, which is met", x.missed(0), 1 | 1 << 4);
        due("worth of 1 and 4", x.missed(1), 9);
        x.quarter(1);
        x.quarter(1);
        due("late 3", x.missed(0), 1 | 1 << 4 | 1 << 3);
        x.undo();
        due("undone", x.missed(0), 1 | 1 << 4);
        TopSheet y = officeOf(NEVER + "desk 9 0;sheet bill 0 1 11;sheet bill 0 1 12;");
        for (int i = 0; i < 11; i++) {
            y.quarter(1);
        }
        due("in quarter 11", y.missed(0), 0);
        y.quarter(1);
        due("need 11 in quarter 12", y.missed(0), 1);
    }

    private static void imagePromise() {
        TopSheet x = officeOf(TWO_DESKS);
        due("image 2", x.image(2), BAD);
        due("image -1", x.image(-1), BAD);
        due("image 0", x.image(0), 1);
        due("it is no act", x.count(4), 0);
        x.blank(0);
        due("image 1", x.image(1), 1);
        due("acts stay", x.count(4), 1);
        x.lay(0, 1);
        due("image 0 anew", x.restore(0), 1);
        due("five sheets", x.count(2), 5);
        due("restore 1", x.restore(1), 1);
        due("six sheets", x.count(2), 6);
        due("image 0 anew", x.image(0), 1);
        x.quarter(1);
        due("restore 0", x.restore(0), 1);
        due("in place of the older image", x.count(2), 6);
    }

    private static void restorePromise() {
        TopSheet x = officeOf(TWO_DESKS);
        due("none kept", x.restore(0), STATE);
        due("restore 2", x.restore(2), BAD);
        due("restore -1", x.restore(-1), BAD);
        x.lift(0);
        x.image(0);
        x.quarter(1);
        x.lift(3);
        due("restore", x.restore(0), 1);
        due("quarter", x.count(3), 0);
        due("met", x.sheet(0, 4), 1);
        due("not met", x.sheet(3, 4), 0);
        due("uppermost", x.desk(0, 12), 0);
        due("nothing gone", x.count(5), 0);
        due("no act", x.count(4), 0);
        due("no undo", x.undo(), STATE);
        due("the other", x.restore(1), STATE);
        write(x, NEVER + "desk 1 0;");
        x.office();
        due("after another office", x.restore(0), 1);
        due("its desks", x.count(1), 2);
        due("its wind", x.quarter(1), 1 | 1 << 4);
        due("an image is kept on", x.restore(0), 1);
        due("as it was", x.count(5), 0);
    }

    private static void kindAndAsPromise() {
        TopSheet x = officeOf(TWO_DESKS);
        int[] kinds = {1, 3, 2, 5, 4};
        int[] takenAs = {0b000011, 0b001111, 0b000111, 0b100001, 0b010011};
        for (int s = 0; s < 5; s++) {
            due("kind", x.kind(s), kinds[s]);
            for (int k = 0; k < 6; k++) {
                due("as(" + s + "," + k + ")", x.as(s, k), (takenAs[s] >> k & 1) != 0 ? s : NO_KIND);
            }
            due("kind 6", x.as(s, 6), BAD);
            due("kind -1", x.as(s, -1), BAD);
        }
        due("sheet 5", x.kind(5), BAD);
        due("sheet -1", x.kind(-1), BAD);
        due("sheet 5", x.as(5, 0), BAD);
        due("sheet -1", x.as(-1, 0), BAD);
        x.quarter(1);
        due("gone", x.kind(2), 2);
        due("gone", x.as(2, 2), 2);
    }

    private static void askPromise() {
        TopSheet x = officeOf(TWO_DESKS);
        // Marks: bill 0 + 0; will 2 * (1 + 1 - 1000); warrant 2 + 12 - 1000; slate 3 - size; blank 4 + 3.
        int[] mark = {0, -1996, -986, 102, 7};
        int[] size = {5, 1989, -983, -99, 18};
        for (int s = 0; s < 5; s++) {
            due("size of " + s, x.ask(s, 0), size[s]);
            due("mark of " + s, x.ask(s, 1), mark[s]);
            due("what 2", x.ask(s, 2), BAD);
            due("what -1", x.ask(s, -1), BAD);
        }
        due("sheet 5", x.ask(5, 0), BAD);
        due("sheet -1", x.ask(-1, 1), BAD);
        x.quarter(1);
        due("gone", x.ask(2, 0), -983);
        x.blank(0);
        due("a blank laid", x.ask(5, 0), 2 * (0 + 5 + 12));
    }

    private static void traceOf(TopSheet x, int sheet, int what, int... bodies) {
        x.ask(sheet, what);
        for (int i = 0; i < bodies.length; i++) {
            due("trace " + i + " of ask " + sheet + " " + what, x.trace(i), bodies[i]);
        }
        due("end of trace of ask " + sheet + " " + what, x.trace(bodies.length), NONE);
    }

    private static void tracePromise() {
        TopSheet x = officeOf(TWO_DESKS);
        traceOf(x, 0, 0, 11, 10, 21, 20);
        traceOf(x, 0, 1, 21, 20);
        traceOf(x, 1, 0, 12, 11, 10, 24, 22, 21, 20);
        traceOf(x, 1, 1, 24, 22, 21, 20);
        traceOf(x, 2, 0, 11, 10, 22, 21, 20);
        traceOf(x, 2, 1, 22, 21, 20);
        traceOf(x, 3, 0, 13, 10);
        traceOf(x, 3, 1, 23, 20, 13, 10);
        traceOf(x, 4, 0, 14, 11, 10, 21, 20);
        traceOf(x, 4, 1, 21, 20);
        x.ask(4, 2);
        x.ask(5, 0);
        due("refused: it stays", x.trace(0), 21);
        due("and its end", x.trace(2), NONE);
        due("trace -1", x.trace(-1), NONE);
        due("trace 16", x.trace(16), NONE);
        due("trace MAX", x.trace(MAX), NONE);
        due("trace MIN", x.trace(MIN), NONE);
    }

    private static void countPromise() {
        TopSheet x = officeOf(TWO_DESKS);
        x.row(0, 0, 0);
        x.row(7, 2, 4);
        x.quarter(1);
        x.lift(0);
        x.blank(1);
        x.feed(0L, 3);
        int[] want = {2, 2, 6, 1, 3, 2, 3};
        for (int what = 0; what < 7; what++) {
            due("count(" + what + ")", x.count(what), want[what]);
        }
        due("count(7)", x.count(7), BAD);
        due("count(-1)", x.count(-1), BAD);
    }

    private static void statusPromise() {
        TopSheet x = new TopSheet();
        x.row(0, 0, -1);
        due("size", x.status(), 4);
        x.row(8, 0, 0);
        due("bad changes nothing", x.status(), 4);
        x.beach(0, 0, 0, 0);
        due("state changes nothing", x.status(), 4);
        x.row(0, 0, 2);
        due("none", x.status(), 0);
        x.set(0, 2, 0);
        due("place", x.status(), 2);
        x.set(0, 1, 0);
        due("none", x.status(), 0);
        x.drop(1);
        due("null", x.status(), 1);
        x.copy(0, 0, 0, 1, 1);
        due("none", x.status(), 0);
        x.row(1, 1, 2);
        x.copy(0, 0, 1, 0, 1);
        due("store", x.status(), 5);
        x.drop(1);
        due("none", x.status(), 0);
        write(x, TWO_DESKS);
        x.office();
        x.as(0, 5);
        due("kind", x.status(), 3);
        x.as(9, 0);
        x.ask(0, 0);
        x.lift(0);
        x.count(0);
        x.trace(0);
        due("other calls change nothing", x.status(), 3);
        x.as(0, 0);
        due("none", x.status(), 0);
        x.beach(1, 0, 0, 0);
        due("null", x.status(), 1);
        x.set(0, 0, 99);
        x.beach(0, 3, 0, 0);
        due("place", x.status(), 2);
        x.beach(0, 0, 1, 1);
        due("an item that is no sheet changes nothing", x.status(), 2);
        x.beach(0, 0, 0, 1);
        due("none, though it does not fit", x.status(), 0);
    }
}
