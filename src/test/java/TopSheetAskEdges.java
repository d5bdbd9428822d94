/** The boundaries of KINDS and ASKS (sections 3, 4; promises 26 to 29): a test for each sentence. */
public final class TopSheetAskEdges extends Check {
    private static final int SHEET = 0, PAPER = 1, WARRANT = 2, WILL = 3, BLANK = 4, SLATE = 5;
    private static final int[] NO_SUCH_SHEET = {-1, 6, 16, 32, MIN, MAX};
    /** The numbers 1 to 5 are of their own KIND, 0 is a bill, too. */
    private static final String EACH = ALWAYS + "desk 9 0;sheet bill 0 10 3;sheet bill 0 20 4;sheet warrant 0 30 5;"
        + "sheet will 0 40 6;sheet blank 0 50 7;sheet slate 0 60 8;";

    public static void main(String[] args) {
        kindsAre1To5();
        kindOfNoSheet();
        takenAsItsKinds();
        asKinds0To5();
        asInItsOrder();
        sizesOfEachKind();
        marksOfEachKind();
        asksAreDoneAnew();
        asksAtTheEnds();
        askRefused();
        traceOfEachKind();
        traceIsEmptyAhead();
        traceStaysWhereRefused();
        traceBesideItsNumbers();
        askedOfTheGone();
        end("the edges of asks hold");
    }

    // kind: the KIND of a SHEET, as told (1 to 5). BAD

    private static void kindsAre1To5() {
        TopSheet x = officeOf(EACH);
        for (int s = 1; s <= 5; s++) {
            due("kind(" + s + ")", x.kind(s), s);
        }
        due("kind(0)", x.kind(0), PAPER);
        due("a blank laid", x.kind(x.blank(0)), BLANK);
    }

    private static void kindOfNoSheet() {
        TopSheet x = officeOf(EACH);
        for (int s : NO_SUCH_SHEET) {
            due("kind(" + s + ")", x.kind(s), BAD);
            due("as(" + s + ",0)", x.as(s, 0), BAD);
            due("ask(" + s + ",0)", x.ask(s, 0), BAD);
            due("ask(" + s + ",1)", x.ask(s, 1), BAD);
        }
        due("no office", new TopSheet().kind(0), BAD);
        due("no office", new TopSheet().as(0, 0), BAD);
        due("no office", new TopSheet().ask(0, 0), BAD);
        due("sheet 6 once it is there", x.blank(0), 6);
        due("kind(6)", x.kind(6), BLANK);
    }

    // 0 SHEET; 1 PAPER, a SHEET; 2 WARRANT, a PAPER; 3 WILL, a WARRANT; 4 BLANK, a PAPER; 5 SLATE, a SHEET

    private static void takenAsItsKinds() {
        TopSheet x = officeOf(EACH);
        int[][] is = {{}, {SHEET, PAPER}, {SHEET, PAPER, WARRANT}, {SHEET, PAPER, WARRANT, WILL},
            {SHEET, PAPER, BLANK}, {SHEET, SLATE}};
        for (int s = 1; s <= 5; s++) {
            for (int kind = SHEET; kind <= SLATE; kind++) {
                boolean isOne = false;
                for (int k : is[s]) {
                    isOne |= k == kind;
                }
                due("as(" + s + "," + kind + ")", x.as(s, kind), isOne ? s : NO_KIND);
                due("status", x.status(), isOne ? 0 : 3);
            }
        }
        due("sheet 0 as a sheet", x.as(0, SHEET), 0);
    }

    // one of a KIND (0 .. 5)

    private static void asKinds0To5() {
        TopSheet x = officeOf(EACH);
        for (int kind : new int[] {-1, 6, 7, MIN, MAX}) {
            for (int s = 0; s < 6; s++) {
                due("as(" + s + "," + kind + ")", x.as(s, kind), BAD);
            }
        }
    }

    // BAD; KIND: it is no such one

    private static void asInItsOrder() {
        TopSheet x = officeOf(EACH);
        due("no such sheet", x.as(6, SLATE), BAD);
        due("neither", x.as(6, 6), BAD);
        due("status", x.status(), 0);
        due("a bill is no slate", x.as(0, SLATE), NO_KIND);
        due("no such kind", x.as(0, 6), BAD);
        due("status", x.status(), 3);
    }

    // 10 lent to all SHEETS .. 14 of BLANKS

    private static void sizesOfEachKind() {
        TopSheet x = officeOf(EACH);
        int[] due = {10 + (0 + 3), 20 + (1 + 4), 30 + (2 + 5 - 1000), -(40 + 2 * (3 + 6 - 1000)),
            2 * (50 + (4 + 7)), 60 - 100};
        for (int s = 0; s < 6; s++) {
            due("size of " + s, x.ask(s, 0), due[s]);
        }
    }

    // 20 lent to all SHEETS .. 24 of WILLS

    private static void marksOfEachKind() {
        TopSheet x = officeOf(EACH);
        int[] due = {0 + 3, 1 + 4, 2 + 5 - 1000, 2 * (3 + 6 - 1000), 4 + 7, 5 - (60 - 100)};
        for (int s = 0; s < 6; s++) {
            due("mark of " + s, x.ask(s, 1), due[s]);
        }
    }

    private static void asksAreDoneAnew() {
        TopSheet x = officeOf(EACH);
        for (int times = 0; times < 3; times++) {
            due("size of the will", x.ask(3, 0), 1942);
            due("its trace", x.trace(0), 12);
            due("mark of the slate", x.ask(5, 1), 45);
            due("its trace", x.trace(0), 23);
        }
    }

    private static void asksAtTheEnds() {
        StringBuilder text = new StringBuilder(NEVER + "desk 9 0;desk 9 0;");
        for (int k = 0; k < 10; k++) {
            text.append("sheet bill ").append(k % 2).append(" 0 0;");
        }
        TopSheet x = officeOf(text + "sheet will 0 99 12;sheet slate 1 0 0;");
        due("least bill, size", x.ask(0, 0), 0);
        due("least bill, mark", x.ask(0, 1), 0);
        due("will, size", x.ask(10, 0), -(99 + 2 * (10 + 12 - 1000)));
        due("will, mark", x.ask(10, 1), 2 * (10 + 12 - 1000));
        due("slate, size", x.ask(11, 0), -100);
        due("slate, mark", x.ask(11, 1), 11 + 100);
        for (int k = 12; k < 16; k++) {
            x.blank(k % 2);
        }
        due("the sixteenth, size", x.ask(15, 0), 2 * (0 + 15 + 12));
        due("the sixteenth, mark", x.ask(15, 1), 15 + 12);
        due("the seventeenth", x.ask(16, 0), BAD);
    }

    // ask: an ASK (0, 1); BAD

    private static void askRefused() {
        TopSheet x = officeOf(EACH);
        for (int what : new int[] {-1, 2, 10, 20, MIN, MAX}) {
            for (int s = 0; s < 6; s++) {
                due("ask(" + s + "," + what + ")", x.ask(s, what), BAD);
            }
            due("ask(6," + what + ")", x.ask(6, what), BAD);
        }
        due("nothing was asked", x.trace(0), NONE);
    }

    private static void left(String when, TopSheet x, int... bodies) {
        for (int i = 0; i < bodies.length; i++) {
            due(when + ", trace(" + i + ")", x.trace(i), bodies[i]);
        }
        for (int i = bodies.length; i <= 17; i++) {
            due(when + ", trace(" + i + ")", x.trace(i), NONE);
        }
    }

    // each of which leaves its number in THE TRACE as it begins (the first 16)

    private static void traceOfEachKind() {
        TopSheet x = officeOf(EACH);
        int[][] size = {{}, {11, 10, 21, 20}, {11, 10, 22, 21, 20}, {12, 11, 10, 24, 22, 21, 20},
            {14, 11, 10, 21, 20}, {13, 10}};
        int[][] mark = {{}, {21, 20}, {22, 21, 20}, {24, 22, 21, 20}, {21, 20}, {23, 20, 13, 10}};
        for (int s = 1; s <= 5; s++) {
            x.ask(s, 0);
            left("size of " + s, x, size[s]);
            x.ask(s, 1);
            left("mark of " + s, x, mark[s]);
        }
    }

    // THE TRACE is empty ahead of it

    private static void traceIsEmptyAhead() {
        TopSheet x = officeOf(EACH);
        left("at first", x);
        x.ask(3, 0);
        x.ask(1, 1);
        left("a shorter one behind a longer one", x, 21, 20);
        x.ask(5, 0);
        left("as short, of other numbers", x, 13, 10);
    }

    // (where that is refused it stays)

    private static void traceStaysWhereRefused() {
        TopSheet x = officeOf(EACH);
        x.ask(3, 1);
        x.ask(6, 0);
        x.ask(-1, 1);
        x.ask(0, 2);
        x.ask(0, -1);
        left("refused", x, 24, 22, 21, 20);
        x.kind(0);
        x.as(0, 0);
        x.as(0, 5);
        x.lift(0);
        x.quarter(1);
        x.undo();
        x.image(0);
        x.restore(0);
        write(x, NEVER + "desk 1 0;");
        x.office();
        x.ask(0, 0);
        left("after other calls", x, 24, 22, 21, 20);
    }

    // trace: number i of THE TRACE; NONE

    private static void traceBesideItsNumbers() {
        TopSheet x = officeOf(EACH);
        for (int i : new int[] {-1, -2, 16, 17, 100, MIN, MAX}) {
            due("trace(" + i + ") of none", x.trace(i), NONE);
        }
        x.ask(3, 0);
        for (int i : new int[] {-1, -2, 7, 8, 15, 16, 17, 100, MIN, MAX}) {
            due("trace(" + i + ") of seven", x.trace(i), NONE);
        }
        due("trace(6) of seven", x.trace(6), 20);
    }

    private static void askedOfTheGone() {
        TopSheet x = officeOf(EACH);
        x.lift(4);
        x.quarter(1);
        due("gone", x.sheet(4, 2), NONE);
        due("kind", x.kind(4), BLANK);
        due("as a paper", x.as(4, PAPER), 4);
        due("as a will", x.as(4, WILL), NO_KIND);
        due("size", x.ask(4, 0), 2 * (50 + 4 + 7));
        due("mark", x.ask(4, 1), 4 + 7);
    }
}
