import java.util.ArrayList;
import java.util.EnumMap;
import java.util.EnumSet;
import java.util.List;
import java.util.Map;
import java.util.Set;
import java.util.function.Supplier;
import java.util.function.ToIntFunction;

/**
 * What is refused, or found, changes nothing but status(); and no other call changes what it may not. In each of
 * some states each call is made with many numbers; then a twin that was spared the call must answer alike.
 */
public final class TopSheetUnchanged extends Check {
    /** What of an object can be looked at, by calls on one that is thrown away then. */
    private enum Part { STATUS, TRACE, OFFICE, TAPE, ROWS, ACTS, IMAGES, LATER }

    private static final Set<Part> NOTHING = EnumSet.noneOf(Part.class);
    private static final Set<Part> WORLD = EnumSet.of(Part.OFFICE, Part.ACTS, Part.LATER);
    /** Part of a row's items are SHEETS of this office; here they can be told apart. */
    private static final String READER = ALWAYS + "desk 9 0;" + "sheet bill 0 0 0;".repeat(8);
    private static final String REST = " 5 6 7 8 9 10 11 99;desk 2 1;sheet will 0 3 4;";
    private static final int[] ITEMS_OF_ROW_0 = {3, 0, 7, -1, 2};
    private static final int FEW = 300;

    private static final Map<Part, Integer> changes = new EnumMap<>(Part.class);
    private static int refusals = 0;
    private static int findings = 0;
    private static int othersSeen = 0;

    public static void main(String[] args) {
        inState("new", TopSheet::new);
        inState("no office", TopSheetUnchanged::withoutOffice);
        inState("an office", TopSheetUnchanged::withOffice);
        inState("the last quarter", TopSheetUnchanged::inQuarter12);
        inState("full", TopSheetUnchanged::full);
        refusalsLeaveStatus();
        due("more than " + FEW + " refusals", refusals > FEW ? 1 : 0, 1);
        due("more than " + FEW + " findings", findings > FEW ? 1 : 0, 1);
        due("more than " + FEW + " other answers", othersSeen > FEW ? 1 : 0, 1);
        for (Part part : Part.values()) {
            due("something that changes " + part, changes.containsKey(part) ? 1 : 0, 1);
        }
        end("what is refused changes nothing: " + refusals + " refusals, " + findings + " findings, "
            + othersSeen + " others");
    }

    // ---- the states

    private static void someRows(TopSheet x) {
        x.row(0, 2, 5);
        for (int i = 0; i < 5; i++) {
            x.set(0, i, ITEMS_OF_ROW_0[i]);
        }
        x.row(1, 2, 3);
        x.set(1, 0, 4);
        x.set(1, 2, 5);
        x.row(2, 0, 2);
        x.set(2, 1, 6);
        x.row(7, 1, 0);
    }

    private static TopSheet withoutOffice() {
        TopSheet x = new TopSheet();
        someRows(x);
        write(x, "wind 101");
        x.office();
        write(x, "wind 0 1 2 3");
        x.set(0, 5, 1);
        return x;
    }

    /** Acts beyond those that are kept, some SHEETS GONE and MET, one IMAGE, half a text on the tape. */
    private static TopSheet withOffice() {
        TopSheet x = officeOf("wind 100 7 100 50 0 100 30 20 10 5 100 100;desk 4 1;desk 9 0;desk 1 0;"
            + "sheet will 0 30 2;sheet slate 0 9 1;sheet bill 1 40 0;sheet warrant 1 50 12;sheet will 1 60 3;"
            + "sheet bill 2 5 1;");
        someRows(x);
        x.quarter(1);
        x.blank(1);
        x.image(0);
        x.quarter(57);
        for (int k = 0; k < 25; k++) {
            x.lift(k % 4);
        }
        x.lay(3, 0);
        x.ask(0, 0);
        write(x, NEVER + "desk 0 0;");
        x.office();
        write(x, "wind 1 2 3 4");
        x.drop(6);
        return x;
    }

    private static TopSheet inQuarter12() {
        TopSheet x = withOffice();
        for (int k = 0; k < 12; k++) {
            x.quarter(3 + k);
        }
        x.image(1);
        x.lift(0);
        x.as(0, 5);
        return x;
    }

    private static TopSheet full() {
        TopSheet x = officeOf(NEVER + "desk 2 0;desk 9 1;desk 9 0;sheet will 0 8 1;sheet bill 0 7 12;"
            + "sheet slate 1 6 2;sheet warrant 2 5 3;");
        for (int k = 0; k < 12; k++) {
            x.blank(1 + k % 2);
        }
        x.row(0, 2, -1);
        for (int k = 0; k < 62; k++) {
            x.feed(0x2020202020202020L, 8);
        }
        x.feed(0x77696E64L, 4);
        return x;
    }

    // ---- what can be looked at

    private static List<Integer> look(TopSheet x, Part part) {
        List<Integer> seen = new ArrayList<>();
        switch (part) {
            case STATUS -> seen.add(x.status());
            case TRACE -> lookAtTrace(x, seen);
            case OFFICE -> lookAtOffice(x, seen);
            case TAPE -> lookAtTape(x, seen);
            case ROWS -> lookAtRows(x, seen);
            case ACTS -> lookAtActs(x, seen);
            case IMAGES -> lookAtImages(x, seen);
            default -> lookLater(x, seen);
        }
        return seen;
    }

    private static void lookAtTrace(TopSheet x, List<Integer> seen) {
        for (int i = -1; i <= 16; i++) {
            seen.add(x.trace(i));
        }
    }

    private static void lookAtOffice(TopSheet x, List<Integer> seen) {
        for (int what = 1; what <= 5; what++) {
            seen.add(x.count(what));
        }
        for (int s = 0; s <= 16; s++) {
            for (int what = 0; what <= 5; what++) {
                seen.add(x.sheet(s, what));
            }
            seen.add(x.kind(s));
        }
        for (int d = 0; d <= 4; d++) {
            for (int what = 0; what <= 19; what++) {
                seen.add(x.desk(d, what));
            }
        }
    }

    private static void lookAtTape(TopSheet x, List<Integer> seen) {
        seen.add(x.fault());
        seen.add(x.count(6));
        for (int i = 0; i < REST.length(); i++) {
            seen.add(x.feed(REST.charAt(i), 1));
        }
        int desks = x.office();
        seen.add(desks);
        seen.add(x.fault());
        if (desks > 0) {
            lookLater(x, seen);
        }
    }

    private static void lookAtRows(TopSheet x, List<Integer> seen) {
        seen.add(x.count(0));
        x.office();
        write(x, READER);
        x.office();
        for (int s = 0; s < 8; s++) {
            x.lift(s);
            for (int r = 0; r < 3; r++) {
                for (int i = 0; i < 6; i++) {
                    seen.add(x.beach(r, i, 1, 1));
                }
            }
        }
        for (int r = 0; r < 8; r++) {
            seen.add(x.set(r, 0, 70000));
            seen.add(x.drop(r));
        }
    }

    private static void lookAtActs(TopSheet x, List<Integer> seen) {
        for (int k = 0; k <= 24; k++) {
            seen.add(x.undo());
            lookAround(x, seen);
        }
    }

    private static void lookAround(TopSheet x, List<Integer> seen) {
        seen.add(x.count(2));
        seen.add(x.count(3));
        seen.add(x.missed(0));
        for (int d = 0; d < 3; d++) {
            seen.add(x.desk(d, 10));
            seen.add(x.desk(d, 9 + Math.max(1, x.desk(d, 2))));
        }
    }

    private static void lookAtImages(TopSheet x, List<Integer> seen) {
        for (int k = 1; k >= 0; k--) {
            seen.add(x.restore(k));
            // Without an IMAGE the OFFICE stays as it is, which is looked at elsewhere.
            if (seen.get(seen.size() - 1) == 1) {
                lookBriefly(x, seen);
            }
        }
    }

    /** So brief that an object is not asked more than 512 calls. */
    private static void lookBriefly(TopSheet x, List<Integer> seen) {
        lookAround(x, seen);
        for (int s = 0; s <= 16; s++) {
            seen.add(x.sheet(s, 0));
            seen.add(x.sheet(s, 3));
            seen.add(x.sheet(s, 4));
        }
        seen.add(x.count(5));
        seen.add(x.undo());
    }

    private static void lookLater(TopSheet x, List<Integer> seen) {
        for (int n = 0; n <= 4; n++) {
            seen.add(x.taken(n, 0));
            seen.add(x.mean(n, 0));
            seen.add(x.mean(n, 1));
            seen.add(x.cover(0, n));
            seen.add(x.order(0, n, -1));
        }
        seen.add(x.window());
        seen.add(x.lend(0, 1));
        for (int k = 0; k < 13; k++) {
            seen.add(x.quarter(1 + 3 * k));
            seen.add(x.missed(0));
            seen.add(x.missed(1));
        }
    }

    // ---- each call in a state

    private static String state;
    private static Supplier<TopSheet> maker;
    private static Map<Part, List<Integer>> spared;

    private static void inState(String name, Supplier<TopSheet> make) {
        state = name;
        maker = make;
        spared = new EnumMap<>(Part.class);
        for (Part part : Part.values()) {
            spared.put(part, look(make.get(), part));
        }
        rowCalls();
        copyCalls();
        tapeCalls();
        actCalls();
        deskCalls();
        lookingCalls();
        foretoldCalls();
        beachCalls();
        askCalls();
    }

    /** The call may change these parts, if it is not refused; if it has a finding, status() alone. */
    private static void call(String name, Set<Part> may, ToIntFunction<TopSheet> call) {
        int answer = call.applyAsInt(maker.get());
        boolean isRefused = answer == BAD || answer == STATE || answer == FULL;
        boolean isFound = answer <= NO_ROW && answer >= NO_STORE;
        if (isRefused) {
            refusals++;
        } else if (isFound) {
            findings++;
        } else {
            othersSeen++;
        }
        for (Part part : Part.values()) {
            TopSheet x = maker.get();
            due(name + " anew", call.applyAsInt(x), answer);
            List<Integer> now = look(x, part);
            boolean isSame = now.equals(spared.get(part));
            boolean isFree = isRefused ? false : isFound ? part == Part.STATUS : mayChange(part, may, answer);
            if (!isSame && isFree) {
                changes.merge(part, 1, Integer::sum);
            }
            due(state + ": " + name + ", answered " + answer + ", leaves " + part, isSame || isFree ? 1 : 0, 1);
            if (part == Part.STATUS && isFound) {
                due(state + ": status after " + name, now.get(0), -1000010 - answer);
            }
        }
    }

    /** A fault of office() leaves all but the tape. */
    private static boolean mayChange(Part part, Set<Part> may, int answer) {
        return may.contains(part) && (answer > FAULTY || part == Part.TAPE);
    }

    private static final Set<Part> ROW_CALL = EnumSet.of(Part.ROWS, Part.STATUS);

    private static void rowCalls() {
        for (int r : new int[] {-1, 0, 1, 5, 7, 8}) {
            for (int n : new int[] {-1, 0, 5, 40, 41}) {
                for (int lane : new int[] {-1, 0, 2, 3}) {
                    call("row(" + r + "," + lane + "," + n + ")", ROW_CALL, x -> x.row(r, lane, n));
                }
                for (int v : new int[] {1, -77}) {
                    call("set(" + r + "," + n + "," + v + ")", ROW_CALL, x -> x.set(r, n, v));
                }
            }
            call("drop(" + r + ")", ROW_CALL, x -> x.drop(r));
        }
    }

    private static void copyCalls() {
        for (int a : new int[] {-1, 0, 1, 2, 5}) {
            for (int b : new int[] {0, 1, 5, 8}) {
                for (int i : new int[] {-1, 0, 2, 6}) {
                    for (int n : new int[] {-1, 0, 2, MAX}) {
                        call("copy(" + a + "," + i + "," + b + ",1," + n + ")", ROW_CALL, x -> x.copy(a, i, b, 1, n));
                        call("copy(" + a + ",1," + b + "," + i + "," + n + ")", ROW_CALL, x -> x.copy(a, 1, b, i, n));
                    }
                }
            }
        }
    }

    private static void tapeCalls() {
        for (int n : new int[] {-1, 0, 1, 4, 8, 9, MIN, MAX}) {
            call("feed(65," + n + ")", EnumSet.of(Part.TAPE), x -> x.feed(65L, n));
        }
        Set<Part> all = EnumSet.of(Part.TAPE, Part.OFFICE, Part.ACTS, Part.LATER);
        call("office()", all, TopSheet::office);
    }

    private static void actCalls() {
        for (int s = -1; s <= 17; s++) {
            int sheet = s;
            call("lift(" + s + ")", WORLD, x -> x.lift(sheet));
            for (int d = -1; d <= 4; d++) {
                int desk = d;
                call("lay(" + s + "," + d + ")", WORLD, x -> x.lay(sheet, desk));
            }
        }
        for (int d : new int[] {-1, 0, 1, 2, 3, 4, MIN, MAX}) {
            call("blank(" + d + ")", WORLD, x -> x.blank(d));
        }
        for (int seed : new int[] {MIN, -1, 0, 1, 57, 999999, 1000000, MAX}) {
            call("quarter(" + seed + ")", WORLD, x -> x.quarter(seed));
        }
        call("undo()", WORLD, TopSheet::undo);
        for (int k : new int[] {-1, 0, 1, 2, MIN, MAX}) {
            call("image(" + k + ")", EnumSet.of(Part.IMAGES), x -> x.image(k));
            call("restore(" + k + ")", WORLD, x -> x.restore(k));
        }
    }

    private static void deskCalls() {
        for (int d : new int[] {-1, 0, 1, 2, 3, 4}) {
            for (int what : new int[] {MIN, -1, 0, 1, 2, 3, 9, 10, 19, MAX}) {
                call("desk(" + d + "," + what + ")", NOTHING, x -> x.desk(d, what));
            }
            for (int n : new int[] {-1, 0, 1, 9, 10}) {
                call("cover(" + d + "," + n + ")", NOTHING, x -> x.cover(d, n));
                for (int k : new int[] {-2, -1, 0, 3, 7}) {
                    call("order(" + d + "," + n + "," + k + ")", NOTHING, x -> x.order(d, n, k));
                }
            }
            for (int e : new int[] {-1, 0, 1, 2, 3}) {
                call("lend(" + d + "," + e + ")", NOTHING, x -> x.lend(d, e));
            }
        }
    }

    private static void lookingCalls() {
        call("fault()", NOTHING, TopSheet::fault);
        call("status()", NOTHING, TopSheet::status);
        for (int what = -1; what <= 7; what++) {
            int w = what;
            call("count(" + w + ")", NOTHING, x -> x.count(w));
            call("missed(" + w + ")", NOTHING, x -> x.missed(w));
            call("trace(" + w + ")", NOTHING, x -> x.trace(w));
            for (int s : new int[] {-1, 0, 5, 15, 16}) {
                call("sheet(" + s + "," + w + ")", NOTHING, x -> x.sheet(s, w));
            }
        }
    }

    private static void foretoldCalls() {
        call("window()", NOTHING, TopSheet::window);
        for (int n : new int[] {MIN, -1, 0, 1, 2, 3, 4, 9, 10, MAX}) {
            for (int what : new int[] {-1, 0, 1, 2}) {
                call("taken(" + n + "," + what + ")", NOTHING, x -> x.taken(n, what));
                call("mean(" + n + "," + what + ")", NOTHING, x -> x.mean(n, what));
            }
        }
    }

    private static void beachCalls() {
        for (int r : new int[] {-1, 0, 1, 5, 8}) {
            for (int i : new int[] {-1, 0, 2, 5, 6}) {
                for (int m : new int[] {-1, 0, 1, 3, 17}) {
                    for (int n : new int[] {-1, 0, 1, 10}) {
                        call("beach(" + r + "," + i + "," + m + "," + n + ")", EnumSet.of(Part.STATUS),
                            x -> x.beach(r, i, m, n));
                    }
                }
            }
        }
    }

    private static void askCalls() {
        for (int s : new int[] {-1, 0, 1, 2, 3, 4, 15, 16}) {
            call("kind(" + s + ")", NOTHING, x -> x.kind(s));
            for (int what : new int[] {-1, 0, 1, 2}) {
                call("ask(" + s + "," + what + ")", EnumSet.of(Part.TRACE), x -> x.ask(s, what));
            }
            for (int kind = -1; kind <= 6; kind++) {
                int k = kind;
                call("as(" + s + "," + k + ")", EnumSet.of(Part.STATUS), x -> x.as(s, k));
            }
        }
    }

    /** Of each refusal by itself, with the answer that is due: status() tells yet what it told ahead. */
    private static void refusalsLeaveStatus() {
        TopSheet x = full();
        due("status of the size", x.status(), 4);
        due("a row of 41", x.row(0, 0, 41), BAD);
        due("a set of row 8", x.set(8, 0, 0), BAD);
        due("a copy to row -1", x.copy(0, 0, -1, 0, 0), BAD);
        due("a drop of row 8", x.drop(8), BAD);
        due("a beach of 17", x.beach(0, 0, 17, 0), BAD);
        due("as of no sheet", x.as(16, 0), BAD);
        due("no room on the tape", x.feed(0L, 1), FULL);
        due("no room on the desk", x.lay(3, 0), FULL);
        due("no room for a sheet", x.blank(1), FULL);
        due("no image", x.restore(0), STATE);
        due("lies there", x.lay(0, 0), STATE);
        due("status yet", x.status(), 4);
    }
}
