import java.math.BigInteger;
import java.util.ArrayDeque;
import java.util.ArrayList;
import java.util.Deque;
import java.util.HashMap;
import java.util.HashSet;
import java.util.List;
import java.util.Map;
import java.util.Set;
import java.util.regex.Matcher;
import java.util.regex.Pattern;

/**
 * Many runs of 512 calls, each answered by TopSheet and by a slow model that shares nothing with it:
 * gusts come one by one on a copy, means go through all cases, orders through all orders.
 */
public final class TopSheetAgainstModel {
    private static final int NONE = -1000000, BAD = -1000001, STATE = -1000002, FULL = -1000003;
    private static final int RUNS = 600, CALLS = 512;

    private static long seed = 20261118L;

    private static int any(int n) {
        seed = seed * 6364136223846793005L + 1442695040888963407L;
        return (int) ((seed >>> 33) % n);
    }

    // ---- the model

    private static final class Sheet {
        final int number, kind, worth, need;
        boolean met;

        Sheet(int number, int kind, int worth, int need) {
            this.number = number;
            this.kind = kind;
            this.worth = worth;
            this.need = need;
        }
    }

    private static final class Desk {
        int room, stones;
        List<Sheet> pile = new ArrayList<>();
    }

    private static final class World {
        int[] wind = new int[12];
        List<Desk> desks = new ArrayList<>();
        List<Sheet> sheets = new ArrayList<>();
        int quarter;

        World twin() {
            World w = new World();
            w.wind = wind.clone();
            w.quarter = quarter;
            for (Sheet s : sheets) {
                Sheet t = new Sheet(s.number, s.kind, s.worth, s.need);
                t.met = s.met;
                w.sheets.add(t);
            }
            for (Desk d : desks) {
                Desk e = new Desk();
                e.room = d.room;
                e.stones = d.stones;
                for (Sheet s : d.pile) {
                    e.pile.add(w.sheets.get(s.number));
                }
                w.desks.add(e);
            }
            return w;
        }

        Desk deskOf(Sheet s) {
            for (Desk d : desks) {
                if (d.pile.contains(s)) {
                    return d;
                }
            }
            return null;
        }

        Set<Sheet> gust() {
            Set<Sheet> gone = new HashSet<>();
            for (Desk d : desks) {
                if (d.pile.size() > d.stones && d.pile.get(d.pile.size() - 1).kind != 5) {
                    gone.add(d.pile.remove(d.pile.size() - 1));
                }
            }
            return gone;
        }

        boolean missed(Sheet s) {
            return s.need != 12 && !s.met && (deskOf(s) == null || quarter > s.need);
        }
    }

    private static int bits(Iterable<Sheet> set) {
        int b = 0;
        for (Sheet s : set) {
            b |= 1 << s.number;
        }
        return b;
    }

    private static int worth(Iterable<Sheet> set) {
        int w = 0;
        for (Sheet s : set) {
            w += s.worth;
        }
        return w;
    }

    private static final class Model {
        World world;
        Deque<World> past = new ArrayDeque<>();
        World[] images = new World[2];
        int[][] rows = new int[8][];
        int[] lanes = new int[8];
        StringBuilder tape = new StringBuilder();
        int fault, status;
        List<Integer> trace = new ArrayList<>();

        int found(int n) {
            status = n;
            return -1000010 - n;
        }

        int well(int v) {
            status = 0;
            return v;
        }

        boolean noSheet(int s) {
            return world == null || s < 0 || s >= world.sheets.size();
        }

        boolean noDesk(int d) {
            return world == null || d < 0 || d >= world.desks.size();
        }

        void remember() {
            past.push(world.twin());
            if (past.size() > 24) {
                past.removeLast();
            }
        }

        int row(int r, int lane, int n) {
            if (r < 0 || r > 7 || lane < 0 || lane > 2 || n > 40) return BAD;
            if (n < 0) return found(4);
            rows[r] = new int[n];
            lanes[r] = lane;
            return well(n);
        }

        int set(int r, int i, int v) {
            if (r < 0 || r > 7) return BAD;
            if (rows[r] == null) return found(1);
            if (i < 0 || i >= rows[r].length) return found(2);
            int gap = lanes[r] == 0 ? 24 : lanes[r] == 1 ? 16 : 0;
            rows[r][i] = v << gap >> gap;
            return well(rows[r][i]);
        }

        int copy(int a, int i, int b, int j, int n) {
            if (a < 0 || a > 7 || b < 0 || b > 7) return BAD;
            if (rows[a] == null || rows[b] == null) return found(1);
            if (lanes[a] != lanes[b]) return found(5);
            if (i < 0 || j < 0 || n < 0 || (long) i + n > rows[a].length || (long) j + n > rows[b].length) return found(2);
            int[] from = rows[a].clone();
            for (int k = 0; k < n; k++) rows[b][j + k] = from[i + k];
            return well(n);
        }

        int drop(int r) {
            if (r < 0 || r > 7) return BAD;
            if (rows[r] == null) return found(1);
            int n = rows[r].length;
            rows[r] = null;
            return well(n);
        }

        int feed(long w, int n) {
            if (n < 1 || n > 8) return BAD;
            if (tape.length() + n > 500) return FULL;
            for (int k = n - 1; k >= 0; k--) tape.append((char) (w >>> 8 * k & 255));
            return tape.length();
        }

        private static final Pattern TOKEN = Pattern.compile("[ \n]*([a-z]+|[0-9]+|[^ \n])", Pattern.DOTALL);

        int office() {
            List<String> words = new ArrayList<>();
            List<Integer> places = new ArrayList<>();
            Matcher m = TOKEN.matcher(tape);
            while (m.find()) {
                words.add(m.group(1));
                places.add(m.start(1));
            }
            places.add(tape.length());
            words.add("");
            tape.setLength(0);
            World w = new World();
            int at = 0;
            int bad = 0;
            String want = "wind";
            // A small machine: what may come next, told by a letter a token.
            StringBuilder plan = new StringBuilder("W" + "%".repeat(12) + ";D");
            int[] told = new int[8];
            int numbers = 0;
            int kind = 0;
            while (bad == 0) {
                String t = words.get(at);
                if (plan.length() == 0) {
                    if (t.isEmpty()) break;
                    if (t.equals("desk") && w.sheets.isEmpty()) plan.append("D");
                    else if (t.equals("sheet")) plan.append("S");
                    else {
                        bad = 1;
                        break;
                    }
                }
                char p = plan.charAt(0);
                plan.deleteCharAt(0);
                boolean number = t.matches("[0-9]{1,3}");
                int v = number ? Integer.parseInt(t) : -1;
                switch (p) {
                    case 'W':
                        if (!t.equals(want)) bad = 1;
                        break;
                    case '%':
                        if (!number) bad = 1;
                        else if (v > 100) bad = 2;
                        else w.wind[numbers++] = v;
                        break;
                    case ';':
                        if (!t.equals(";")) bad = 1;
                        break;
                    case 'D':
                        if (!t.equals("desk")) bad = 1;
                        else if (w.desks.size() == 4) bad = 3;
                        else plan.append("rtd");
                        break;
                    case 'r':
                        if (!number) bad = 1;
                        else if (v < 1 || v > 9) bad = 2;
                        else told[0] = v;
                        break;
                    case 't':
                        if (!number) bad = 1;
                        else if (v > 3) bad = 2;
                        else told[1] = v;
                        break;
                    case 'd':
                        if (!t.equals(";")) bad = 1;
                        else {
                            Desk d = new Desk();
                            d.room = told[0];
                            d.stones = told[1];
                            w.desks.add(d);
                        }
                        break;
                    case 'S':
                        if (w.sheets.size() == 12) bad = 3;
                        else plan.append("konws");
                        break;
                    case 'k':
                        kind = List.of("", "bill", "warrant", "will", "blank", "slate").indexOf(t);
                        if (kind < 1) bad = 1;
                        break;
                    case 'o':
                        if (!number) bad = 1;
                        else if (v >= w.desks.size() || w.desks.get(v).pile.size() >= w.desks.get(v).room) bad = 2;
                        else told[0] = v;
                        break;
                    case 'n':
                        if (!number) bad = 1;
                        else if (v > 99) bad = 2;
                        else told[1] = v;
                        break;
                    case 'w':
                        if (!number) bad = 1;
                        else if (v > 12) bad = 2;
                        else told[2] = v;
                        break;
                    default:
                        if (!t.equals(";")) bad = 1;
                        else {
                            Sheet s = new Sheet(w.sheets.size(), kind, told[1], told[2]);
                            w.sheets.add(s);
                            w.desks.get(told[0]).pile.add(s);
                        }
                        break;
                }
                if (bad == 0) at++;
            }
            if (bad != 0) {
                fault = bad;
                return -1000100 - places.get(at);
            }
            world = w;
            past.clear();
            return w.desks.size();
        }

        int lift(int s) {
            if (noSheet(s)) return BAD;
            if (world.deskOf(world.sheets.get(s)) == null) return STATE;
            remember();
            Sheet t = world.sheets.get(s);
            List<Sheet> pile = world.deskOf(t).pile;
            int above = pile.size() - 1 - pile.indexOf(t);
            pile.remove(t);
            pile.add(t);
            if (world.quarter <= t.need) t.met = true;
            return above;
        }

        int lay(int s, int d) {
            if (noSheet(s) || noDesk(d)) return BAD;
            Desk from = world.deskOf(world.sheets.get(s));
            Desk to = world.desks.get(d);
            if (from == null || from == to) return STATE;
            if (to.pile.size() >= to.room) return FULL;
            remember();
            from.pile.remove(world.sheets.get(s));
            to.pile.add(world.sheets.get(s));
            return to.pile.size();
        }

        int blank(int d) {
            if (noDesk(d)) return BAD;
            if (world.desks.get(d).pile.size() >= world.desks.get(d).room || world.sheets.size() == 16) return FULL;
            remember();
            Sheet s = new Sheet(world.sheets.size(), 4, 0, 12);
            world.sheets.add(s);
            world.desks.get(d).pile.add(s);
            return s.number;
        }

        int quarter(int by) {
            if (world == null) return STATE;
            if (by < 1 || by > 999999) return BAD;
            if (world.quarter == 12) return STATE;
            remember();
            BigInteger rest = BigInteger.valueOf(by).multiply(BigInteger.valueOf(16807)).mod(BigInteger.valueOf(2147483647));
            boolean comes = rest.mod(BigInteger.valueOf(100)).intValue() < world.wind[world.quarter];
            world.quarter++;
            return comes ? bits(world.gust()) : 0;
        }

        int undo() {
            if (past.isEmpty()) return STATE;
            world = past.pop();
            return past.size();
        }

        int sheet(int s, int what) {
            if (noSheet(s) || what < 0 || what > 5) return BAD;
            Sheet t = world.sheets.get(s);
            Desk d = world.deskOf(t);
            if (what == 0) return t.worth;
            if (what == 1) return t.need;
            if (what == 2) return d == null ? NONE : world.desks.indexOf(d);
            if (what == 3) return d == null ? NONE : d.pile.size() - 1 - d.pile.indexOf(t);
            if (what == 4) return t.met ? 1 : 0;
            return world.missed(t) ? 1 : 0;
        }

        int desk(int d, int what) {
            if (noDesk(d) || what < 0 || what > 2 && what < 10) return BAD;
            Desk e = world.desks.get(d);
            if (what == 0) return e.room;
            if (what == 1) return e.stones;
            if (what == 2) return e.pile.size();
            return what - 10 < e.pile.size() ? e.pile.get(what - 10).number : NONE;
        }

        List<Set<Sheet>> gusts(World w, int n) {
            List<Set<Sheet>> all = new ArrayList<>();
            for (int g = 0; g < n; g++) all.add(w.gust());
            return all;
        }

        int taken(int n, int what) {
            if (world == null) return STATE;
            if (n < 0 || n > 9 || what < 0 || what > 1) return BAD;
            Set<Sheet> all = new HashSet<>();
            for (Set<Sheet> g : gusts(world.twin(), n)) all.addAll(g);
            return what == 0 ? bits(all) : worth(all);
        }

        int mean(int n, int what) {
            if (world == null) return STATE;
            if (n < 1 || n > 3 || world.quarter + n > 12 || what < 0 || what > 1) return BAD;
            BigInteger above = BigInteger.ZERO;
            BigInteger below = BigInteger.valueOf(100).pow(n);
            for (int c = 0; c < 1 << n; c++) {
                World w = world.twin();
                BigInteger weight = BigInteger.ONE;
                int lost = 0;
                for (int q = 0; q < n; q++) {
                    boolean comes = (c >> q & 1) != 0;
                    weight = weight.multiply(BigInteger.valueOf(comes ? w.wind[w.quarter + q] : 100 - w.wind[w.quarter + q]));
                    if (comes) lost += worth(w.gust());
                }
                above = above.add(weight.multiply(BigInteger.valueOf(lost)));
            }
            if (above.signum() == 0) return what;
            return (what == 0 ? above : below).divide(above.gcd(below)).intValueExact();
        }

        int order(int d, int n, int k) {
            if (noDesk(d) || n < 0 || n > 9 || k < -1) return BAD;
            Desk e = world.desks.get(d);
            if (e.pile.size() > 7 || k >= e.pile.size()) return NONE;
            List<Sheet> rest = new ArrayList<>(e.pile);
            rest.sort((x, y) -> x.number - y.number);
            int[] best = {Integer.MAX_VALUE};
            List<Sheet> bestLine = new ArrayList<>();
            tryAll(rest, new ArrayList<>(), e.stones, n, best, bestLine);
            return k < 0 ? best[0] : bestLine.get(k).number;
        }

        void tryAll(List<Sheet> rest, List<Sheet> line, int stones, int n, int[] best, List<Sheet> bestLine) {
            if (rest.isEmpty()) {
                World w = new World();
                Desk e = new Desk();
                e.stones = stones;
                e.pile.addAll(line);
                w.desks.add(e);
                int lost = 0;
                for (int g = 0; g < n; g++) lost += worth(w.gust());
                if (lost < best[0]) {
                    best[0] = lost;
                    bestLine.clear();
                    bestLine.addAll(line);
                }
                return;
            }
            for (int i = 0; i < rest.size(); i++) {
                Sheet s = rest.remove(i);
                line.add(s);
                tryAll(rest, line, stones, n, best, bestLine);
                line.remove(line.size() - 1);
                rest.add(i, s);
            }
        }

        int cover(int d, int n) {
            if (noDesk(d) || n < 0 || n > 9) return BAD;
            for (int b = 0; world.desks.get(d).pile.size() + b <= world.desks.get(d).room; b++) {
                World w = new World();
                Desk e = new Desk();
                e.stones = world.desks.get(d).stones;
                e.pile.addAll(world.desks.get(d).pile);
                for (int i = 0; i < b; i++) e.pile.add(new Sheet(20 + i, 4, 0, 12));
                w.desks.add(e);
                boolean safe = true;
                for (int g = 0; g < n; g++) {
                    for (Sheet s : w.gust()) safe &= s.worth == 0;
                }
                if (safe) return b;
            }
            return NONE;
        }

        int lend(int a, int b) {
            if (noDesk(a) || noDesk(b) || a == b) return BAD;
            if (world.desks.get(a).pile.isEmpty() || world.desks.get(b).pile.isEmpty()) return NONE;
            World w = new World();
            w.desks.add(world.twin().desks.get(a));
            w.desks.add(world.twin().desks.get(b));
            World v = new World();
            v.desks.add(world.twin().desks.get(a));
            v.desks.add(world.twin().desks.get(b));
            List<Sheet> p = v.desks.get(0).pile;
            List<Sheet> q = v.desks.get(1).pile;
            Sheet s = p.stream().min((x, y) -> x.worth - y.worth).get();
            Sheet t = q.stream().min((x, y) -> x.worth - y.worth).get();
            p.remove(s);
            q.remove(t);
            p.add(t);
            q.add(s);
            return worth(w.gust()) - worth(v.gust());
        }

        int beach(int r, int i, int m, int n) {
            if (world == null) return STATE;
            if (r < 0 || r > 7 || m < 0 || m > 16 || n < 0 || n > 9) return BAD;
            if (rows[r] == null) return found(1);
            if (i < 0 || (long) i + m > rows[r].length) return found(2);
            for (int k = 0; k < m; k++) {
                if (noSheet(rows[r][i + k])) return BAD;
            }
            int at = i;
            for (Set<Sheet> g : gusts(world.twin(), n)) {
                int b = 0;
                for (int k = 0; k < g.size(); k++) {
                    if (at == i + m) return well(0);
                    b |= 1 << rows[r][at++];
                }
                if (b != bits(g)) return well(0);
            }
            return well(at == i + m ? 1 : 0);
        }

        int window() {
            if (world == null) return STATE;
            Set<Sheet> gone = new HashSet<>();
            for (Desk d : world.desks) {
                int h = d.pile.size();
                if (h >= 3 && h > d.stones + 2 && d.pile.get(h - 3).kind != 5) gone.add(d.pile.get(h - 3));
            }
            return worth(gone) + worth(world.twin().gust());
        }

        int missed(int what) {
            if (world == null) return STATE;
            if (what < 0 || what > 1) return BAD;
            List<Sheet> set = new ArrayList<>();
            for (Sheet s : world.sheets) {
                if (what == 0 ? world.missed(s) : world.deskOf(s) == null) set.add(s);
            }
            return what == 0 ? bits(set) : worth(set);
        }

        int image(int k) {
            if (k < 0 || k > 1) return BAD;
            if (world == null) return STATE;
            images[k] = world.twin();
            return 1;
        }

        int restore(int k) {
            if (k < 0 || k > 1) return BAD;
            if (images[k] == null) return STATE;
            world = images[k].twin();
            past.clear();
            return 1;
        }

        int kind(int s) {
            return noSheet(s) ? BAD : world.sheets.get(s).kind;
        }

        private static final Map<Integer, List<Integer>> IS = new HashMap<>(Map.of(0, List.of(0), 1, List.of(1, 0),
            2, List.of(2, 1, 0), 3, List.of(3, 2, 1, 0), 4, List.of(4, 1, 0), 5, List.of(5, 0)));

        int as(int s, int kind) {
            if (noSheet(s) || kind < 0 || kind > 5) return BAD;
            return IS.get(world.sheets.get(s).kind).contains(kind) ? well(s) : found(3);
        }

        int ask(int s, int what) {
            if (noSheet(s) || what < 0 || what > 1) return BAD;
            trace.clear();
            return what == 0 ? size(world.sheets.get(s)) : mark(world.sheets.get(s));
        }

        int body(int number) {
            trace.add(number);
            return 0;
        }

        int size(Sheet s) {
            switch (s.kind) {
                case 3: return body(12) - size11(s);
                case 4: return body(14) + 2 * size11(s);
                case 5: return body(13) + body(10) + s.worth - 100;
                default: return size11(s);
            }
        }

        int size11(Sheet s) {
            return body(11) + body(10) + s.worth + mark(s);
        }

        int mark(Sheet s) {
            switch (s.kind) {
                case 2: return mark22(s);
                case 3: return body(24) + 2 * mark22(s);
                case 5: return body(23) + body(20) + s.number - size(s);
                default: return mark21(s);
            }
        }

        int mark22(Sheet s) {
            return body(22) + mark21(s) - 1000;
        }

        int mark21(Sheet s) {
            return body(21) + body(20) + s.number + s.need;
        }

        int trace(int i) {
            return i < 0 || i >= trace.size() || i > 15 ? NONE : trace.get(i);
        }

        int count(int what) {
            switch (what) {
                case 0: {
                    int n = 0;
                    for (int[] r : rows) n += r == null ? 0 : 1;
                    return n;
                }
                case 1: return world == null ? 0 : world.desks.size();
                case 2: return world == null ? 0 : world.sheets.size();
                case 3: return world == null ? 0 : world.quarter;
                case 4: return past.size();
                case 5: {
                    int n = 0;
                    if (world != null) for (Sheet s : world.sheets) n += world.deskOf(s) == null ? 1 : 0;
                    return n;
                }
                case 6: return tape.length();
                default: return BAD;
            }
        }
    }

    // ---- the runs

    private static int run, calls, wrong;
    private static final List<String> log = new ArrayList<>();
    private static final Map<String, Integer> seen = new HashMap<>();

    private static void same(String call, int got, int want) {
        calls++;
        log.add(call + " = " + got);
        seen.merge(call.substring(0, call.indexOf('(')) + (want <= NONE ? " refused" : ""), 1, Integer::sum);
        if (got != want && wrong++ < 5) {
            System.out.println("run " + run + ": " + call + " answered " + got + ", due is " + want);
            for (int i = Math.max(0, log.size() - 40); i < log.size(); i++) {
                System.out.println("    " + log.get(i));
            }
        }
    }

    private static int wild() {
        int[] w = {-1, Integer.MIN_VALUE, Integer.MAX_VALUE, 8, 16, 41, -1000000, 1 << 30, 3, 10};
        return w[any(w.length)];
    }

    /** Mostly a number below n, now and then one that is not as told. */
    private static int about(int n) {
        return any(25) == 0 ? wild() : any(25) == 0 ? n : any(n);
    }

    private static String space() {
        return any(6) == 0 ? " \n " : " ";
    }

    private static String text() {
        boolean empty = any(10) == 0;
        StringBuilder s = new StringBuilder("wind");
        int[] winds = {0, 100, 50, 7, 33, 80};
        for (int i = 0; i < 12; i++) {
            s.append(space()).append(any(3) == 0 ? any(101) : winds[any(6)]);
        }
        s.append(';');
        int desks = any(8) == 0 ? 4 : 1 + any(4);
        int[] room = new int[desks];
        for (int i = 0; i < desks; i++) {
            room[i] = any(3) == 0 ? 1 + any(9) : 4 + any(6);
            s.append("desk").append(space()).append(room[i]).append(space()).append(any(3) == 0 ? any(4) : any(2)).append(';');
        }
        String[] sorts = {"bill", "will", "warrant", "blank", "slate", "bill", "warrant", "will"};
        int sheets = empty ? 0 : any(3) == 0 ? 12 : any(13);
        for (int i = 0; i < sheets; i++) {
            int d = any(desks);
            if (room[d]-- > 0) {
                s.append("sheet ").append(sorts[any(8)]).append(' ').append(d).append(space())
                    .append(any(3) == 0 ? any(100) : any(4)).append(' ').append(any(13)).append(any(9) == 0 ? " ;\n" : ";");
            }
        }
        return s.toString();
    }

    private static String spoiled(String text) {
        StringBuilder s = new StringBuilder(text);
        String signs = "0159;abdeklsw A,\n\t~" + (char) 0 + (char) 200;
        for (int k = any(3); k >= 0 && s.length() > 1; k--) {
            int at = any(s.length());
            switch (any(5)) {
                case 0:
                    s.deleteCharAt(at);
                    break;
                case 1:
                    s.insert(at, signs.charAt(any(signs.length())));
                    break;
                case 2:
                    s.setCharAt(at, signs.charAt(any(signs.length())));
                    break;
                case 3:
                    s.setLength(at);
                    break;
                default:
                    String[] words = {"desk 9 0;", "sheet bill 0 1 1;", "wind ", "0", ";", " 13 ", "sheet ", "desk "};
                    s.insert(at, words[any(8)]);
                    break;
            }
        }
        return s.toString();
    }

    private static void feedBoth(TopSheet x, Model m, String text) {
        for (int i = 0; i < text.length(); ) {
            int n = Math.min(any(4) == 0 ? 1 + any(8) : 8, text.length() - i);
            long w = any(3) == 0 ? -1L : 0L;
            for (int k = 0; k < n; k++) {
                w = w << 8 | text.charAt(i + k) & 255;
            }
            i += n;
            same("feed(" + w + "," + n + ")", x.feed(w, n), m.feed(w, n));
        }
    }

    private static void newOffice(TopSheet x, Model m) {
        String text = any(4) == 0 ? spoiled(text()) : text();
        if (text.length() > 500) {
            text = text.substring(0, 500);
        }
        feedBoth(x, m, text);
        same("office()", x.office(), m.office());
        same("fault()", x.fault(), m.fault);
        same("count(6)", x.count(6), m.count(6));
    }

    private static void rowCall(TopSheet x, Model m) {
        int a = about(8), b = about(8), i = about(12), j = about(12), n = about(12), v = any(4) == 0 ? any(70000) - 35000 : any(12);
        switch (any(5)) {
            case 0:
                int lane = about(3);
                int many = any(3) == 0 ? about(41) : 12 + any(29);
                same("row(" + a + "," + lane + "," + many + ")", x.row(a, lane, many), m.row(a, lane, many));
                break;
            case 1:
                same("copy(" + a + "," + i + "," + b + "," + j + "," + n + ")", x.copy(a, i, b, j, n), m.copy(a, i, b, j, n));
                break;
            case 2:
                if (any(4) == 0) same("drop(" + a + ")", x.drop(a), m.drop(a));
                break;
            default:
                same("set(" + a + "," + i + "," + v + ")", x.set(a, i, v), m.set(a, i, v));
                break;
        }
    }

    private static void actCall(TopSheet x, Model m) {
        int sheets = 1 + m.count(2), desks = Math.max(1, m.count(1));
        int s = about(sheets), d = about(desks);
        switch (any(7)) {
            case 0:
                same("lift(" + s + ")", x.lift(s), m.lift(s));
                break;
            case 1:
            case 2:
                same("lay(" + s + "," + d + ")", x.lay(s, d), m.lay(s, d));
                break;
            case 3:
                same("blank(" + d + ")", x.blank(d), m.blank(d));
                break;
            case 4:
                int by = run % 3 > 0 && any(8) == 0 ? new int[] {0, 1, 999999, 1000000, -5}[any(5)] : 1 + any(999999);
                if (any(2) == 0) same("quarter(" + by + ")", x.quarter(by), m.quarter(by));
                break;
            case 5:
                for (int k = any(4) == 0 ? any(26) : any(3); k > 0; k--) {
                    same("undo()", x.undo(), m.undo());
                }
                break;
            default:
                int k = any(12) == 0 ? wild() : any(2);
                if (any(3) == 0) same("restore(" + k + ")", x.restore(k), m.restore(k));
                else same("image(" + k + ")", x.image(k), m.image(k));
                break;
        }
    }

    private static void foretoldCall(TopSheet x, Model m) {
        int desks = Math.max(1, m.count(1));
        int n = about(10), what = about(2), d = about(desks), e = about(desks), k = about(7);
        switch (any(8)) {
            case 0:
                same("taken(" + n + "," + what + ")", x.taken(n, what), m.taken(n, what));
                break;
            case 1:
                int next = any(9) == 0 ? about(5) : 1 + any(3);
                same("mean(" + next + "," + what + ")", x.mean(next, what), m.mean(next, what));
                break;
            case 2:
                same("order(" + d + "," + n + ",-1)", x.order(d, n, -1), m.order(d, n, -1));
                same("order(" + d + "," + n + "," + k + ")", x.order(d, n, k), m.order(d, n, k));
                break;
            case 3:
                same("cover(" + d + "," + n + ")", x.cover(d, n), m.cover(d, n));
                break;
            case 4:
                same("lend(" + d + "," + e + ")", x.lend(d, e), m.lend(d, e));
                break;
            case 5:
                same("window()", x.window(), m.window());
                break;
            case 6:
                same("missed(" + what + ")", x.missed(what), m.missed(what));
                break;
            default:
                beachCall(x, m, n);
                break;
        }
    }

    private static void beachCall(TopSheet x, Model m, int n) {
        int row = about(8), i = about(20), length = about(6);
        if (m.world != null && n >= 0 && n <= 9 && any(3) > 0) {
            // A row that fits, but for what an unkind hand did.
            List<Integer> line = new ArrayList<>();
            for (Set<Sheet> g : m.gusts(m.world.twin(), n)) {
                List<Sheet> some = new ArrayList<>(g);
                while (!some.isEmpty()) line.add(some.remove(any(some.size())).number);
            }
            if (any(4) == 0 && !line.isEmpty()) line.add(line.remove(any(line.size())));
            row = any(8);
            same("row", x, m, row, any(3), 20);
            i = any(5);
            for (int k = 0; k < line.size() && i + k < 20; k++) {
                same("set(" + row + "," + (i + k) + ")", x.set(row, i + k, line.get(k)), m.set(row, i + k, line.get(k)));
            }
            length = any(8) == 0 ? about(17) : line.size();
        }
        same("beach(" + row + "," + i + "," + length + "," + n + ")", x.beach(row, i, length, n), m.beach(row, i, length, n));
    }

    private static void same(String name, TopSheet x, Model m, int row, int lane, int n) {
        same(name + "(" + row + "," + lane + "," + n + ")", x.row(row, lane, n), m.row(row, lane, n));
    }

    private static void askCall(TopSheet x, Model m) {
        int s = about(1 + m.count(2)), what = about(2), kind = about(6), i = about(8);
        switch (any(4)) {
            case 0:
                same("kind(" + s + ")", x.kind(s), m.kind(s));
                break;
            case 1:
                same("as(" + s + "," + kind + ")", x.as(s, kind), m.as(s, kind));
                break;
            default:
                same("ask(" + s + "," + what + ")", x.ask(s, what), m.ask(s, what));
                for (int k = 0; k < 3; k++) {
                    i = about(8);
                    same("trace(" + i + ")", x.trace(i), m.trace(i));
                }
                break;
        }
    }

    private static void lookCall(TopSheet x, Model m) {
        int s = about(1 + m.count(2)), what = about(6), d = about(Math.max(1, m.count(1)));
        int at = any(3) == 0 ? about(10) : about(3) + 10;
        same("sheet(" + s + "," + what + ")", x.sheet(s, what), m.sheet(s, what));
        same("desk(" + d + "," + at + ")", x.desk(d, at), m.desk(d, at));
        same("status()", x.status(), m.status);
        int c = about(7);
        same("count(" + c + ")", x.count(c), m.count(c));
    }

    private static void oneRun() {
        TopSheet x = new TopSheet();
        Model m = new Model();
        calls = 0;
        log.clear();
        if (any(10) > 0) {
            newOffice(x, m);
        }
        while (calls < CALLS - 110) {
            int c = any(40);
            // Every third run lets one office grow old.
            if (c == 0 && run % 3 == 0) same("quarter(" + calls + ")", x.quarter(calls), m.quarter(calls));
            else if (c == 0) newOffice(x, m);
            else if (c < 7) rowCall(x, m);
            else if (c < 19) actCall(x, m);
            else if (c < 30) foretoldCall(x, m);
            else if (c < 34) askCall(x, m);
            else lookCall(x, m);
        }
    }

    public static void main(String[] args) {
        for (run = 1; run <= RUNS; run++) {
            oneRun();
        }
        if (args.length > 0) {
            System.out.println(seen);
        }
        System.out.println(wrong == 0 ? RUNS + " runs as the model answers" : wrong + " answers are not the model's");
        if (wrong != 0) {
            System.exit(1);
        }
    }
}
