import java.math.BigInteger;
import java.util.ArrayDeque;
import java.util.ArrayList;
import java.util.Arrays;
import java.util.Deque;
import java.util.List;
import java.util.Random;
import java.util.function.Predicate;
import java.util.regex.Matcher;
import java.util.regex.Pattern;

/**
 * Long runs of calls, told by fixed seeds, on WireFamily and on a second model of the document
 * that is written in another way (all wires tried, all orders walked, whole states kept for undo).
 */
public final class ModelTest {
    private static final int RUNS = 500, CALLS = 512;
    private static int wrong = 0;

    public static void main(String[] args) {
        for (int run = 0; run < RUNS && wrong < 20; run++) {
            new Run(run).go();
        }
        if (wrong > 0) {
            System.exit(1);
        }
    }

    /** One run of calls on both. */
    private static final class Run {
        private final int number;
        private final Random random;
        private final WireFamily x = new WireFamily();
        private final Model y = new Model();
        private final List<String> log = new ArrayList<>();
        private int calls = 0;

        Run(int number) {
            this.number = number;
            this.random = new Random(number);
        }

        private boolean same(String call, long got, long want) {
            calls++;
            log.add(call + " = " + got);
            if (got == want) {
                return true;
            }
            wrong++;
            System.out.println("run " + number + ", call " + calls + ": " + call + " answered " + got
                    + ", the model says " + want);
            for (String line : log.subList(Math.max(0, log.size() - 12), log.size())) {
                System.out.println("    " + line);
            }
            return false;
        }

        void go() {
            boolean well = true;
            while (well && calls < CALLS) {
                well = random.nextInt(60) == 0 || calls == 0 ? writeOne() : step();
            }
        }

        /** Mostly a family; at times one with a byte gone wrong or its end cut off. */
        private boolean writeOne() {
            StringBuilder text = new StringBuilder(randomFamily());
            int luck = random.nextInt(8);
            if (luck == 0) {
                text.setCharAt(random.nextInt(text.length()), "FKRD0123459atuz".charAt(random.nextInt(15)));
            } else if (luck == 1) {
                text.setLength(random.nextInt(text.length()));
            } else if (luck == 2) {
                text.append("FKRD0a".charAt(random.nextInt(6)));
            }
            boolean well = same("wipe()", x.wipe(), y.wipe());
            for (int place = 0; place < text.length(); place++) {
                int letter = text.charAt(place);
                well = well && same("write(" + letter + ")", x.write(letter), y.write(letter));
            }
            return well && same("fault()", x.fault(), y.fault()) && same("family()", x.family(), y.family());
        }

        private String randomFamily() {
            StringBuilder text = new StringBuilder("F");
            int kin = 0, rows = 0, deeds = 0;
            int most = 1 + random.nextInt(5);
            int things = 2 + random.nextInt(20);
            for (int thing = 0; thing < things; thing++) {
                int kind = random.nextInt(3);
                if (kind == 0 && kin < most || kin == 0) {
                    text.append('K').append(random.nextInt(4));
                    kin++;
                } else if (kind == 1 && rows < 5) {
                    text.append('R');
                    int parts = 1 + random.nextInt(4);
                    for (int column = 0; column < 5; column++) {
                        text.append((char) ('a' + 4 * random.nextInt(kin) + random.nextInt(parts)));
                    }
                    rows++;
                } else if (deeds < 4) {
                    text.append('D').append(random.nextInt(4)).append(1 + random.nextInt(9) * random.nextInt(9) / 9);
                    deeds++;
                }
            }
            return text.toString();
        }

        /** A number of 0 .. most, at times just outside, seldom far outside. */
        private int about(int most) {
            int luck = random.nextInt(25);
            if (luck == 0) {
                return -1;
            }
            if (luck == 1) {
                return most + 1;
            }
            if (luck == 2 && random.nextInt(8) == 0) {
                return random.nextInt();
            }
            return random.nextInt(most + 1);
        }

        private int worth() {
            int figures = 0;
            for (int part = 0; part < 4; part++) {
                figures = 10 * figures + (random.nextInt(3) == 0 ? random.nextInt(10) : 0);
            }
            return random.nextInt(30) == 0 ? about(9999) : figures;
        }

        private boolean step() {
            int luck = random.nextInt(100);
            if (luck < 35) {
                return act();
            }
            return luck < 65 ? look() : ask();
        }

        private boolean act() {
            int row = about(Math.max(0, y.rows() - 1));
            switch (random.nextInt(12)) {
                case 0: return same("join()", x.join(), y.join());
                case 1: case 2: return same("undo()", x.undo(), y.undo());
                case 3: case 4: case 5: return same("change(" + row + ")", x.change(row), y.change(row));
                case 6:
                    int slot = about(1);
                    return random.nextBoolean() ? same("keep(" + slot + ")", x.keep(slot), y.keep(slot))
                            : same("again(" + slot + ")", x.again(slot), y.again(slot));
                default:
                    int way = about(1);
                    return same("draw(" + row + ", " + way + ")", x.draw(row, way), y.draw(row, way));
            }
        }

        private boolean look() {
            int what = about(10);
            int row = about(Math.max(0, y.rows() - 1));
            int column = about(4);
            int kin = about(Math.max(0, y.kinds.size() - 1));
            int half = about(1);
            int part = about(3);
            switch (random.nextInt(6)) {
                case 0: return same("about(" + what + ")", x.about(what), y.about(what));
                case 1:
                    return same("cell(" + row + ", " + column + ", " + part + ")",
                            x.cell(row, column, part), y.cell(row, column, part));
                case 2: return same("kin(" + kin + ", " + column + ")", x.kin(kin, column), y.kin(kin, column));
                case 3: return same("has(" + half + ", " + part + ")", x.has(half, part), y.has(half, part));
                case 4: return same("can(" + half + ")", x.can(half), y.can(half));
                default: return same("fault()", x.fault(), y.fault());
            }
        }

        private boolean ask() {
            int what = about(1);
            int kin = about(Math.max(0, y.kinds.size() - 1));
            int deed = about(Math.max(0, y.deeds.size() - 1));
            int half = about(1);
            boolean upper = random.nextBoolean();
            switch (random.nextInt(12)) {
                case 0: return same("best(" + what + ")", x.best(what), y.best(what));
                case 1: return same("fewest(" + deed + ", " + what + ")", x.fewest(deed, what), y.fewest(deed, what));
                case 2:
                    int one = worth();
                    int other = worth();
                    return same("fair(" + one + ", " + other + ", " + what + ")",
                            x.fair(one, other, what), y.fair(one, other, what));
                case 3: return judgeOne();
                case 4:
                    return same("share(" + kin + ", " + half + ", " + upper + ")",
                            x.share(kin, half, upper), y.share(kin, half, upper));
                case 5:
                    int side = about(2);
                    return same("see(" + kin + ", " + side + ")", x.see(kin, side), y.see(kin, side));
                case 6: return random.nextInt(3) > 0 || same("unsee()", x.unsee(), y.unsee());
                case 7: return same("traces(" + what + ")", x.traces(what), y.traces(what));
                case 8: return same("rests(" + what + ")", x.rests(what), y.rests(what));
                case 9:
                    int tenths = about(10);
                    return same("slips(" + deed + ", " + half + ", " + tenths + ", " + upper + ")",
                            x.slips(deed, half, tenths, upper), y.slips(deed, half, tenths, upper));
                case 10:
                    long v = random.nextLong();
                    return same("seed(" + v + ")", x.seed(v), y.seed(v));
                default:
                    int m = 1 + about(29);
                    return same("years(" + m + ")", x.years(m), y.years(m));
            }
        }

        private boolean judgeOne() {
            int n = 1 + about(3);
            int row = 0;
            for (int doing = 0; doing < Math.min(4, n); doing++) {
                row = 100 * row + 10 * random.nextInt(4) + random.nextInt(Math.max(1, y.rows()));
            }
            if (random.nextInt(10) == 0) {
                row = random.nextBoolean() ? random.nextInt() : random.nextInt(1000);
            }
            return same("judge(" + n + ", " + row + ")", x.judge(n, row), y.judge(n, row));
        }
    }

    /** What acts change. */
    private static final class State {
        final List<String> rows = new ArrayList<>();
        final List<Integer> wire = new ArrayList<>();
        int gold = 0;

        State copy() {
            State other = new State();
            other.rows.addAll(rows);
            other.wire.addAll(wire);
            other.gold = gold;
            return other;
        }

        /** The state after one doing, or null, if it can not be. */
        State after(int kind, int row) {
            State next = copy();
            if (kind == 3) {
                if (row != 0) {
                    return null;
                }
                next.gold += slips();
                next.wire.replaceAll(at -> 2);
                return next;
            }
            if (kind > 3 || row < 0 || row >= rows.size()) {
                return null;
            }
            int at = wire.get(row);
            if (kind == 2) {
                if (at == 0 || at == 5) {
                    return null;
                }
                String cells = rows.get(row);
                next.rows.set(row, cells.substring(0, at - 1) + cells.charAt(at) + cells.charAt(at - 1)
                        + cells.substring(at + 1));
                return next;
            }
            next.wire.set(row, kind == 0 ? at - 1 : at + 1);
            return level(next.wire) ? next : null;
        }

        int slips() {
            int count = 0;
            for (int row = 1; row < wire.size(); row++) {
                count += wire.get(row).equals(wire.get(row - 1)) ? 0 : 1;
            }
            return count;
        }
    }

    private static boolean level(List<Integer> wire) {
        for (int row = 0; row < wire.size(); row++) {
            if (wire.get(row) < 0 || wire.get(row) > 5
                    || row > 0 && Math.abs(wire.get(row) - wire.get(row - 1)) > 1) {
                return false;
            }
        }
        return true;
    }

    private static int number(List<Integer> wire) {
        StringBuilder figures = new StringBuilder("1");
        wire.forEach(figures::append);
        return Integer.parseInt(figures.toString());
    }

    /** The document once more. */
    private static final class Model {
        private static final Pattern FAMILY = Pattern.compile("F(K[0-3]|R[a-t]{5}|D[0-3][1-9])*");
        private static final Pattern THING = Pattern.compile("K[0-3]|R[a-t]{5}|D[0-3][1-9]");
        private static final String[] ENDS = {"", "F", "0", "01", "1", "a", "aa", "aaa", "aaaa", "aaaaa"};

        private String text = "";
        final List<Integer> kinds = new ArrayList<>();
        final List<int[]> deeds = new ArrayList<>();
        private State now = new State();
        private final Deque<State> before = new ArrayDeque<>();
        private final List<int[]> seen = new ArrayList<>();
        private final State[] kept = new State[2];
        private BigInteger seed = BigInteger.ZERO;

        int rows() {
            return now.rows.size();
        }

        int write(int letter) {
            if (letter < 0 || letter > 255) {
                return -2;
            }
            if (text.length() == 56) {
                return -4;
            }
            text += (char) letter;
            return text.length();
        }

        int wipe() {
            int length = text.length();
            text = "";
            return length;
        }

        private static boolean isFamily(String text) {
            if (!FAMILY.matcher(text).matches()) {
                return false;
            }
            int kin = 0, rows = 0, deeds = 0;
            for (Matcher thing = THING.matcher(text); thing.find(); ) {
                char letter = thing.group().charAt(0);
                kin += letter == 'K' ? 1 : 0;
                rows += letter == 'R' ? 1 : 0;
                deeds += letter == 'D' ? 1 : 0;
                final int told = kin;
                if (letter == 'R' && thing.group().substring(1).chars().anyMatch(c -> (c - 'a') / 4 >= told)) {
                    return false;
                }
            }
            return kin <= 5 && rows <= 5 && deeds <= 4;
        }

        int fault() {
            for (int place = 1; place <= text.length(); place++) {
                String start = text.substring(0, place);
                if (Arrays.stream(ENDS).noneMatch(end -> isFamily(start + end))) {
                    return place - 1;
                }
            }
            return isFamily(text) ? -9 : text.length();
        }

        int family() {
            if (fault() != -9) {
                return -3;
            }
            kinds.clear();
            deeds.clear();
            now = new State();
            before.clear();
            Arrays.fill(kept, null);
            for (Matcher thing = THING.matcher(text); thing.find(); ) {
                String told = thing.group();
                switch (told.charAt(0)) {
                    case 'K': kinds.add(told.charAt(1) - '0'); break;
                    case 'D': deeds.add(new int[] {told.charAt(1) - '0', told.charAt(2) - '0'}); break;
                    default:
                        now.rows.add(told.substring(1));
                        now.wire.add(2);
                }
            }
            return Integer.parseInt("" + rows() + kinds.size() + deeds.size());
        }

        private int inHalf(State s, List<Integer> wire, int kin, int half) {
            int count = 0;
            for (int row = 0; row < s.rows.size(); row++) {
                for (int column = 0; column < 5; column++) {
                    boolean left = column < wire.get(row);
                    if ((s.rows.get(row).charAt(column) - 'a') / 4 == kin && left == (half == 0)) {
                        count++;
                    }
                }
            }
            return count;
        }

        private boolean parted(State s, List<Integer> wire, int kin) {
            return inHalf(s, wire, kin, 0) > 0 && inHalf(s, wire, kin, 1) > 0;
        }

        private int partedCount(State s, List<Integer> wire) {
            int count = 0;
            for (int kin = 0; kin < kinds.size(); kin++) {
                count += parted(s, wire, kin) ? 1 : 0;
            }
            return count;
        }

        private boolean counts(State s, List<Integer> wire, int row, int column, int half) {
            int value = s.rows.get(row).charAt(column) - 'a';
            boolean isThere = column < wire.get(row) == (half == 0);
            switch (kinds.get(value / 4)) {
                case 0: return isThere;
                case 1: return true;
                case 2: return isThere || value % 4 == 0;
                default: return isThere && !parted(s, wire, value / 4);
            }
        }

        /** How many cells count for a half: of one part, or of all (-1); of kin that are asked for. */
        private int count(State s, List<Integer> wire, int half, int part, Predicate<Integer> who) {
            int count = 0;
            for (int row = 0; row < s.rows.size(); row++) {
                for (int column = 0; column < 5; column++) {
                    int value = s.rows.get(row).charAt(column) - 'a';
                    if (who.test(value / 4) && (part < 0 || value % 4 == part) && counts(s, wire, row, column, half)) {
                        count++;
                    }
                }
            }
            return count;
        }

        private boolean isDone(State s, List<Integer> wire, int half, int deed, Predicate<Integer> who) {
            return count(s, wire, half, deeds.get(deed)[0], who) >= deeds.get(deed)[1];
        }

        private int doneCount(List<Integer> wire, int half, Predicate<Integer> who) {
            int count = 0;
            for (int deed = 0; deed < deeds.size(); deed++) {
                count += isDone(now, wire, half, deed, who) ? 1 : 0;
            }
            return count;
        }

        private List<List<Integer>> wires() {
            List<List<Integer>> all = new ArrayList<>();
            all.add(new ArrayList<>());
            for (int row = 0; row < rows(); row++) {
                List<List<Integer>> longer = new ArrayList<>();
                for (List<Integer> wire : all) {
                    for (int at = 0; at <= 5; at++) {
                        List<Integer> next = new ArrayList<>(wire);
                        next.add(at);
                        longer.add(next);
                    }
                }
                all = longer;
            }
            all.removeIf(wire -> !level(wire));
            return all;
        }

        int about(int what) {
            int[] plain = {rows(), kinds.size(), deeds.size(), now.gold, number(now.wire), now.slips(), 0, 0,
                before.size(), seen.size(), text.length()};
            if (what == 6) {
                int bits = 0;
                for (int kin = 0; kin < kinds.size(); kin++) {
                    bits += parted(now, now.wire, kin) ? 1 << kin : 0;
                }
                return bits;
            }
            if (what == 7) {
                return wires().size();
            }
            return what < 0 || what > 10 ? -2 : plain[what];
        }

        int cell(int row, int column, int what) {
            if (row < 0 || row >= rows()) {
                return -1;
            }
            if (column < 0 || column > 4 || what < 0 || what > 3) {
                return -2;
            }
            int value = now.rows.get(row).charAt(column) - 'a';
            int bits = (counts(now, now.wire, row, column, 0) ? 1 : 0) + (counts(now, now.wire, row, column, 1) ? 2 : 0);
            return new int[] {value / 4, value % 4, column < now.wire.get(row) ? 0 : 1, bits}[what];
        }

        int kin(int kin, int what) {
            if (kin < 0 || kin >= kinds.size()) {
                return -1;
            }
            if (what < 0 || what > 4) {
                return -2;
            }
            return new int[] {kinds.get(kin), inHalf(now, now.wire, kin, 0), inHalf(now, now.wire, kin, 1),
                count(now, now.wire, 0, -1, k -> k == kin), count(now, now.wire, 1, -1, k -> k == kin)}[what];
        }

        int has(int half, int part) {
            boolean bad = half < 0 || half > 1 || part < 0 || part > 3;
            return bad ? -2 : count(now, now.wire, half, part, k -> true);
        }

        int can(int half) {
            if (half < 0 || half > 1) {
                return -2;
            }
            int bits = 0;
            for (int deed = 0; deed < deeds.size(); deed++) {
                bits += isDone(now, now.wire, half, deed, k -> true) ? 1 << deed : 0;
            }
            return bits;
        }

        private boolean done(int kind, int row) {
            State next = now.after(kind, row);
            if (next == null) {
                return false;
            }
            before.addLast(now);
            if (before.size() > 14) {
                before.removeFirst();
            }
            now = next;
            return true;
        }

        int draw(int row, int way) {
            if (row < 0 || row >= rows()) {
                return -1;
            }
            if (way < 0 || way > 1) {
                return -2;
            }
            return done(way, row) ? now.wire.get(row) : -3;
        }

        int change(int row) {
            if (row < 0 || row >= rows()) {
                return -1;
            }
            return done(2, row) ? cell(row, now.wire.get(row) - 1, 0) : -3;
        }

        int join() {
            done(3, 0);
            return now.gold;
        }

        int undo() {
            if (before.isEmpty()) {
                return -3;
            }
            now = before.removeLast();
            return before.size();
        }

        int best(int what) {
            if (what < 0 || what > 1) {
                return -2;
            }
            int[] best = null;
            for (List<Integer> wire : wires()) {
                int[] it = {doneCount(wire, 0, k -> true) + doneCount(wire, 1, k -> true),
                    partedCount(now, wire), number(wire)};
                if (best == null || it[0] > best[0] || it[0] == best[0] && it[1] < best[1]) {
                    best = it;
                }
            }
            return what == 0 ? best[2] : best[0];
        }

        int fewest(int deed, int what) {
            if (deed < 0 || deed >= deeds.size()) {
                return -1;
            }
            if (what < 0 || what > 1) {
                return -2;
            }
            int[] best = {-9, -9};
            for (List<Integer> wire : wires()) {
                int kin = partedCount(now, wire);
                if (isDone(now, wire, 0, deed, k -> true) && isDone(now, wire, 1, deed, k -> true)
                        && (best[0] == -9 || kin < best[1])) {
                    best = new int[] {number(wire), kin};
                }
            }
            return best[what];
        }

        private int worth(List<Integer> wire, int half, int figures) {
            String told = String.format("%04d", figures);
            int sum = 0;
            for (int part = 0; part < 4; part++) {
                sum += (told.charAt(part) - '0') * count(now, wire, half, part, k -> true);
            }
            return sum;
        }

        private int toldOf(List<List<Integer>> found, int what) {
            return what == 0 ? found.size() : found.isEmpty() ? -9 : number(found.get(0));
        }

        int fair(int one, int other, int what) {
            if (one < 0 || one > 9999 || other < 0 || other > 9999 || what < 0 || what > 1) {
                return -2;
            }
            List<List<Integer>> found = wires();
            found.removeIf(wire -> worth(wire, 0, one) < worth(wire, 1, one)
                    || worth(wire, 1, other) < worth(wire, 0, other));
            return toldOf(found, what);
        }

        int judge(int n, int row) {
            if (n < 1 || n > 4 || row < 0 || String.valueOf(row).length() > 2 * n) {
                return -2;
            }
            String figures = String.format("%0" + 2 * n + "d", row);
            State state = now;
            for (int place = 0; place < n; place++) {
                state = state.after(figures.charAt(2 * place) - '0', figures.charAt(2 * place + 1) - '0');
                if (state == null) {
                    return place;
                }
            }
            return -9;
        }

        private static int fraction(BigInteger above, BigInteger below, boolean upper) {
            BigInteger common = above.gcd(below);
            return (upper ? above : below).divide(common).intValueExact();
        }

        private void orders(List<Integer> order, List<List<Integer>> all) {
            if (order.size() == kinds.size()) {
                all.add(new ArrayList<>(order));
            }
            for (int kin = 0; kin < kinds.size(); kin++) {
                if (!order.contains(kin)) {
                    order.add(kin);
                    orders(order, all);
                    order.remove(order.size() - 1);
                }
            }
        }

        int share(int kin, int half, boolean upper) {
            if (kin < 0 || kin >= kinds.size()) {
                return -1;
            }
            if (half < 0 || half > 1) {
                return -2;
            }
            List<List<Integer>> all = new ArrayList<>();
            orders(new ArrayList<>(), all);
            long sum = 0;
            for (List<Integer> order : all) {
                int place = order.indexOf(kin);
                sum += doneCount(now.wire, half, k -> order.indexOf(k) <= place)
                        - doneCount(now.wire, half, k -> order.indexOf(k) < place);
            }
            return fraction(BigInteger.valueOf(sum), BigInteger.valueOf(all.size()), upper);
        }

        int see(int kin, int side) {
            if (kin < 0 || kin >= kinds.size()) {
                return -1;
            }
            if (side < 0 || side > 2) {
                return -2;
            }
            if (seen.size() == 6) {
                return -4;
            }
            seen.add(new int[] {kin, side});
            return seen.size();
        }

        int unsee() {
            int size = seen.size();
            seen.clear();
            return size;
        }

        private boolean isSo(List<Integer> wire, int[] sight) {
            int left = inHalf(now, wire, sight[0], 0);
            int right = inHalf(now, wire, sight[0], 1);
            int side = left > 0 && right > 0 ? 2 : left > 0 ? 0 : right > 0 ? 1 : -1;
            return sight[0] >= kinds.size() || side == sight[1];
        }

        int traces(int what) {
            if (what < 0 || what > 1) {
                return -2;
            }
            List<List<Integer>> found = wires();
            found.removeIf(wire -> !seen.stream().allMatch(sight -> isSo(wire, sight)));
            return toldOf(found, what);
        }

        private int[] pulled(int one, int other) {
            int left = 0, right = 0;
            for (int at : now.wire) {
                int mine = at, yours = 5 - at;
                if (one == 1 && other == 0 && yours > 0) {
                    mine++;
                    yours--;
                } else if (other == 1 && one == 0 && mine > 0) {
                    mine--;
                    yours++;
                }
                left += mine;
                right += yours;
            }
            return new int[] {left - (one == 1 ? 2 : 0), right - (other == 1 ? 2 : 0)};
        }

        int rests(int what) {
            if (what < 0 || what > 1) {
                return -2;
            }
            List<Integer> found = new ArrayList<>();
            for (int pair : new int[] {0, 1, 10, 11}) {
                int one = pair / 10, other = pair % 10;
                int[] here = pulled(one, other);
                if (pulled(1 - one, other)[0] <= here[0] && pulled(one, 1 - other)[1] <= here[1]) {
                    found.add(pair);
                }
            }
            return what == 0 ? found.size() : found.isEmpty() ? -9 : found.get(0);
        }

        private BigInteger chance(List<Integer> wire, int deed, int half, int tenths) {
            if (wire.size() == rows()) {
                return isDone(now, wire, half, deed, k -> true) ? BigInteger.ONE : BigInteger.ZERO;
            }
            int at = now.wire.get(wire.size());
            List<Integer> stays = new ArrayList<>(wire);
            stays.add(at);
            List<Integer> moves = new ArrayList<>(wire);
            moves.add(at == 5 ? 5 : at + 1);
            return BigInteger.valueOf(10 - tenths).multiply(chance(stays, deed, half, tenths))
                    .add(BigInteger.valueOf(tenths).multiply(chance(moves, deed, half, tenths)));
        }

        int slips(int deed, int half, int tenths, boolean upper) {
            if (deed < 0 || deed >= deeds.size()) {
                return -1;
            }
            if (half < 0 || half > 1 || tenths < 0 || tenths > 10) {
                return -2;
            }
            return fraction(chance(new ArrayList<>(), deed, half, tenths), BigInteger.TEN.pow(rows()), upper);
        }

        long seed(long v) {
            long old = seed.longValue();
            seed = new BigInteger(Long.toUnsignedString(v));
            return old;
        }

        int years(int m) {
            if (m < 1 || m > 30) {
                return -2;
            }
            State state = now;
            int sum = 0;
            for (int year = 0; year < m; year++) {
                seed = seed.multiply(new BigInteger("6364136223846793005"))
                        .add(new BigInteger("1442695040888963407")).mod(BigInteger.ONE.shiftLeft(64));
                int chance = seed.shiftRight(33).mod(BigInteger.valueOf(16)).intValue();
                State next = chance == 15 ? state.after(3, 0)
                        : chance >= 10 ? state.after(2, chance - 10)
                        : chance >= 5 ? state.after(1, chance - 5) : state.after(0, chance);
                state = next == null ? state : next;
                sum += partedCount(state, state.wire);
            }
            return sum;
        }

        int keep(int slot) {
            if (slot < 0 || slot > 1) {
                return -1;
            }
            kept[slot] = now;
            return now.gold;
        }

        int again(int slot) {
            if (slot < 0 || slot > 1) {
                return -1;
            }
            if (kept[slot] == null) {
                return -3;
            }
            now = kept[slot];
            before.clear();
            return now.gold;
        }
    }
}
