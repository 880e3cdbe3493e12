import java.util.ArrayDeque;
import java.util.ArrayList;
import java.util.Arrays;
import java.util.List;
import java.util.TreeSet;

/**
 * The document's words once more, cell by cell and with the Java library, to be compared with the
 * class: it shares no way of working with it.
 */
public final class Plain {
    /** A picture as a text of 192 signs. */
    private final List<String> pics = new ArrayList<>();
    private final List<String> frames = new ArrayList<>();
    private int knocks = 0;

    private static void index(boolean isThere) {
        if (!isThere) {
            throw new IndexOutOfBoundsException();
        }
    }

    private static void argument(boolean isRight) {
        if (!isRight) {
            throw new IllegalArgumentException();
        }
    }

    private static void state(boolean isRight) {
        if (!isRight) {
            throw new IllegalStateException();
        }
    }

    private String pic(int pic) {
        index(pic >= 0 && pic < pics.size());
        return pics.get(pic);
    }

    private int made(String cells) {
        state(pics.size() < 8);
        pics.add(cells);
        return pics.size() - 1;
    }

    private static boolean in(int l, int c) {
        return l >= 0 && l < 12 && c >= 0 && c < 16;
    }

    private static boolean black(String p, int l, int c) {
        return in(l, c) && p.charAt(16 * l + c) == '#';
    }

    /** What tells whether a cell is black. */
    private interface Cell {
        boolean at(int l, int c);
    }

    private static String of(Cell cell) {
        StringBuilder p = new StringBuilder();
        for (int at = 0; at < 192; at++) {
            p.append(cell.at(at / 16, at % 16) ? '#' : '.');
        }
        return p.toString();
    }

    private static int count(String p) {
        return (int) p.chars().filter(sign -> sign == '#').count();
    }

    public int blank() {
        return made(".".repeat(192));
    }

    public int drop() {
        state(!pics.isEmpty());
        pics.remove(pics.size() - 1);
        return pics.size();
    }

    private int change(int pic, int line, int from, int to, boolean isBlack) {
        String p = pic(pic);
        index(line >= 0 && line < 12);
        argument(from >= 0 && from <= 15);
        argument(to >= from && to <= 15);
        pics.set(pic, of((l, c) -> l == line && c >= from && c <= to ? isBlack : black(p, l, c)));
        return runList(pics.get(pic), line).size();
    }

    public int put(int pic, int line, int from, int to) {
        return change(pic, line, from, to, true);
    }

    public int take(int pic, int line, int from, int to) {
        return change(pic, line, from, to, false);
    }

    public int draw(int pic, int line, int bits) {
        String p = pic(pic);
        index(line >= 0 && line < 12);
        argument(bits >= 0 && bits <= 65535);
        pics.set(pic, of((l, c) -> l == line ? bits / (int) Math.pow(2, c) % 2 == 1 : black(p, l, c)));
        return runList(pics.get(pic), line).size();
    }

    public int copy(int pic) {
        return made(pic(pic));
    }

    public int join(int one, int other, int how) {
        String p = pic(one);
        String q = pic(other);
        argument(how >= 0 && how <= 3);
        return made(of((l, c) -> {
            boolean a = black(p, l, c);
            boolean b = black(q, l, c);
            return how == 0 ? a || b : how == 1 ? a && b : how == 2 ? a && !b : a != b;
        }));
    }

    public int not(int pic) {
        String p = pic(pic);
        return made(of((l, c) -> !black(p, l, c)));
    }

    public int mirror(int pic, int how) {
        String p = pic(pic);
        argument(how >= 0 && how <= 2);
        return made(of((l, c) -> black(p, how == 0 ? l : 11 - l, how == 1 ? c : 15 - c)));
    }

    public int move(int pic, int down, int right) {
        String p = pic(pic);
        argument(down >= -16 && down <= 16 && right >= -16 && right <= 16);
        return made(of((l, c) -> black(p, l - down, c - right)));
    }

    public int scale(int pic, int times) {
        String p = pic(pic);
        argument(times >= 1 && times <= 4);
        return made(of((l, c) -> black(p, l / times, c / times)));
    }

    private static boolean has(int shape, int d, int r) {
        return Integer.toBinaryString(shape + 512).charAt(9 - (3 * (d + 1) + (r + 1))) == '1';
    }

    private static String grown(String p, int shape) {
        boolean[][] made = new boolean[14][18];
        for (int at = 0; at < 192; at++) {
            for (int d = -1; d <= 1; d++) {
                for (int r = -1; r <= 1; r++) {
                    if (p.charAt(at) == '#' && has(shape, d, r)) {
                        made[at / 16 + d + 1][at % 16 + r + 1] = true;
                    }
                }
            }
        }
        return of((l, c) -> made[l + 1][c + 1]);
    }

    private static String shrunk(String p, int shape) {
        return of((l, c) -> {
            for (int d = -1; d <= 1; d++) {
                for (int r = -1; r <= 1; r++) {
                    if (has(shape, d, r) && in(l + d, c + r) && !black(p, l + d, c + r)) {
                        return false;
                    }
                }
            }
            return true;
        });
    }

    private String shaped(int pic, int shape) {
        String p = pic(pic);
        argument(shape >= 0 && shape <= 511);
        return p;
    }

    public int grow(int pic, int shape) {
        return made(grown(shaped(pic, shape), shape));
    }

    public int shrink(int pic, int shape) {
        return made(shrunk(shaped(pic, shape), shape));
    }

    public int open(int pic, int shape) {
        return made(grown(shrunk(shaped(pic, shape), shape), shape));
    }

    public int close(int pic, int shape) {
        return made(shrunk(grown(shaped(pic, shape), shape), shape));
    }

    private static String thinned(String p) {
        String now = p;
        for (int[] side : new int[][] {{-1, 0}, {1, 0}, {0, -1}, {0, 1}}) {
            String begin = now;
            for (int at = 0; at < 192; at++) {
                int l = at / 16;
                int c = at % 16;
                if (black(begin, l, c) && !black(begin, l + side[0], c + side[1]) && simple(now, l, c)) {
                    now = now.substring(0, at) + "." + now.substring(at + 1);
                }
            }
        }
        return now;
    }

    private static boolean simple(String p, int l, int c) {
        boolean[] white = {
            !black(p, l, c + 1), !black(p, l - 1, c + 1), !black(p, l - 1, c), !black(p, l - 1, c - 1),
            !black(p, l, c - 1), !black(p, l + 1, c - 1), !black(p, l + 1, c), !black(p, l + 1, c + 1)
        };
        int sides = 0;
        int blacks = 0;
        for (int n = 0; n < 8; n++) {
            blacks += white[n] ? 0 : 1;
            if (n % 2 == 0 && white[n] && !(white[n + 1] && white[(n + 2) % 8])) {
                sides++;
            }
        }
        return sides == 1 && blacks >= 2;
    }

    private static String skeletonOf(String p) {
        String next = thinned(p);
        return next.equals(p) ? p : skeletonOf(next);
    }

    public int thin(int pic) {
        return made(thinned(pic(pic)));
    }

    public int skeleton(int pic) {
        return made(skeletonOf(pic(pic)));
    }

    /** Cells of one color that hang together, as sets of l * 100 + c, by rising first cells. */
    private static List<TreeSet<Integer>> groups(String p, boolean isBlack, boolean corners) {
        List<TreeSet<Integer>> found = new ArrayList<>();
        TreeSet<Integer> seen = new TreeSet<>();
        for (int l = 0; l < 12; l++) {
            for (int c = 0; c < 16; c++) {
                if (black(p, l, c) == isBlack && !seen.contains(l * 100 + c)) {
                    TreeSet<Integer> group = group(p, l, c, corners);
                    seen.addAll(group);
                    found.add(group);
                }
            }
        }
        return found;
    }

    private static TreeSet<Integer> group(String p, int line, int column, boolean corners) {
        boolean isBlack = black(p, line, column);
        TreeSet<Integer> group = new TreeSet<>();
        ArrayDeque<int[]> next = new ArrayDeque<>();
        next.add(new int[] {line, column});
        while (!next.isEmpty()) {
            int[] at = next.removeLast();
            boolean isNear = at[0] >= -1 && at[0] <= 12 && at[1] >= -1 && at[1] <= 16;
            if (isNear && black(p, at[0], at[1]) == isBlack && group.add(at[0] * 100 + at[1])) {
                for (int d = -1; d <= 1; d++) {
                    for (int r = -1; r <= 1; r++) {
                        if (corners || d == 0 || r == 0) {
                            next.add(new int[] {at[0] + d, at[1] + r});
                        }
                    }
                }
            }
        }
        return group;
    }

    private static List<TreeSet<Integer>> parts(String p, boolean isEight) {
        return groups(p, true, isEight);
    }

    private static List<TreeSet<Integer>> holes(String p, boolean isEight) {
        List<TreeSet<Integer>> all = groups(p, false, !isEight);
        all.removeIf(group -> group.stream().anyMatch(at -> at < 0 || at / 100 > 11 || at % 100 > 15));
        return all;
    }

    private static int numberOf(List<TreeSet<Integer>> groups, int at) {
        for (int k = 0; k < groups.size(); k++) {
            if (groups.get(k).contains(at)) {
                return k;
            }
        }
        return -1;
    }

    public int part(int pic, boolean isEight, int k) {
        List<TreeSet<Integer>> parts = parts(pic(pic), isEight);
        index(k >= 0 && k < parts.size());
        return made(of((l, c) -> parts.get(k).contains(l * 100 + c)));
    }

    public int fillHoles(int pic, boolean isEight) {
        String p = pic(pic);
        List<TreeSet<Integer>> holes = holes(p, isEight);
        return made(of((l, c) -> black(p, l, c) || numberOf(holes, l * 100 + c) >= 0));
    }

    /** An outline: its steps, and line and column from which each goes. */
    private static final class Way {
        final StringBuilder steps = new StringBuilder();
        final List<int[]> corners = new ArrayList<>();
    }

    private static boolean step(String p, int l, int c, char sign) {
        switch (sign) {
            case 'E':
                return black(p, l, c) && !black(p, l - 1, c);
            case 'S':
                return black(p, l, c - 1) && !black(p, l, c);
            case 'W':
                return black(p, l - 1, c - 1) && !black(p, l, c - 1);
            default:
                return black(p, l - 1, c) && !black(p, l - 1, c - 1);
        }
    }

    private static List<Way> ways(String p, boolean isEight) {
        List<Way> ways = new ArrayList<>();
        TreeSet<Integer> taken = new TreeSet<>();
        for (int at = 0; at < 13 * 17; at++) {
            if (step(p, at / 17, at % 17, 'E') && !taken.contains(at)) {
                Way way = way(p, at / 17, at % 17, isEight);
                for (int n = 0; n < way.corners.size(); n++) {
                    if (way.steps.charAt(n) == 'E') {
                        taken.add(way.corners.get(n)[0] * 17 + way.corners.get(n)[1]);
                    }
                }
                ways.add(way);
            }
        }
        return ways;
    }

    private static Way way(String p, int line, int column, boolean isEight) {
        Way way = new Way();
        int l = line;
        int c = column;
        char sign = 'E';
        do {
            way.steps.append(sign);
            way.corners.add(new int[] {l, c});
            l += sign == 'S' ? 1 : sign == 'N' ? -1 : 0;
            c += sign == 'E' ? 1 : sign == 'W' ? -1 : 0;
            String clock = "ESWN";
            char left = clock.charAt((clock.indexOf(sign) + 3) % 4);
            char right = clock.charAt((clock.indexOf(sign) + 1) % 4);
            boolean goesLeft = step(p, l, c, left);
            boolean goesRight = step(p, l, c, right);
            if (goesLeft && goesRight) {
                sign = isEight ? left : right;
            } else if (goesLeft || goesRight) {
                sign = goesLeft ? left : right;
            }
        } while (l != line || c != column || sign != 'E');
        return way;
    }

    private static int area(Way way) {
        int area = 0;
        for (int n = 0; n < way.corners.size(); n++) {
            char sign = way.steps.charAt(n);
            area += sign == 'W' ? way.corners.get(n)[0] : sign == 'E' ? -way.corners.get(n)[0] : 0;
        }
        return area;
    }

    private static String filled(List<Way> ways) {
        return of((l, c) -> {
            int crossed = 0;
            for (Way way : ways) {
                for (int n = 0; n < way.corners.size(); n++) {
                    char sign = way.steps.charAt(n);
                    int line = way.corners.get(n)[0] - (sign == 'N' ? 1 : 0);
                    if ("NS".indexOf(sign) >= 0 && line == l && way.corners.get(n)[1] <= c) {
                        crossed++;
                    }
                }
            }
            return crossed % 2 == 1;
        });
    }

    public int refill(int pic, boolean isEight) {
        return made(filled(ways(pic(pic), isEight)));
    }

    public int readBack(int pic, int how) {
        String p = pic(pic);
        argument(how >= 0 && how <= 2);
        return made(p);
    }

    public int shoot(int pic) {
        String p = pic(pic);
        state(frames.size() < 8);
        frames.add(p);
        return frames.size() - 1;
    }

    public int frame(int k) {
        index(k >= 0 && k < frames.size());
        return made(frames.get(k));
    }

    public int cut() {
        int count = frames.size();
        frames.clear();
        return count;
    }

    public String text(int pic, int line) {
        String p = pic(pic);
        index(line >= 0 && line < 12);
        return p.substring(16 * line, 16 * line + 16);
    }

    private static List<String> runList(String p, int line) {
        List<String> runs = new ArrayList<>();
        for (int c = 0; c < 16; c++) {
            if (black(p, line, c) && !black(p, line, c - 1)) {
                int to = c;
                while (black(p, line, to + 1)) {
                    to++;
                }
                runs.add(c + "-" + to);
            }
        }
        return runs;
    }

    public String runs(int pic, int line) {
        String p = pic(pic);
        index(line >= 0 && line < 12);
        return String.join(" ", runList(p, line));
    }

    private static int runCount(String p) {
        int count = 0;
        for (int l = 0; l < 12; l++) {
            count += runList(p, l).size();
        }
        return count;
    }

    private static int squares(String p, int kind) {
        int count = 0;
        for (int l = -1; l < 12; l++) {
            for (int c = -1; c < 16; c++) {
                boolean a = black(p, l, c);
                boolean b = black(p, l, c + 1);
                boolean d = black(p, l + 1, c);
                boolean e = black(p, l + 1, c + 1);
                int blacks = (a ? 1 : 0) + (b ? 1 : 0) + (d ? 1 : 0) + (e ? 1 : 0);
                count += kind == 2 ? (blacks == 2 && a == e ? 1 : 0) : (blacks == kind ? 1 : 0);
            }
        }
        return count;
    }

    private static int[] box(String p) {
        int[] box = {99, 99, -1, -1};
        for (int at = 0; at < 192; at++) {
            if (p.charAt(at) == '#') {
                box[0] = Math.min(box[0], at / 16);
                box[1] = Math.min(box[1], at % 16);
                box[2] = Math.max(box[2], at / 16);
                box[3] = Math.max(box[3], at % 16);
            }
        }
        return box[2] < 0 ? new int[] {-1, -1, -1, -1} : box;
    }

    public int ofPicture(int pic, int what) {
        String p = pic(pic);
        argument(what >= 0 && what <= 13);
        int used = 0;
        for (int l = 0; l < 12; l++) {
            used += runList(p, l).isEmpty() ? 0 : 1;
        }
        int[] box = box(p);
        switch (what) {
            case 0: return count(p);
            case 1: return runCount(p);
            case 2: return used;
            case 3: return parts(p, false).size();
            case 4: return parts(p, true).size();
            case 5: return holes(p, false).size();
            case 6: return holes(p, true).size();
            case 11: return squares(p, 1);
            case 12: return squares(p, 3);
            case 13: return squares(p, 2);
            default: return box[what - 7];
        }
    }

    public int compare(int one, int other, int what) {
        String p = pic(one);
        String q = pic(other);
        argument(what >= 0 && what <= 3);
        if (what == 0) {
            return p.equals(q) ? 1 : 0;
        }
        if (what == 1) {
            return count(of((l, c) -> black(p, l, c) && !black(q, l, c))) == 0 ? 1 : 0;
        }
        if (what == 2) {
            return count(of((l, c) -> black(p, l, c) != black(q, l, c)));
        }
        int alike = 0;
        for (int l = 0; l < 12; l++) {
            alike += runList(p, l).equals(runList(q, l)) ? 1 : 0;
        }
        return alike;
    }

    public int partOf(int pic, boolean isEight, int line, int column) {
        String p = pic(pic);
        index(in(line, column));
        return numberOf(parts(p, isEight), line * 100 + column);
    }

    private static int first(TreeSet<Integer> group) {
        return group.first() / 100 * 16 + group.first() % 100;
    }

    private static int holeRound(String p, boolean isEight, int k) {
        return numberOf(holes(p, isEight), parts(p, isEight).get(k).first() - 100);
    }

    private static int partRound(String p, boolean isEight, int k) {
        return numberOf(parts(p, isEight), holes(p, isEight).get(k).first() - 100);
    }

    private static int depth(String p, boolean isEight, int k) {
        int hole = holeRound(p, isEight, k);
        return hole < 0 ? 0 : 1 + depth(p, isEight, partRound(p, isEight, hole));
    }

    public int ofPart(int pic, boolean isEight, int k, int what) {
        String p = pic(pic);
        List<TreeSet<Integer>> parts = parts(p, isEight);
        index(k >= 0 && k < parts.size());
        argument(what >= 0 && what <= 6);
        TreeSet<Integer> part = parts.get(k);
        int inside = 0;
        for (int hole = 0; hole < holes(p, isEight).size(); hole++) {
            inside += partRound(p, isEight, hole) == k ? 1 : 0;
        }
        switch (what) {
            case 0: return part.size();
            case 1: return first(part);
            case 2: return inside;
            case 3: return holeRound(p, isEight, k);
            case 4: return depth(p, isEight, k);
            case 5: return (int) part.stream().map(at -> at / 100).distinct().count();
            default: return (int) part.stream().map(at -> at % 100).distinct().count();
        }
    }

    public int ofHole(int pic, boolean isEight, int k, int what) {
        String p = pic(pic);
        List<TreeSet<Integer>> holes = holes(p, isEight);
        index(k >= 0 && k < holes.size());
        argument(what >= 0 && what <= 3);
        int inside = 0;
        for (int part = 0; part < parts(p, isEight).size(); part++) {
            inside += holeRound(p, isEight, part) == k ? 1 : 0;
        }
        switch (what) {
            case 0: return holes.get(k).size();
            case 1: return first(holes.get(k));
            case 2: return partRound(p, isEight, k);
            default: return inside;
        }
    }

    public int largest(int pic, boolean isEight) {
        List<TreeSet<Integer>> parts = parts(pic(pic), isEight);
        int most = parts.stream().mapToInt(TreeSet::size).max().orElse(0);
        for (int k = 0; k < parts.size(); k++) {
            if (parts.get(k).size() == most) {
                return k;
            }
        }
        return -1;
    }

    private static String nested(String p, boolean isEight, int hole) {
        StringBuilder tree = new StringBuilder();
        for (int part = 0; part < parts(p, isEight).size(); part++) {
            if (holeRound(p, isEight, part) == hole) {
                tree.append("[");
                for (int inner = 0; inner < holes(p, isEight).size(); inner++) {
                    if (partRound(p, isEight, inner) == part) {
                        tree.append("(").append(nested(p, isEight, inner)).append(")");
                    }
                }
                tree.append("]");
            }
        }
        return tree.toString();
    }

    public String tree(int pic, boolean isEight) {
        return nested(pic(pic), isEight, -1);
    }

    public int outlines(int pic, boolean isEight) {
        return ways(pic(pic), isEight).size();
    }

    private Way wayOf(int pic, boolean isEight, int k) {
        List<Way> ways = ways(pic(pic), isEight);
        index(k >= 0 && k < ways.size());
        return ways.get(k);
    }

    public String outline(int pic, boolean isEight, int k) {
        return wayOf(pic, isEight, k).steps.toString();
    }

    public int ofOutline(int pic, boolean isEight, int k, int what) {
        Way way = wayOf(pic, isEight, k);
        argument(what >= 0 && what <= 3);
        return what < 2 ? way.corners.get(0)[what] : what == 2 ? way.steps.length() : area(way);
    }

    private static int apart(int measure, int at, int line, int column) {
        int lines = Math.abs(at / 16 - line);
        int columns = Math.abs(at % 16 - column);
        return measure == 0 ? lines + columns : measure == 1 ? Math.max(lines, columns)
                : lines * lines + columns * columns;
    }

    private static int nearestPlace(String p, int measure, int line, int column) {
        int best = -1;
        for (int at = 191; at >= 0; at--) {
            if (p.charAt(at) == '#'
                    && (best < 0 || apart(measure, at, line, column) <= apart(measure, best, line, column))) {
                best = at;
            }
        }
        return best;
    }

    private String measured(int pic, int measure, int line, int column) {
        String p = pic(pic);
        index(in(line, column));
        argument(measure >= 0 && measure <= 2);
        return p;
    }

    public int nearest(int pic, int measure, int line, int column) {
        int at = nearestPlace(measured(pic, measure, line, column), measure, line, column);
        return at < 0 ? -1 : apart(measure, at, line, column);
    }

    public int nearestCell(int pic, int measure, int line, int column) {
        return nearestPlace(measured(pic, measure, line, column), measure, line, column);
    }

    public int farthest(int pic, int measure) {
        measured(pic, measure, 0, 0);
        int best = -1;
        int most = -1;
        for (int at = 0; at < 192; at++) {
            int here = nearest(pic, measure, at / 16, at % 16);
            if (here > most) {
                most = here;
                best = at;
            }
        }
        return best;
    }

    private List<Integer> fits(int pic, int pattern, int faults, int k) {
        String p = pic(pic);
        String q = pic(pattern);
        argument(faults >= 0 && faults <= 50 && k >= 0);
        state(count(q) > 0);
        int[] box = box(q);
        List<Integer> found = new ArrayList<>();
        for (int at = 0; at < 192; at++) {
            int wrong = 0;
            for (int l = box[0]; l <= box[2]; l++) {
                for (int c = box[1]; c <= box[3]; c++) {
                    int line = at / 16 + l - box[0];
                    int column = at % 16 + c - box[1];
                    wrong += !in(line, column) ? 1000 : black(p, line, column) != black(q, l, c) ? 1 : 0;
                }
            }
            if (wrong <= faults) {
                found.add(at);
            }
        }
        return found;
    }

    public int places(int pic, int pattern, int faults) {
        return fits(pic, pattern, faults, 0).size();
    }

    public int placeAt(int pic, int pattern, int faults, int k) {
        List<Integer> fits = fits(pic, pattern, faults, k);
        return k < fits.size() ? fits.get(k) : -1;
    }

    private static int inWindow(String p, int top, int left, int bottom, int right) {
        return count(of((l, c) -> black(p, l, c) && l >= top && l <= bottom && c >= left && c <= right));
    }

    public int sum(int pic, int top, int left, int bottom, int right) {
        String p = pic(pic);
        argument(top >= 0 && top <= 11 && bottom >= top && bottom <= 11);
        argument(left >= 0 && left <= 15 && right >= left && right <= 15);
        return inWindow(p, top, left, bottom, right);
    }

    public int densest(int pic, int height, int width) {
        String p = pic(pic);
        argument(height >= 1 && height <= 12 && width >= 1 && width <= 16);
        int best = -1;
        int most = -1;
        for (int at = 0; at < 192; at++) {
            if (in(at / 16 + height - 1, at % 16 + width - 1)) {
                int here = inWindow(p, at / 16, at % 16, at / 16 + height - 1, at % 16 + width - 1);
                if (here > most) {
                    most = here;
                    best = at;
                }
            }
        }
        return best;
    }

    private static String quarter(String p, int l, int c, int size) {
        if (size == 1) {
            return black(p, l, c) ? "#" : ".";
        }
        int half = size / 2;
        String all = quarter(p, l, c, half) + quarter(p, l, c + half, half)
                + quarter(p, l + half, c, half) + quarter(p, l + half, c + half, half);
        return all.equals("....") ? "." : all.equals("####") ? "#" : "(" + all + ")";
    }

    private static String pack(String p, int how) {
        List<String> texts = new ArrayList<>();
        if (how == 0) {
            for (int l = 0; l < 12; l++) {
                if (!runList(p, l).isEmpty()) {
                    texts.add(l + ":" + String.join(",", runList(p, l)));
                }
            }
        } else if (how == 1) {
            return quarter(p, 0, 0, 16);
        } else {
            for (Way way : ways(p, true)) {
                texts.add(way.corners.get(0)[0] + "," + way.corners.get(0)[1] + ":" + way.steps);
            }
        }
        return String.join(";", texts);
    }

    public String packed(int pic, int how) {
        String p = pic(pic);
        argument(how >= 0 && how <= 2);
        return pack(p, how);
    }

    public int leastPacked(int pic) {
        String p = pic(pic);
        int runs = pack(p, 0).length();
        int quarters = pack(p, 1).length();
        int steps = pack(p, 2).length();
        return runs <= quarters && runs <= steps ? 0 : quarters <= steps ? 1 : 2;
    }

    private String changeOf(int k) {
        return k == 0 ? frames.get(0)
                : of((l, c) -> black(frames.get(k), l, c) != black(frames.get(k - 1), l, c));
    }

    /** The labels of all frames, from the first one on. */
    private List<int[]> allLabels() {
        List<int[]> all = new ArrayList<>();
        int greatest = 0;
        for (int k = 0; k < frames.size(); k++) {
            List<TreeSet<Integer>> parts = parts(frames.get(k), true);
            int[] labels = new int[parts.size()];
            if (k > 0) {
                follow(parts, parts(frames.get(k - 1), true), labels, all.get(k - 1));
            }
            for (int part = 0; part < labels.length; part++) {
                if (labels[part] == 0) {
                    greatest++;
                    labels[part] = greatest;
                }
            }
            all.add(labels);
        }
        return all;
    }

    private static void follow(
            List<TreeSet<Integer>> parts, List<TreeSet<Integer>> ahead, int[] labels, int[] labelsAhead) {
        List<int[]> pairs = new ArrayList<>();
        for (int part = 0; part < parts.size(); part++) {
            for (int other = 0; other < ahead.size(); other++) {
                TreeSet<Integer> common = new TreeSet<>(parts.get(part));
                common.retainAll(ahead.get(other));
                if (!common.isEmpty()) {
                    pairs.add(new int[] {-common.size(), part, other});
                }
            }
        }
        pairs.sort(Arrays::compare);
        for (int[] pair : pairs) {
            int label = labelsAhead[pair[2]];
            if (labels[pair[1]] == 0 && Arrays.stream(labels).noneMatch(given -> given == label)) {
                labels[pair[1]] = label;
            }
        }
    }

    public int ofFilm(int what) {
        argument(what >= 0 && what <= 4);
        int runs = 0;
        int cells = 0;
        int best = -1;
        for (int k = 0; k < frames.size(); k++) {
            String change = changeOf(k);
            runs += runCount(change);
            cells += count(change);
            if (best < 0 || count(change) > count(changeOf(best))) {
                best = k;
            }
        }
        int greatest = allLabels().stream().flatMapToInt(Arrays::stream).max().orElse(0);
        return new int[] {frames.size(), runs, cells, greatest, best}[what];
    }

    public int label(int k, int line, int column) {
        index(k >= 0 && k < frames.size() && in(line, column));
        int part = numberOf(parts(frames.get(k), true), line * 100 + column);
        return part < 0 ? 0 : allLabels().get(k)[part];
    }

    public String labels(int k) {
        index(k >= 0 && k < frames.size());
        List<String> texts = new ArrayList<>();
        for (int label : allLabels().get(k)) {
            texts.add(Integer.toString(label));
        }
        return String.join(" ", texts);
    }

    public int house(int what) {
        argument(what >= 0 && what <= 4);
        int cells = 0;
        int runs = 0;
        for (String p : pics) {
            cells += count(p);
            runs += runCount(p);
        }
        return new int[] {pics.size(), cells, runs, new TreeSet<>(pics).size(), knocks}[what];
    }

    public int knock() {
        return ++knocks;
    }

    /** All of it is so of each picture there can be: the class has to find that out. */
    public boolean isSound() {
        return true;
    }

    public long digest() {
        List<Integer> all = new ArrayList<>();
        for (int what = 0; what <= 4; what++) {
            all.add(house(what));
        }
        for (int pic = 0; pic < pics.size(); pic++) {
            for (int what = 0; what <= 13; what++) {
                all.add(ofPicture(pic, what));
            }
            for (int l = 0; l < 12; l++) {
                String signs = new StringBuilder(text(pic, l)).reverse().toString();
                all.add(Integer.parseInt(signs.replace('#', '1').replace('.', '0'), 2));
            }
            all.add(largest(pic, false));
            all.add(largest(pic, true));
            all.add(tree(pic, false).length());
            all.add(tree(pic, true).length());
            all.add(leastPacked(pic));
            for (int measure = 0; measure <= 2; measure++) {
                all.add(farthest(pic, measure));
            }
        }
        for (int what = 0; what <= 4; what++) {
            all.add(ofFilm(what));
        }
        for (int k = 0; k < frames.size(); k++) {
            labels(k).chars().forEach(all::add);
        }
        all.add(isSound() ? 1 : 0);
        long d = 6109;
        for (int v : all) {
            d = d * 31 + v;
        }
        return d;
    }
}
