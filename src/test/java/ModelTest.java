import java.math.BigInteger;
import java.util.ArrayList;
import java.util.List;
import java.util.Random;

/**
 * Many runs of calls, drawn from fixed seeds, each answer compared with a slow model that keeps
 * whole copies of its state and computes cells without a limit of bits.
 */
public final class ModelTest {
    private static final int RUNS = 3000;
    private static final int CALLS = 510;

    /** One point of the work: what a checkpoint keeps. */
    private static final class Point {
        List<BigInteger> cells = new ArrayList<>();
        List<Integer> positions = new ArrayList<>();
        List<BigInteger> rows = new ArrayList<>();
        int edition;
        boolean torn;

        Point copy() {
            Point p = new Point();
            p.cells.addAll(cells);
            p.positions.addAll(positions);
            p.rows.addAll(rows);
            p.edition = edition;
            p.torn = torn;
            return p;
        }
    }

    private static final class Model {
        final List<BigInteger> firsts = new ArrayList<>();
        final List<Integer> lengths = new ArrayList<>();
        final List<Point> points = new ArrayList<>();
        Point now = new Point();
        boolean down;
        int told;
        int cuts;

        long cell(long v) {
            if (down || !now.rows.isEmpty()) return -5;
            if (firsts.size() == 12) return -1;
            firsts.add(BigInteger.valueOf(v));
            now.cells.add(BigInteger.valueOf(v));
            return firsts.size() - 1;
        }

        long file(int length) {
            if (length < 0 || length > 2000) return -4;
            if (down || !now.rows.isEmpty()) return -5;
            if (lengths.size() == 6) return -1;
            lengths.add(length);
            now.positions.add(0);
            return lengths.size() - 1;
        }

        boolean left(Point p) {
            for (int f = 0; f < lengths.size(); f++) {
                if (p.positions.get(f) < lengths.get(f)) return true;
            }
            return false;
        }

        void unit(Point p) {
            int u = p.rows.size() + 1;
            int f = (u - 1) % lengths.size();
            int r = p.positions.get(f);
            int c = firsts.isEmpty() ? -1 : (u - 1) % firsts.size();
            if (r < lengths.get(f)) {
                p.positions.set(f, r + 1);
                BigInteger more = BigInteger.valueOf(u).multiply(BigInteger.valueOf(1000L * (f + 1) + r));
                if (c >= 0) p.cells.set(c, p.cells.get(c).add(more));
            }
            p.rows.add(c < 0 ? BigInteger.ZERO : p.cells.get(c));
        }

        long step(int n) {
            if (n < 0 || n > 1000) return -4;
            if (down) return -5;
            int done = 0;
            while (done < n && now.rows.size() < 5000 && left(now)) {
                unit(now);
                done++;
            }
            return done;
        }

        long check() {
            if (down) return -5;
            if (points.size() == 100) return -1;
            List<String> parts = new ArrayList<>();
            parts.add("mark");
            for (int i = 0; i < firsts.size(); i++) parts.add("cell");
            for (int i = 0; i < lengths.size(); i++) parts.add("position");
            parts.add("units");
            parts.add("edition");
            parts.add("end");
            boolean comes = told > 0 && parts.size() >= told;
            for (int i = 1; i <= parts.size(); i++) {
                if (comes && i == told) {
                    told = 0;
                    down = true;
                    cuts++;
                    return 0;
                }
                if (i == 1) {
                    Point p = now.copy();
                    p.torn = true;
                    points.add(p);
                }
                if (i == parts.size()) points.get(points.size() - 1).torn = false;
            }
            return points.size();
        }

        long cut(int write) {
            if (write < 0 || write > 30) return -4;
            told = write;
            if (write == 0) {
                down = true;
                cuts++;
            }
            return 1;
        }

        long restart(int check) {
            if (!down) return -5;
            if (check < 1 || check > points.size()) return -1;
            int k = check;
            while (k >= 1 && points.get(k - 1).torn) k--;
            if (k == 0) return -1;
            Point p = points.get(k - 1).copy();
            if (p.edition != now.edition) return -3;
            for (int f = 0; f < p.positions.size(); f++) {
                if (lengths.get(f) < p.positions.get(f)) return -2;
            }
            while (p.cells.size() < firsts.size()) p.cells.add(firsts.get(p.cells.size()));
            while (p.positions.size() < lengths.size()) p.positions.add(0);
            now = p;
            while (points.size() > k) points.remove(points.size() - 1);
            down = false;
            return k;
        }

        long grow(int file, int n) {
            if (file < 0 || file >= lengths.size()) return -1;
            long length = (long) lengths.get(file) + n;
            if (length < 0 || length > 2000) return -4;
            lengths.set(file, (int) length);
            return length;
        }

        long edition(int e) {
            int before = now.edition;
            now.edition = e;
            return before;
        }

        long torn(int check) {
            if (check < 1 || check > points.size()) return -1;
            return points.get(check - 1).torn ? 1 : 0;
        }

        boolean equal() {
            Point fresh = new Point();
            fresh.cells.addAll(firsts);
            for (int f = 0; f < lengths.size(); f++) fresh.positions.add(0);
            while (fresh.rows.size() < now.rows.size() && left(fresh)) unit(fresh);
            return fresh.rows.equals(now.rows) && fresh.cells.equals(now.cells);
        }

        long count(int what) {
            long[] all = {firsts.size(), lengths.size(), now.rows.size(), points.size(),
                down ? 1 : 0, left(now) ? 0 : 1, cuts};
            return what < 0 || what > 6 ? -1 : all[what];
        }

        boolean hasRow(int i) {
            return i >= 0 && i < now.rows.size();
        }
    }

    private static int wrong = 0;
    private static long compared = 0;

    private static void due(int run, String call, Object got, Object want) {
        compared++;
        if (!got.equals(want)) {
            wrong++;
            if (wrong <= 20) {
                System.out.println("run " + run + ": " + call + " answered " + got + ", due is " + want);
            }
        }
    }

    private static Object getOf(CheckRestart x, int cell) {
        try {
            return x.get(cell);
        } catch (RuntimeException e) {
            return e.getClass().getSimpleName();
        }
    }

    private static Object rowOf(CheckRestart x, int i) {
        try {
            return (long) x.row(i);
        } catch (RuntimeException e) {
            return e.getClass().getSimpleName();
        }
    }

    private static int anyInt(Random r, int low, int high) {
        int[] edges = {low - 1, low, high, high + 1, Integer.MIN_VALUE, Integer.MAX_VALUE};
        return r.nextInt(12) == 0 ? edges[r.nextInt(edges.length)] : low + r.nextInt(high - low + 1);
    }

    private static long anyLong(Random r) {
        long[] edges = {0, -1, Long.MAX_VALUE, Long.MIN_VALUE, 0xffffffffL, 0x7fffffffL};
        return r.nextInt(3) == 0 ? edges[r.nextInt(edges.length)] : r.nextLong();
    }

    private static void change(int run, Random r, CheckRestart x, Model m, int size) {
        switch (r.nextInt(16)) {
            case 0: case 1: {
                long v = anyLong(r);
                due(run, "cell(" + v + ")", (long) x.cell(v), m.cell(v));
                break;
            }
            case 2: {
                int length = anyInt(r, 0, size);
                due(run, "file(" + length + ")", (long) x.file(length), m.file(length));
                break;
            }
            case 3: case 4: case 5: {
                int n = anyInt(r, 0, size < 100 ? 4 : 1000);
                due(run, "step(" + n + ")", (long) x.step(n), m.step(n));
                break;
            }
            case 6: case 7: case 8:
                due(run, "check()", (long) x.check(), m.check());
                break;
            case 9: {
                int write = anyInt(r, 0, 30);
                due(run, "cut(" + write + ")", (long) x.cut(write), m.cut(write));
                break;
            }
            case 10: case 11: case 12: {
                int k = m.points.size() - r.nextInt(3);
                due(run, "restart(" + k + ")", (long) x.restart(k), m.restart(k));
                break;
            }
            case 13: {
                int f = anyInt(r, 0, 5);
                int n = anyInt(r, -size / 4, size / 4);
                due(run, "grow(" + f + ", " + n + ")", (long) x.grow(f, n), m.grow(f, n));
                break;
            }
            case 14: {
                int e = r.nextInt(4) == 0 ? 1 : 0;
                due(run, "edition(" + e + ")", (long) x.edition(e), m.edition(e));
                break;
            }
            default:
                due(run, "equal()", x.equal(), m.equal());
                break;
        }
    }

    private static void ask(int run, Random r, CheckRestart x, Model m) {
        int c = anyInt(r, 0, 11);
        boolean hasCell = c >= 0 && c < m.firsts.size();
        due(run, "get(" + c + ")", getOf(x, c),
                hasCell ? (Object) m.now.cells.get(c).longValue() : "IllegalArgumentException");
        int f = anyInt(r, 0, 5);
        boolean hasFile = f >= 0 && f < m.lengths.size();
        due(run, "position(" + f + ")", x.position(f), hasFile ? m.now.positions.get(f) : -1);
        int i = anyInt(r, 0, m.now.rows.size());
        due(run, "output(" + i + ")", x.output(i), m.hasRow(i) ? m.now.rows.get(i).intValue() : 0);
        due(run, "row(" + i + ")", rowOf(x, i), m.hasRow(i)
                ? (Object) (long) m.now.rows.get(i).shiftRight(32).intValue()
                : "ArrayIndexOutOfBoundsException");
        int k = anyInt(r, 1, 100);
        due(run, "torn(" + k + ")", (long) x.torn(k), m.torn(k));
        due(run, "torn(" + m.points.size() + ")", (long) x.torn(m.points.size()), m.torn(m.points.size()));
        for (int what = -1; what <= 7; what++) {
            due(run, "count(" + what + ")", (long) x.count(what), m.count(what));
        }
    }

    public static void main(String[] args) {
        int[] sizes = {3, 20, 2000};
        for (int run = 1; run <= RUNS; run++) {
            Random r = new Random(run);
            CheckRestart x = new CheckRestart();
            Model m = new Model();
            int size = run % 100 == 0 ? sizes[2] : sizes[run % 2];
            // 16 calls a round: one that may change, and fifteen that ask.
            for (int made = 0; made + 16 <= CALLS; made += 16) {
                change(run, r, x, m, size);
                ask(run, r, x, m);
            }
            // The same seeds once more with changes alone, for runs that go further.
            CheckRestart y = new CheckRestart();
            Model n = new Model();
            for (int made = 0; made + 16 < CALLS; made++) {
                change(run, r, y, n, size);
            }
            ask(run, r, y, n);
        }
        System.out.println(compared + " answers compared, " + wrong + " wrong");
        if (wrong != 0) {
            System.exit(1);
        }
    }
}
