import java.math.BigInteger;
import java.util.ArrayList;
import java.util.HashMap;
import java.util.List;
import java.util.Map;
import java.util.Random;

/**
 * Random runs of calls on a DodgemDebate and on a plain second writing of the document, which keeps
 * nothing but what was told and works out every answer anew: both must answer alike.
 */
public final class OracleTest {
    private static int wrong = 0;

    public static void main(String[] args) {
        for (int run = 0; run < 220 && wrong == 0; run++) {
            new Runner(run).play();
        }
        System.out.println(wrong == 0 ? "oracle: all answers are alike" : "oracle: answers differ");
        if (wrong != 0) {
            System.exit(1);
        }
    }

    /** One car of the plain model, on its way. */
    private static final class Dodgem {
        char sort;
        int x, y, way, weight, points, struck, strikes;
        boolean current = true;

        Dodgem copied() {
            Dodgem d = new Dodgem();
            d.sort = sort;
            d.x = x;
            d.y = y;
            d.way = way;
            d.weight = weight;
            return d;
        }
    }

    /** What came of one debate: parts[moment][car] is x, y, way, points, struck, current. */
    private static final class Outcome {
        List<List<int[]>> parts = new ArrayList<>();
        boolean[] rung = new boolean[24];
        int[] stays = new int[24];
        List<int[]> strikes = new ArrayList<>(); // moment, car, struck
        int[] points;

        int ayes(int moment) {
            int n = 0;
            for (int[] p : parts.get(moment)) {
                if (p[0] < 3) n++;
            }
            return n;
        }

        boolean isMeek(int car) {
            for (int[] s : strikes) {
                if (s[1] == car || s[2] == car) return false;
            }
            return true;
        }

        int all() {
            int n = 0;
            for (int p : points) n += p;
            return n;
        }
    }

    /** The document, written a second time. */
    private static final class Plain {
        final List<List<Integer>> texts = List.of(new ArrayList<>(), new ArrayList<>());
        List<int[]> events = new ArrayList<>();
        List<int[]> seen = new ArrayList<>();
        final int[][] sheets = new int[4][];
        final int[] forms = new int[4];
        int finding = 0;

        int tell(int n) {
            finding = n;
            return -10 - n;
        }

        // ---- texts

        private static final String[] CAR_SIGNS = {"bmh", "012345", "012345", "enws", "123456789", ";"};
        private static final String[] STEER_SIGNS = {"abcdefghijklmnopqrstuvwx", "01234567", "lr", ";"};

        int fault(int text) {
            if (text < 0 || text > 1) return -2;
            List<Integer> t = texts.get(text);
            String[] signs = text == 0 ? CAR_SIGNS : STEER_SIGNS;
            List<String> cells = new ArrayList<>();
            for (int i = 0; i < t.size(); i++) {
                char c = (char) (int) t.get(i);
                int part = i % signs.length;
                if (signs[part].indexOf(c) < 0) return i;
                if (text == 0 && part == 2) {
                    String cell = "" + (char) (int) t.get(i - 1) + c;
                    if (cells.contains(cell)) return i;
                    cells.add(cell);
                }
            }
            if (t.isEmpty() || t.size() % signs.length == signs.length - 1) return -1;
            return t.size();
        }

        List<Dodgem> cars() {
            List<Dodgem> all = new ArrayList<>();
            if (fault(0) != -1) return all;
            List<Integer> t = texts.get(0);
            for (int i = 0; i + 4 < t.size(); i += 6) {
                Dodgem d = new Dodgem();
                d.sort = (char) (int) t.get(i);
                d.x = t.get(i + 1) - '0';
                d.y = t.get(i + 2) - '0';
                d.way = "enws".indexOf(t.get(i + 3));
                d.weight = t.get(i + 4) - '0';
                all.add(d);
            }
            return all;
        }

        List<int[]> steers() {
            List<int[]> all = new ArrayList<>();
            if (fault(1) != -1) return all;
            List<Integer> t = texts.get(1);
            for (int i = 0; i + 2 < t.size(); i += 4) {
                all.add(new int[] {t.get(i) - 'a', t.get(i + 1) - '0', t.get(i + 2) == 'l' ? 1 : 2});
            }
            return all;
        }

        // ---- a debate

        static Outcome debate(List<Dodgem> told, List<int[]> steers, List<int[]> events) {
            Outcome out = new Outcome();
            List<Dodgem> cars = new ArrayList<>();
            for (Dodgem d : told) cars.add(d.copied());
            for (int m = 0; m < 24; m++) {
                for (int[] e : events) {
                    if (e[1] != m) continue;
                    if (e[0] == 0) out.rung[m] = true;
                    else if (e[2] < cars.size()) cars.get(e[2]).current = false;
                }
                for (int[] s : steers) {
                    if (s[0] != m || s[1] >= cars.size()) continue;
                    Dodgem d = cars.get(s[1]);
                    if (d.sort == 'm') continue;
                    if (s[2] == 1) d.way = d.way == 3 ? 0 : d.way + 1;
                    else d.way = d.way == 0 ? 3 : d.way - 1;
                }
                if (!out.rung[m]) {
                    for (int c = 0; c < cars.size(); c++) {
                        if (cars.get(c).current) go(out, cars, m, c);
                    }
                }
                List<int[]> now = new ArrayList<>();
                for (Dodgem d : cars) {
                    now.add(new int[] {d.x, d.y, d.way, d.points, d.struck, d.current ? 1 : 0});
                }
                out.parts.add(now);
            }
            out.points = new int[cars.size()];
            for (int c = 0; c < cars.size(); c++) out.points[c] = cars.get(c).points;
            return out;
        }

        static void go(Outcome out, List<Dodgem> cars, int m, int c) {
            Dodgem d = cars.get(c);
            int to = d.sort == 'h' ? (d.way + 2) % 4 : d.way;
            int dx = to == 0 ? 1 : to == 2 ? -1 : 0;
            int dy = to == 1 ? 1 : to == 3 ? -1 : 0;
            if (!isCell(d.x + dx, d.y + dy)) {
                d.way = (d.way + 2) % 4;
                return;
            }
            int o = in(cars, d.x + dx, d.y + dy);
            if (o >= 0) {
                Dodgem other = cars.get(o);
                out.strikes.add(new int[] {m, c, o});
                int apart = Math.floorMod(other.way - to, 4);
                d.points += apart == 2 ? 3 : apart == 0 ? 1 : 2;
                other.struck++;
                int bx = other.x + dx;
                int by = other.y + dy;
                if (d.weight < other.weight || !isCell(bx, by) || in(cars, bx, by) >= 0) {
                    out.stays[m]++;
                    return;
                }
                other.x = bx;
                other.y = by;
            }
            d.x += dx;
            d.y += dy;
        }

        static boolean isCell(int x, int y) {
            return x >= 0 && x <= 5 && y >= 0 && y <= 5;
        }

        static int in(List<Dodgem> cars, int x, int y) {
            for (int i = 0; i < cars.size(); i++) {
                if (cars.get(i).x == x && cars.get(i).y == y) return i;
            }
            return -1;
        }

        Outcome now() {
            return debate(cars(), steers(), events);
        }

        boolean isCar(int car) {
            return car >= 0 && car < cars().size();
        }

        static boolean isMoment(int m) {
            return m >= 0 && m <= 23;
        }

        // ---- calls, cars to events

        int type(int text, int b) {
            if (text < 0 || text > 1 || b < 0 || b > 255) return -2;
            if (texts.get(text).size() == 47) return -4;
            texts.get(text).add(b);
            return texts.get(text).size();
        }

        int wipe(int text) {
            if (text < 0 || text > 1) return -2;
            int n = texts.get(text).size();
            texts.get(text).clear();
            return n;
        }

        int undo(int text) {
            if (text < 0 || text > 1) return -2;
            if (texts.get(text).isEmpty()) return -3;
            texts.get(text).remove(texts.get(text).size() - 1);
            return texts.get(text).size();
        }

        int car(int car, int what) {
            if (!isCar(car) || what < 0 || what > 4) return -2;
            Dodgem d = cars().get(car);
            return new int[] {"bmh".indexOf(d.sort), d.x, d.y, d.way, d.weight}[what];
        }

        int steer(int i, int what) {
            if (i < 0 || i > 11 || what < 0 || what > 2) return -2;
            return i < steers().size() ? steers().get(i)[what] : -1;
        }

        int event(int kind, int moment, int car) {
            if (kind < 0 || kind > 1 || !isMoment(moment) || car < 0 || car > 7) return -2;
            if (events.size() == 8) return -4;
            events.add(new int[] {kind, moment, car});
            return events.size();
        }

        int back() {
            if (events.isEmpty()) return -3;
            events.remove(events.size() - 1);
            return events.size();
        }

        int read(int s) {
            if (s < 0 || s > 3) return -2;
            if (sheets[s] == null) return tell(1);
            int n = 0;
            while (3 * n + 2 < sheets[s].length
                    && event(sheets[s][3 * n], sheets[s][3 * n + 1], sheets[s][3 * n + 2]) > 0) n++;
            return n;
        }

        // ---- moments

        int at(int moment, int car, int what) {
            if (!isMoment(moment) || !isCar(car) || what < 0 || what > 5) return -2;
            return now().parts.get(moment).get(car)[what];
        }

        int who(int moment, int x, int y) {
            if (!isMoment(moment) || !isCell(x, y)) return -2;
            List<int[]> parts = now().parts.get(moment);
            for (int i = 0; i < parts.size(); i++) {
                if (parts.get(i)[0] == x && parts.get(i)[1] == y) return i;
            }
            return -1;
        }

        int house(int moment, int what) {
            if (!isMoment(moment) || what < 0 || what > 2) return -2;
            Outcome o = now();
            if (what == 2) return o.rung[moment] ? 1 : 0;
            return what == 0 ? o.ayes(moment) : cars().size() - o.ayes(moment);
        }

        int strikes() {
            return now().strikes.size();
        }

        int first(int what) {
            if (what < 0 || what > 1) return -2;
            List<int[]> s = now().strikes;
            return s.isEmpty() ? -1 : s.get(0)[what];
        }

        int best() {
            int[] p = now().points;
            int best = -1;
            for (int i = p.length - 1; i >= 0; i--) {
                if (best < 0 || p[i] >= p[best]) best = i;
            }
            return best;
        }

        int meek() {
            Outcome o = now();
            int bits = 0;
            for (int c = 0; c < o.points.length; c++) {
                if (o.isMeek(c)) bits += 1 << c;
            }
            return bits;
        }

        int jam(int what) {
            if (what < 0 || what > 1) return -2;
            int[] s = now().stays;
            int m = 23;
            for (int i = 22; i >= 0; i--) {
                if (s[i] >= s[m]) m = i;
            }
            return what == 0 ? m : s[m];
        }

        int carried() {
            Outcome o = now();
            int n = 0;
            for (int m = 0; m < 24; m++) {
                if (o.rung[m] && o.ayes(m) > o.points.length - o.ayes(m)) n++;
            }
            return n;
        }

        // ---- plans

        int stand(int car, int what) {
            if (!isCar(car) || what < 0 || what > 2) return -2;
            int[] best = null;
            for (int x = 0; x < 6; x++) {
                for (int y = 0; y < 6; y++) {
                    List<Dodgem> cars = cars();
                    int there = in(cars, x, y);
                    if (there >= 0 && there != car) continue;
                    cars.get(car).x = x;
                    cars.get(car).y = y;
                    int p = debate(cars, steers(), events).points[car];
                    if (best == null || p > best[2]) best = new int[] {x, y, p};
                }
            }
            return best[what];
        }

        int better(int car, int moment, int what) {
            if (!isCar(car) || !isMoment(moment) || what < 0 || what > 1) return -2;
            int[] best = null;
            for (int turn = 0; turn < 3; turn++) {
                List<int[]> steers = steers();
                if (turn > 0) steers.add(new int[] {moment, car, turn});
                int p = debate(cars(), steers, events).points[car];
                if (best == null || p > best[1]) best = new int[] {turn, p};
            }
            return best[what];
        }

        int ring(int what) {
            if (what < 0 || what > 1) return -2;
            int[] best = null;
            for (int m = 0; m < 24; m++) {
                List<int[]> with = new ArrayList<>(events);
                with.add(new int[] {0, m, 0});
                int ayes = debate(cars(), steers(), with).ayes(m);
                if (best == null || ayes > best[1]) best = new int[] {m, ayes};
            }
            return best[what];
        }

        boolean noneMeekWithout(int a, int b) {
            List<int[]> with = new ArrayList<>();
            for (int i = 0; i < events.size(); i++) {
                if (i != a && i != b) with.add(events.get(i));
            }
            Outcome o = debate(cars(), steers(), with);
            for (int c = 0; c < o.points.length; c++) {
                if (o.isMeek(c)) return false;
            }
            return true;
        }

        int spare(int i) {
            if (i < -1 || i > 1) return -2;
            List<Integer> found = spared();
            if (found == null) return -1;
            if (i == -1) return found.size();
            return i < found.size() ? found.get(i) : -1;
        }

        List<Integer> spared() {
            if (noneMeekWithout(-1, -1)) return List.of();
            for (int a = 0; a < events.size(); a++) {
                if (noneMeekWithout(a, a)) return List.of(a);
            }
            for (int a = 0; a < events.size(); a++) {
                for (int b = a + 1; b < events.size(); b++) {
                    if (noneMeekWithout(a, b)) return List.of(a, b);
                }
            }
            return null;
        }

        // ---- seen, chance, ages

        int seen(int moment, int car, int x, int y) {
            if (!isMoment(moment) || car < 0 || car > 7 || !isCell(x, y)) return -2;
            if (seen.size() == 8) return -4;
            seen.add(new int[] {moment, car, x, y});
            return seen.size();
        }

        int forget() {
            int n = seen.size();
            seen.clear();
            return n;
        }

        boolean isSo(Outcome o) {
            for (int[] s : seen) {
                if (s[1] >= o.points.length) return false;
                int[] p = o.parts.get(s[0]).get(s[1]);
                if (p[0] != s[2] || p[1] != s[3]) return false;
            }
            return true;
        }

        int never() {
            int bits = 0;
            for (int i = 0; i < events.size(); i++) {
                List<int[]> with = new ArrayList<>(events);
                with.remove(i);
                if (isSo(debate(cars(), steers(), with))) bits |= 1 << i;
            }
            return bits;
        }

        Outcome withWeight(int car, int weight) {
            List<Dodgem> cars = cars();
            cars.get(car).weight = weight;
            return debate(cars, steers(), events);
        }

        int was(int car, int what) {
            if (!isCar(car) || what < 0 || what > 1) return -2;
            int bits = 0;
            if (what == 0) {
                for (int sort = 0; sort < 3; sort++) {
                    List<Dodgem> cars = cars();
                    cars.get(car).sort = "bmh".charAt(sort);
                    if (isSo(debate(cars, steers(), events))) bits |= 1 << sort;
                }
                return bits;
            }
            for (int weight = 1; weight <= 9; weight++) {
                if (isSo(withWeight(car, weight))) bits |= 1 << weight;
            }
            return bits;
        }

        int ask(int car) {
            if (!isCar(car)) return -2;
            int best = -1;
            int least = 100;
            for (int m = 0; m < 24; m++) {
                Map<String, Integer> groups = new HashMap<>();
                int greatest = 0;
                for (int weight = 1; weight <= 9; weight++) {
                    Outcome o = withWeight(car, weight);
                    if (!isSo(o)) continue;
                    int[] p = o.parts.get(m).get(car);
                    greatest = Math.max(greatest, groups.merge(p[0] + "," + p[1], 1, Integer::sum));
                }
                if (greatest < least) {
                    least = greatest;
                    best = m;
                }
            }
            return best;
        }

        long chance(int c, int car, int what) {
            if (c < 0 || c > 16 || !isCar(car) || what < 0 || what > 1) return Long.MIN_VALUE + 2;
            BigInteger above = struckWays(c, car, 0, new ArrayList<>());
            BigInteger below = BigInteger.valueOf(16).pow(events.size());
            BigInteger gcd = above.gcd(below);
            return (what == 0 ? above : below).divide(gcd).longValueExact();
        }

        BigInteger struckWays(int c, int car, int i, List<int[]> with) {
            if (i == events.size()) {
                Outcome o = debate(cars(), steers(), with);
                return BigInteger.valueOf(o.parts.get(23).get(car)[4] > 0 ? 1 : 0);
            }
            BigInteger sum = struckWays(c, car, i + 1, with).multiply(BigInteger.valueOf(16 - c));
            with.add(events.get(i));
            sum = sum.add(struckWays(c, car, i + 1, with).multiply(BigInteger.valueOf(c)));
            with.remove(with.size() - 1);
            return sum;
        }

        private int seedNow;

        int lot(int m) {
            seedNow = (int) (1103515245L * seedNow + 12345L);
            return (int) (((seedNow & 0xffffffffL) >> 16) % m);
        }

        int ages(int seed, int n, int what) {
            if (n < 0 || n > 8 || what < 0 || what > 1) return -2;
            seedNow = seed;
            List<int[]> drawn = new ArrayList<>();
            for (int i = 0; i < n && !cars().isEmpty(); i++) {
                int kind = lot(2);
                int moment = lot(24);
                drawn.add(new int[] {kind, moment, lot(cars().size())});
            }
            Outcome o = debate(cars(), steers(), drawn);
            return what == 0 ? o.strikes.size() : o.all();
        }

        // ---- sheets

        int sheet(int s, int form, int n) {
            if (s < 0 || s > 3 || form < 0 || form > 2 || n > 60) return -2;
            if (n < 0) return tell(5);
            sheets[s] = new int[n];
            forms[s] = form;
            return n;
        }

        int lose(int s) {
            if (s < 0 || s > 3) return -2;
            if (sheets[s] == null) return tell(1);
            int n = sheets[s].length;
            sheets[s] = null;
            return n;
        }

        int put(int s, int form, int i, int v) {
            if (s < 0 || s > 3 || form < 0 || form > 2) return -2;
            if (sheets[s] == null) return tell(1);
            if (forms[s] != form) return tell(3);
            if (i < 0 || i >= sheets[s].length) return tell(2);
            sheets[s][i] = form == 0 ? v << 24 >> 24 : form == 1 ? v << 16 >> 16 : v;
            return 1;
        }

        int get(int s, int form, int i) {
            if (s < 0 || s > 3 || form < 0 || form > 2) return Integer.MIN_VALUE;
            if (sheets[s] == null) tell(1);
            else if (forms[s] != form) tell(3);
            else if (i < 0 || i >= sheets[s].length) tell(2);
            else return sheets[s][i];
            return Integer.MIN_VALUE;
        }

        int copy(int s, int i, int t, int j, int n) {
            if (s < 0 || s > 3 || t < 0 || t > 3) return -2;
            if (sheets[s] == null || sheets[t] == null) return tell(1);
            if (forms[s] != forms[t]) return tell(4);
            if (i < 0 || j < 0 || n < 0 || (long) i + n > sheets[s].length || (long) j + n > sheets[t].length) {
                return tell(2);
            }
            int[] from = sheets[s].clone();
            for (int k = 0; k < n; k++) sheets[t][j + k] = from[i + k];
            return 1;
        }

        int write(int car, int s) {
            if (!isCar(car) || s < 0 || s > 3) return -2;
            if (sheets[s] == null) return tell(1);
            int n = 0;
            for (; n < sheets[s].length && n < 24; n++) sheets[s][n] = at(n, car, 3);
            return n;
        }

        int count(int what) {
            if (what < 0 || what > 8) return -2;
            return new int[] {cars().size(), steers().size(), texts.get(0).size(), texts.get(1).size(),
                events.size(), strikes(), now().all(), seen.size(), finding}[what];
        }

        long digest() {
            List<Long> all = new ArrayList<>();
            for (int i = 0; i < 8; i++) all.add((long) count(i));
            for (int i = 0; i < 2; i++) all.add((long) fault(i));
            for (int i = 0; i < 12; i++) for (int w = 0; w < 3; w++) all.add((long) steer(i, w));
            for (int c = 0; isCar(c); c++) {
                for (int w = 0; w < 5; w++) all.add((long) car(c, w));
                for (int m : new int[] {0, 7, 15, 23}) for (int w = 0; w < 6; w++) all.add((long) at(m, c, w));
                for (int w = 0; w < 3; w++) all.add((long) stand(c, w));
                for (int w = 0; w < 2; w++) all.add((long) better(c, 9, w));
                for (int w = 0; w < 2; w++) all.add((long) was(c, w));
                all.add((long) ask(c));
                for (int w = 0; w < 2; w++) all.add(chance(5, c, w));
            }
            for (int m = 0; m < 24; m++) for (int w = 0; w < 3; w++) all.add((long) house(m, w));
            for (int w = 0; w < 2; w++) all.add((long) first(w));
            all.add((long) best());
            all.add((long) meek());
            for (int w = 0; w < 2; w++) all.add((long) jam(w));
            all.add((long) carried());
            for (int w = 0; w < 2; w++) all.add((long) ring(w));
            all.add((long) spare(-1));
            all.add((long) spare(0));
            all.add((long) never());
            for (int w = 0; w < 2; w++) all.add((long) ages(7, 6, w));
            long h = 17;
            for (long v : all) h = 31 * h + v;
            return h;
        }
    }

    /** One run of random calls, mostly sensible ones. */
    private static final class Runner {
        final int run;
        final Random r;
        final DodgemDebate d = new DodgemDebate();
        final Plain p = new Plain();
        int calls = 0;

        Runner(int run) {
            this.run = run;
            this.r = new Random(run * 7919L + 13);
        }

        void play() {
            if (r.nextInt(12) > 0) typeCars();
            if (r.nextInt(4) > 0) typeSteers();
            for (int i = r.nextInt(9); i > 0; i--) tellEvent();
            for (int i = 0; i < 160 && wrong == 0; i++) call(r.nextInt(38));
            if (run % 4 == 0) due("digest", d.digest(), p.digest());
        }

        void due(String call, long got, long want) {
            calls++;
            if (got != want) {
                wrong++;
                System.out.println("run " + run + ", call " + calls + ": " + call + " answered " + got
                        + ", due is " + want + ", cars " + text(0) + ", steers " + text(1));
            }
        }

        String text(int t) {
            StringBuilder b = new StringBuilder();
            for (int c : p.texts.get(t)) b.append((char) c);
            return b.toString();
        }

        void typeAll(int text, String s) {
            for (char c : s.toCharArray()) due("type " + c, d.type(text, c), p.type(text, c));
        }

        void typeCars() {
            List<String> cells = new ArrayList<>();
            StringBuilder b = new StringBuilder();
            int side = r.nextBoolean() ? 6 : 4;
            for (int i = 1 + r.nextInt(8); i > 0; i--) {
                String cell = "" + r.nextInt(side) + r.nextInt(side);
                if (cells.contains(cell) && r.nextInt(30) > 0) continue;
                cells.add(cell);
                if (b.length() > 0) b.append(';');
                b.append("bbmhh".charAt(r.nextInt(5))).append(cell).append("enws".charAt(r.nextInt(4)));
                b.append(1 + r.nextInt(9));
            }
            typeAll(0, b.toString());
        }

        void typeSteers() {
            StringBuilder b = new StringBuilder();
            for (int i = 1 + r.nextInt(12); i > 0; i--) {
                if (b.length() > 0) b.append(';');
                b.append((char) ('a' + r.nextInt(24))).append(r.nextInt(8)).append("lr".charAt(r.nextInt(2)));
            }
            typeAll(1, b.toString());
        }

        void tellEvent() {
            int kind = r.nextInt(2), moment = moment(), car = car();
            due("event " + kind + " " + moment + " " + car, d.event(kind, moment, car), p.event(kind, moment, car));
        }

        /** A number below a limit, seldom one beyond it. */
        int below(int limit) {
            switch (r.nextInt(40)) {
                case 0: return -1;
                case 1: return limit;
                case 2: return r.nextBoolean() ? Integer.MIN_VALUE : Integer.MAX_VALUE;
                case 3: return -2;
                default: return r.nextInt(limit);
            }
        }

        int moment() {
            return below(24);
        }

        int car() {
            return below(Math.max(1, r.nextInt(6) == 0 ? 8 : p.cars().size()));
        }

        int what(int n) {
            return below(n);
        }

        void call(int kind) {
            if (kind < 10) callTold(kind);
            else if (kind < 19) callMoments(kind);
            else if (kind < 30) callPlans(kind);
            else callSheets(kind);
        }

        void callTold(int kind) {
            int a, b;
            switch (kind) {
                case 0: case 1:
                    a = below(2);
                    b = r.nextInt(3) == 0 ? below(256) : "bmhenwslr;0123456789acx".charAt(r.nextInt(23));
                    if (r.nextInt(3) == 0) due("type", d.type(a, b), p.type(a, b));
                    break;
                case 2:
                    if (r.nextInt(12) == 0) {
                        a = below(2);
                        due("wipe", d.wipe(a), p.wipe(a));
                        if (r.nextBoolean()) { typeCars(); typeSteers(); }
                    }
                    break;
                case 3: case 4: a = below(2); due("undo", d.undo(a), p.undo(a)); break;
                case 5: a = below(2); due("fault", d.fault(a), p.fault(a)); break;
                case 6: a = car(); b = what(5); due("car " + a + b, d.car(a, b), p.car(a, b)); break;
                case 7: a = below(12); b = what(3); due("steer " + a + b, d.steer(a, b), p.steer(a, b)); break;
                case 8: tellEvent(); break;
                default: if (r.nextBoolean()) due("back", d.back(), p.back());
            }
        }

        void callMoments(int kind) {
            int a = moment(), b, c;
            switch (kind) {
                case 10: b = car(); c = what(6); due("at " + a + b + c, d.at(a, b, c), p.at(a, b, c)); break;
                case 11: b = below(6); c = below(6); due("who", d.who(a, b, c), p.who(a, b, c)); break;
                case 12: b = what(3); due("house " + a + b, d.house(a, b), p.house(a, b)); break;
                case 13: due("strikes", d.strikes(), p.strikes()); break;
                case 14: b = what(2); due("first " + b, d.first(b), p.first(b)); break;
                case 15: due("best", d.best(), p.best()); break;
                case 16: due("meek", d.meek(), p.meek()); break;
                case 17: b = what(2); due("jam " + b, d.jam(b), p.jam(b)); break;
                default: due("carried", d.carried(), p.carried());
            }
        }

        void callPlans(int kind) {
            int a = car(), b, c, x, y;
            switch (kind) {
                case 19: b = what(3); due("stand " + a + b, d.stand(a, b), p.stand(a, b)); break;
                case 20: b = moment(); c = what(2); due("better", d.better(a, b, c), p.better(a, b, c)); break;
                case 21: b = what(2); due("ring " + b, d.ring(b), p.ring(b)); break;
                case 22: b = r.nextInt(5) - 2; due("spare " + b, d.spare(b), p.spare(b)); break;
                case 23: seeSomething(a); break;
                case 24: if (r.nextInt(4) == 0) due("forget", d.forget(), p.forget()); break;
                case 25: due("never", d.never(), p.never()); break;
                case 26: b = what(2); due("was " + a + b, d.was(a, b), p.was(a, b)); break;
                case 27: due("ask " + a, d.ask(a), p.ask(a)); break;
                case 28: b = below(17); c = what(2); due("chance", d.chance(b, a, c), p.chance(b, a, c)); break;
                default:
                    x = r.nextInt();
                    y = below(9);
                    c = what(2);
                    due("ages " + x + " " + y + " " + c, d.ages(x, y, c), p.ages(x, y, c));
            }
        }

        // Mostly something that is so, or was so of another weight, lest all answers be 0.
        void seeSomething(int car) {
            int m = moment();
            int x = below(6), y = below(6);
            if (p.isCar(car) && Plain.isMoment(m) && r.nextInt(5) > 0) {
                int[] at = p.withWeight(car, 1 + r.nextInt(9)).parts.get(m).get(car);
                x = at[0];
                y = at[1];
            }
            due("seen", d.seen(m, car, x, y), p.seen(m, car, x, y));
        }

        void callSheets(int kind) {
            int s = below(4), f = r.nextInt(3) > 0 && s >= 0 && s < 4 ? p.forms[s] : below(3), i, v, t, j;
            switch (kind) {
                case 30: i = r.nextInt(8) == 0 ? below(61) : below(30); due("sheet", d.sheet(s, f, i), p.sheet(s, f, i)); break;
                case 31: if (r.nextInt(4) == 0) due("lose", d.lose(s), p.lose(s)); break;
                case 32:
                    for (int k = 0; k < 8; k++) {
                        i = below(24);
                        v = r.nextInt(3) == 0 ? r.nextInt() : r.nextInt(8) - (r.nextInt(9) == 0 ? 1 : 0);
                        if (i % 3 == 0 && i >= 0) v &= r.nextInt(4) > 0 ? 1 : -1;
                        due("put", d.put(s, f, i, v), p.put(s, f, i, v));
                    }
                    break;
                case 33: i = below(24); due("get", d.get(s, f, i), p.get(s, f, i)); break;
                case 34:
                    t = below(4);
                    i = below(12);
                    j = below(12);
                    v = below(12);
                    due("copy", d.copy(s, i, t, j, v), p.copy(s, i, t, j, v));
                    break;
                case 35: i = car(); due("write", d.write(i, s), p.write(i, s)); break;
                case 36: i = below(9); due("count " + i, d.count(i), p.count(i)); break;
                default: due("read", d.read(s), p.read(s)); 
            }
        }
    }
}
