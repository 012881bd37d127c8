import java.util.ArrayList;
import java.util.List;
import java.util.Random;

/**
 * Long runs of calls, the same each time, on a BeltSteps and on a plain model of the document that goes millisecond
 * by millisecond: every answer must be the same.
 */
public final class ModelRuns {
    private static final int RUNS = 824;
    /** From this one on runs are wide: long belts, long times. The model is slow in them, so they are few. */
    private static final int FIRST_WIDE = 800;
    /** More calls than these are not promised to be answered. */
    private static final int CALLS = 512;
    /** So many are kept for reading edges in the end. */
    private static final int READS = 120;
    private static final int NONE = -1, UNKNOWN = -11, OUTSIDE = -12, STATE = -13, ROOM = -14;

    private static final class ModelBelt {
        long length;
        long speed;
        int to = NONE;
        boolean running = true;
        int changes = 0;
        long toldAt = -1;
        int gear = 8;
        int gearBefore = 8;

        ModelBelt copy() {
            ModelBelt b = new ModelBelt();
            b.length = length;
            b.speed = speed;
            b.to = to;
            b.running = running;
            b.changes = changes;
            b.toldAt = toldAt;
            b.gear = gear;
            b.gearBefore = gearBefore;
            return b;
        }

        int changed(int from) {
            return running ? Math.min(8, from + 1) : Math.max(0, from - 1);
        }

        void tell(boolean on, long t) {
            running = on;
            toldAt = t;
            changes++;
            gear = changed(gearBefore);
        }

        /** From the millisecond before t to that which begins at t. */
        void tick(long t) {
            gearBefore = gear;
            if (toldAt >= 0 && (t - toldAt) % 20 == 0) gear = changed(gear);
        }
    }

    private static final class ModelItem {
        int number;
        long length;
        long at;
        int belt;
        long place = 0;
        boolean here = false;
        boolean left = false;
        boolean front = false;
        boolean end = false;

        ModelItem copy() {
            ModelItem i = new ModelItem();
            i.number = number;
            i.length = length;
            i.at = at;
            i.belt = belt;
            i.place = place;
            i.here = here;
            i.left = left;
            i.front = front;
            i.end = end;
            return i;
        }
    }

    private static final class Model {
        final List<ModelBelt> belts = new ArrayList<>();
        final List<ModelItem> items = new ArrayList<>();
        final List<int[]> edges = new ArrayList<>();
        int edgesAtStep = 0;
        long now = 0;

        boolean noBelt(int b) { return b < 0 || b >= belts.size(); }
        boolean noItem(int i) { return i < 1 || i > items.size(); }
        boolean badTime(long t) { return t < now || t > 1000000; }

        void tick() {
            now++;
            for (ModelItem i : items) {
                if (i.here) i.place += belts.get(i.belt).speed * belts.get(i.belt).gear / 8;
            }
            for (ModelBelt b : belts) b.tick(now);
            for (ModelItem i : items) {
                if (i.here && i.place >= belts.get(i.belt).length) cross(i);
                if (!i.here && !i.left && i.at == now) i.here = true;
            }
            for (ModelItem i : items) tellEdges(i);
        }

        void cross(ModelItem i) {
            ModelBelt from = belts.get(i.belt);
            i.front = false;
            i.end = false;
            i.place -= from.length;
            if (from.to == NONE) {
                i.here = false;
                i.left = true;
            } else {
                i.belt = from.to;
            }
        }

        void tellEdges(ModelItem i) {
            if (!i.here) return;
            long sensor = belts.get(i.belt).length / 2;
            if (!i.front && i.place >= sensor) {
                i.front = true;
                edges.add(new int[] {(int) now, i.belt, i.number, isShort(i) ? 2 : 0});
            }
            if (i.front && !i.end && i.place - i.length >= sensor) {
                i.end = true;
                edges.add(new int[] {(int) now, i.belt, i.number, 1});
            }
        }

        boolean isShort(ModelItem i) {
            for (ModelItem o : items) {
                if (o == i || !o.here || o.belt != i.belt) continue;
                if (o.place < i.place || o.place == i.place && o.number > i.number) continue;
                if (o.place - o.length < i.place + 50000) return true;
            }
            return false;
        }

        void passTo(long t) {
            while (now < t) tick();
        }

        Model ahead(int item, long t) {
            Model m = new Model();
            for (ModelBelt b : belts) m.belts.add(b.copy());
            if (item > 0) m.items.add(items.get(item - 1).copy());
            m.now = now;
            m.passTo(t);
            return m;
        }

        int belt(long length, long speed) {
            if (length < 100000 || length > 100000000 || speed < 1 || speed > 5000) return OUTSIDE;
            if (belts.size() == 12) return ROOM;
            ModelBelt b = new ModelBelt();
            b.length = length;
            b.speed = speed;
            belts.add(b);
            return belts.size() - 1;
        }

        int join(int belt, int to) {
            if (noBelt(belt) || noBelt(to)) return UNKNOWN;
            if (to <= belt) return OUTSIDE;
            int before = belts.get(belt).to;
            belts.get(belt).to = to;
            return before;
        }

        int feed(int belt, long length, long at) {
            if (noBelt(belt)) return UNKNOWN;
            if (length < 1 || length > 100000 || badTime(at)) return OUTSIDE;
            if (items.size() == 60) return ROOM;
            ModelItem i = new ModelItem();
            i.number = items.size() + 1;
            i.length = length;
            i.at = at;
            i.belt = belt;
            i.here = at == now;
            items.add(i);
            return i.number;
        }

        int step(long t) {
            if (badTime(t)) return OUTSIDE;
            passTo(t);
            int fresh = edges.size() - edgesAtStep;
            edgesAtStep = edges.size();
            return fresh;
        }

        int edge(int i, int what) {
            if (i < 0 || i >= 400 || i >= edges.size() || what < 0 || what > 3) return NONE;
            return edges.get(i)[what];
        }

        int stop(int belt, boolean on, long t) {
            if (noBelt(belt)) return UNKNOWN;
            if (badTime(t)) return OUTSIDE;
            ModelBelt b = belts.get(belt);
            if (b.running != on && b.changes == 100) return ROOM;
            passTo(t);
            if (b.running == on) return 0;
            b.tell(on, t);
            return 1;
        }

        int slip(int item, long by) {
            if (noItem(item)) return UNKNOWN;
            if (by < 0 || by > 1000000000) return OUTSIDE;
            ModelItem i = items.get(item - 1);
            if (!i.here) return STATE;
            long before = i.place;
            i.place = Math.max(0, i.place - by);
            return (int) (before - i.place);
        }

        long place(int item, long t) {
            if (noItem(item)) return UNKNOWN;
            if (badTime(t)) return OUTSIDE;
            ModelItem i = ahead(item, t).items.get(0);
            if (i.left) return NONE;
            return i.here ? 1000000000L * i.belt + i.place : -2;
        }

        int gap(int item, int other) {
            if (noItem(item) || noItem(other)) return UNKNOWN;
            if (item == other) return OUTSIDE;
            ModelItem i = items.get(item - 1);
            ModelItem o = items.get(other - 1);
            if (!i.here || !o.here || i.belt != o.belt) return STATE;
            return (int) (o.place - o.length - i.place);
        }

        int count(int belt) {
            if (noBelt(belt)) return UNKNOWN;
            int n = 0;
            for (ModelItem i : items) if (i.here && i.belt == belt) n++;
            return n;
        }

        int gear(int belt, long t) {
            if (noBelt(belt)) return UNKNOWN;
            if (badTime(t)) return OUTSIDE;
            return ahead(0, t).belts.get(belt).gear;
        }
    }

    /** Makes the calls of one run; what it picks depends on its number alone. */
    private static final class Run {
        final Random random;
        final BeltSteps x = new BeltSteps();
        final Model model = new Model();
        final boolean wide;
        final int pace;
        final int crowd;
        int calls = 0;
        int wrong = 0;

        Run(int number) {
            random = new Random(number * 7919L + 1);
            wide = number >= FIRST_WIDE;
            int[] paces = wide ? new int[] {100, 400, 1500, 4000, 9000} : new int[] {1, 3, 8, 30, 100};
            pace = paces[random.nextInt(5)];
            crowd = new int[] {1, 4, 30}[random.nextInt(3)];
        }

        long pick(long... values) { return values[random.nextInt(values.length)]; }
        int someBelt() { return random.nextInt(40) == 0 ? random.nextInt(16) - 2 : within(0, model.belts.size() - 1); }
        int someItem() { return random.nextInt(40) == 0 ? random.nextInt(64) - 1 : within(1, model.items.size()); }
        int within(int from, int to) { return to < from ? from : from + random.nextInt(to - from + 1); }
        long someLength() { return pick(1, 2, 999, 5000, 20000, 49999, 50000, 50001, 100000, 0, 100001, within(1, 99999)); }

        long someTime() {
            if (random.nextInt(60) == 0) return pick(-1, model.now - 1, 1000001, Long.MAX_VALUE, Long.MIN_VALUE);
            return Math.min(1000000, model.now + pick(0, 0, 1, random.nextInt(pace), random.nextInt(2 * pace), 20));
        }

        long aheadTime() {
            if (random.nextInt(20) == 0) return someTime();
            int most = !wide ? 400 : random.nextInt(8) != 0 ? 20000 : 1000000;
            return Math.min(1000000, model.now + random.nextInt(most));
        }

        void due(String call, long got, long want) {
            calls++;
            if (got == want) return;
            wrong++;
            System.out.println(call + " at " + model.now + " answered " + got + ", due is " + want);
        }

        int all() {
            setUp();
            while (calls < CALLS - READS && wrong == 0) one(random.nextInt(100));
            // Not all can be read within one object's calls: each run reads those from some edge on.
            int first = within(0, Math.min(model.edges.size(), 400) - READS / 8);
            for (int k = 0; calls < CALLS && wrong == 0; k++) readEdge(first + k / 4, k % 4);
            return wrong;
        }

        void readEdge(int i, int what) {
            due("edge " + i + " " + what, x.edge(i, what), model.edge(i, what));
        }

        void setUp() {
            int belts = 1 + random.nextInt(12);
            for (int b = 0; b < belts; b++) makeBelt();
            for (int b = 0; b + 1 < belts; b++) if (random.nextInt(8) != 0) joinBelts(b, within(b + 1, Math.min(b + 2, belts - 1)));
            for (int i = 0; i < crowd; i++) feedItem();
        }

        void one(int dice) {
            if (dice < 1) makeBelt();
            else if (dice < 3) joinBelts(someBelt(), someBelt());
            else if (dice < 15) feedItem();
            else if (dice < 40) passTime();
            else if (dice < 55) tellBelt();
            else if (dice < 62) slipItem();
            else look(dice);
        }

        void look(int dice) {
            int a = someItem(), b = someItem(), belt = someBelt();
            long t = aheadTime();
            if (dice < 64) readEdge(within(-1, model.edges.size()), within(-1, 4));
            else if (dice < 76) due("place " + a + " " + t, x.place(a, t), model.place(a, t));
            else if (dice < 83) due("gap " + a + " " + b, x.gap(a, b), model.gap(a, b));
            else if (dice < 90) due("count " + belt, x.count(belt), model.count(belt));
            else due("gear " + belt + " " + t, x.gear(belt, t), model.gear(belt, t));
        }

        void makeBelt() {
            long length = wide ? wideLength() : pick(100000, 100001, 100000 + random.nextInt(100000), 99999, 250000, 150001);
            long speed = pick(1, 3, 7, 100, 1000, 2501, 4999, 5000, 5000, 0, 5001, within(1000, 5000));
            due("belt", x.belt(length, speed), model.belt(length, speed));
        }

        long wideLength() {
            return pick(100000, within(100000, 200000), within(1000000, 2000000), within(10000000, 20000000), 100000000, 100000001);
        }

        void joinBelts(int belt, int to) {
            due("join " + belt + " " + to, x.join(belt, to), model.join(belt, to));
        }

        void feedItem() {
            int belt = random.nextInt(3) == 0 ? someBelt() : 0;
            long length = someLength(), at = someTime();
            due("feed " + belt + " " + length + " " + at, x.feed(belt, length, at), model.feed(belt, length, at));
        }

        void passTime() {
            long t = someTime();
            due("step " + t, x.step(t), model.step(t));
        }

        void tellBelt() {
            int belt = random.nextInt(3) == 0 ? 0 : someBelt();
            boolean on = random.nextInt(5) == 0 ? random.nextBoolean() : !wasTold(belt);
            long t = someTime();
            due("stop " + belt + " " + on + " " + t, x.stop(belt, on, t), model.stop(belt, on, t));
        }

        boolean wasTold(int belt) {
            return !model.noBelt(belt) && model.belts.get(belt).running;
        }

        void slipItem() {
            int item = someItem();
            long by = pick(0, 1, 4999, 30000, 1000000000, -1, 1000000001, random.nextInt(100000));
            due("slip " + item + " " + by, x.slip(item, by), model.slip(item, by));
        }
    }

    public static void main(String[] args) {
        int wrong = 0;
        int edges = 0;
        int shorts = 0;
        for (int number = 0; number < RUNS; number++) {
            Run run = new Run(number);
            if (run.all() != 0) {
                wrong++;
                System.out.println("run " + number + " went wrong there");
            }
            edges += run.model.edges.size();
            for (int[] edge : run.model.edges) if (edge[3] == 2) shorts++;
        }
        System.out.println(RUNS + " runs with " + edges + " edges (" + shorts + " short), " + wrong + " went wrong");
        if (wrong != 0) System.exit(1);
    }
}
