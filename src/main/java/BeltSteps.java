/** Belts that carry items, followed to the millisecond and the micrometre. */
public final class BeltSteps {
    public static final int NONE = -1;
    public static final int UNKNOWN = -11, OUTSIDE = -12, STATE = -13, ROOM = -14;

    private static final int NOT_COME = -2;

    private static final int FRONT = 0;
    private static final int END = 1;
    private static final int SHORT = 2;

    private static final int MOST_BELTS = 12;
    private static final int MOST_ITEMS = 60;
    private static final int MOST_EDGES = 400;
    private static final int MOST_TELLINGS = 100;

    private static final long LAST_TIME = 1000000L;
    /** Later than any time that a belt can need for any way. */
    private static final long NEVER = 1000000000000L;
    private static final long NEAR = 50000L;
    private static final long PLACES_OF_A_BELT = 1000000000L;

    private static final long SHORTEST_BELT = 100000L;
    private static final long LONGEST_BELT = 100000000L;
    private static final long FASTEST_BELT = 5000L;
    private static final long LONGEST_ITEM = 100000L;
    private static final long LONGEST_SLIP = 1000000000L;

    private static final int TOP_GEAR = 8;
    private static final long GEAR_TIME = 20L;
    /** From any gear the last one is reached within so many changes. */
    private static final int STAGES = 8;

    /** Far above the 2220 turns (comings, edges, crossings) that 60 items can have on 12 belts. */
    private static final int MOST_TURNS = 100000;

    private final Belt[] belts = new Belt[MOST_BELTS];
    private int beltCount = 0;
    private final Item[] items = new Item[MOST_ITEMS];
    private int itemCount = 0;
    private final EdgeList edges = new EdgeList();
    private long now = 0L;

    public BeltSteps() {
    }

    public int belt(long length, long speed) {
        if (length < SHORTEST_BELT || length > LONGEST_BELT) return OUTSIDE;
        if (speed < 1L || speed > FASTEST_BELT) return OUTSIDE;
        if (beltCount >= MOST_BELTS) return ROOM;
        Belt made = new Belt(beltCount, length, speed);
        made.layStages();
        belts[beltCount] = made;
        beltCount++;
        return made.number;
    }

    public int join(int belt, int to) {
        Belt from = beltNumbered(belt);
        Belt onto = beltNumbered(to);
        if (from == null || onto == null) return UNKNOWN;
        if (to <= belt) return OUTSIDE;
        int before = from.onto == null ? NONE : from.onto.number;
        from.onto = onto;
        return before;
    }

    public int feed(int belt, long length, long at) {
        Belt onto = beltNumbered(belt);
        if (onto == null) return UNKNOWN;
        if (length < 1L || length > LONGEST_ITEM) return OUTSIDE;
        if (!isNowOrLater(at)) return OUTSIDE;
        if (itemCount >= MOST_ITEMS) return ROOM;
        Item item = new Item(itemCount + 1, length, onto, at);
        if (at == now) item.comeOnto(onto, now, 0L);
        items[itemCount] = item;
        itemCount++;
        return item.number;
    }

    public int step(long t) {
        if (!isNowOrLater(t)) return OUTSIDE;
        passTo(t);
        return edges.takeNew();
    }

    public int edge(int i, int what) {
        return edges.read(i, what);
    }

    public int stop(int belt, boolean on, long t) {
        Belt told = beltNumbered(belt);
        if (told == null) return UNKNOWN;
        if (!isNowOrLater(t)) return OUTSIDE;
        boolean otherwise = told.running != on;
        if (otherwise && told.tellings >= MOST_TELLINGS) return ROOM;
        passTo(t);
        if (!otherwise) return 0;
        told.tell(on, t);
        aimItemsOn(told);
        return 1;
    }

    public int slip(int item, long by) {
        Item slipping = itemNumbered(item);
        if (slipping == null) return UNKNOWN;
        if (by < 0L || by > LONGEST_SLIP) return OUTSIDE;
        if (!slipping.isOnABelt()) return STATE;
        long back = Math.min(by, slipping.placeAt(now));
        slipping.start += back;
        slipping.aim();
        return (int) back;
    }

    public long place(int item, long t) {
        Item asked = itemNumbered(item);
        if (asked == null) return UNKNOWN;
        if (!isNowOrLater(t)) return OUTSIDE;
        return placeAhead(asked, t);
    }

    public int gap(int item, int other) {
        Item behind = itemNumbered(item);
        Item ahead = itemNumbered(other);
        if (behind == null || ahead == null) return UNKNOWN;
        if (item == other) return OUTSIDE;
        if (!behind.isOnABelt() || !ahead.isOnABelt()) return STATE;
        if (behind.belt != ahead.belt) return STATE;
        return (int) (ahead.placeAt(now) - ahead.length - behind.placeAt(now));
    }

    public int count(int belt) {
        Belt asked = beltNumbered(belt);
        if (asked == null) return UNKNOWN;
        int found = 0;
        for (int i = 0; i < itemCount; i++) {
            if (items[i].isOn(asked)) found++;
        }
        return found;
    }

    public int gear(int belt, long t) {
        Belt asked = beltNumbered(belt);
        if (asked == null) return UNKNOWN;
        if (!isNowOrLater(t)) return OUTSIDE;
        return asked.gearAt(t);
    }

    private Belt beltNumbered(int number) {
        return number >= 0 && number < beltCount ? belts[number] : null;
    }

    private Item itemNumbered(int number) {
        return number >= 1 && number <= itemCount ? items[number - 1] : null;
    }

    private boolean isNowOrLater(long t) {
        return t >= now && t <= LAST_TIME;
    }

    private void passTo(long t) {
        for (int turn = 0; turn < MOST_TURNS; turn++) {
            long time = nextTurn();
            if (time > t) break;
            // All items move before an edge is told: whether a front is short hangs on the others' places.
            moveItems(time);
            tellEdges(time);
        }
        now = t;
    }

    private long nextTurn() {
        long first = NEVER;
        for (int i = 0; i < itemCount; i++) {
            if (items[i].turn < first) first = items[i].turn;
        }
        return first;
    }

    private void moveItems(long time) {
        for (int i = 0; i < itemCount; i++) {
            if (items[i].turn == time) items[i].moveOver(time);
        }
    }

    private void tellEdges(long time) {
        for (int i = 0; i < itemCount; i++) {
            if (items[i].turn == time) tellEdgesOf(items[i], time);
        }
    }

    private void tellEdgesOf(Item item, long time) {
        Belt belt = item.belt;
        if (belt == null) return;
        long way = belt.wayAt(time);
        long past = way - item.start - belt.sensor;
        if (!item.frontTold && past >= 0L) {
            int kind = isShort(item, way) ? SHORT : FRONT;
            edges.add(time, belt.number, item.number, kind);
            item.frontTold = true;
        }
        if (item.frontTold && !item.endTold && past >= item.length) {
            edges.add(time, belt.number, item.number, END);
            item.endTold = true;
        }
        item.aim();
    }

    /** Whether another item is too near in front of an item, when their belt has run so far a way. */
    private boolean isShort(Item item, long way) {
        long front = way - item.start;
        for (int i = 0; i < itemCount; i++) {
            Item other = items[i];
            if (other == item || !other.isOn(item.belt)) continue;
            long place = way - other.start;
            boolean ahead = place > front || place == front && other.number < item.number;
            if (ahead && place - other.length - front < NEAR) return true;
        }
        return false;
    }

    private void aimItemsOn(Belt belt) {
        for (int i = 0; i < itemCount; i++) {
            if (items[i].isOn(belt)) items[i].aim();
        }
    }

    private static long placeAhead(Item item, long t) {
        Belt on = item.belt;
        if (on == null) return NONE;
        if (item.waiting && t < item.turn) return NOT_COME;
        long start = item.waiting ? on.wayAt(item.turn) : item.start;
        for (int crossings = 0; crossings < MOST_BELTS; crossings++) {
            long over = on.timeOfWay(start + on.length);
            if (t < over) return on.number * PLACES_OF_A_BELT + on.wayAt(t) - start;
            Belt onto = on.onto;
            if (onto == null) return NONE;
            long rest = on.wayAt(over) - start - on.length;
            start = onto.wayAt(over) - rest;
            on = onto;
        }
        return NONE;
    }

    /**
     * A belt as it was told latest. Its WAY is how far it has run since time 0; from the telling on it is laid
     * out in stages of one gear each, of which the last one lasts for ever.
     */
    private static final class Belt {
        final int number;
        final long length;
        final long speed;
        final long sensor;
        Belt onto = null;
        boolean running = true;
        int tellings = 0;
        long toldAt = 0L;
        int gearBefore = TOP_GEAR;
        long wayAtTelling = 0L;
        final int[] gears = new int[STAGES];
        final long[] paces = new long[STAGES];
        final long[] ways = new long[STAGES];

        Belt(int number, long length, long speed) {
            this.number = number;
            this.length = length;
            this.speed = speed;
            this.sensor = length / 2L;
        }

        void tell(boolean on, long t) {
            wayAtTelling = wayAt(t);
            // Told twice at one time, the gear of before that time is still the one to go on from.
            if (t > toldAt) gearBefore = gearAt(t - 1L);
            toldAt = t;
            running = on;
            tellings++;
            layStages();
        }

        void layStages() {
            long way = wayAtTelling;
            for (int k = 0; k < STAGES; k++) {
                int gear = running ? gearBefore + k + 1 : gearBefore - k - 1;
                gears[k] = Math.max(0, Math.min(TOP_GEAR, gear));
                paces[k] = speed * gears[k] / TOP_GEAR;
                ways[k] = way;
                way += paces[k] * GEAR_TIME;
            }
        }

        int stageAt(long t) {
            long stage = (t - toldAt) / GEAR_TIME;
            if (stage < 0L) return 0;
            return stage < STAGES ? (int) stage : STAGES - 1;
        }

        int gearAt(long t) {
            return gears[stageAt(t)];
        }

        long wayAt(long t) {
            int k = stageAt(t);
            return ways[k] + (t - toldAt - k * GEAR_TIME) * paces[k];
        }

        /** The first time, from the latest telling on, at which the way is so far or farther. */
        long timeOfWay(long way) {
            int k = 0;
            while (k < STAGES - 1 && ways[k + 1] < way) k++;
            long begin = toldAt + k * GEAR_TIME;
            long missing = way - ways[k];
            if (missing <= 0L) return begin;
            long pace = paces[k];
            return pace > 0L ? begin + (missing + pace - 1L) / pace : NEVER;
        }
    }

    /**
     * An item: its place is its belt's way less its start. Its TURN is the next time at which something becomes
     * of it: it comes, an edge is told, it crosses onto another belt or leaves.
     */
    private static final class Item {
        final int number;
        final long length;
        Belt belt;
        boolean waiting = true;
        long turn;
        long start = 0L;
        boolean frontTold = false;
        boolean endTold = false;

        Item(int number, long length, Belt belt, long at) {
            this.number = number;
            this.length = length;
            this.belt = belt;
            this.turn = at;
        }

        boolean isOnABelt() {
            return belt != null && !waiting;
        }

        boolean isOn(Belt asked) {
            return belt == asked && !waiting;
        }

        long placeAt(long t) {
            return belt == null ? 0L : belt.wayAt(t) - start;
        }

        void comeOnto(Belt onto, long time, long place) {
            belt = onto;
            waiting = false;
            start = onto.wayAt(time) - place;
            frontTold = false;
            endTold = false;
            aim();
        }

        /** Comes onto its belt, or crosses its end, if it is time for one of these. */
        void moveOver(long time) {
            if (belt == null) return;
            if (waiting) {
                comeOnto(belt, time, 0L);
                return;
            }
            long over = belt.wayAt(time) - start - belt.length;
            if (over < 0L) return;
            if (belt.onto == null) {
                belt = null;
                turn = NEVER;
            } else {
                comeOnto(belt.onto, time, over);
            }
        }

        /** Sets the turn anew, after its belt was told, or it slipped, or a turn was had. */
        void aim() {
            if (belt == null) return;
            long aimed = belt.length;
            if (!frontTold) {
                aimed = belt.sensor;
            } else if (!endTold) {
                aimed = Math.min(belt.sensor + length, belt.length);
            }
            turn = belt.timeOfWay(start + aimed);
        }
    }

    /** The edges in their order; of those beyond the first 400 only the number is kept. */
    private static final class EdgeList {
        private static final int COLUMNS = 4;

        final int[] rows = new int[MOST_EDGES * COLUMNS];
        int total = 0;
        int taken = 0;

        void add(long time, int belt, int item, int kind) {
            if (total < MOST_EDGES) {
                int row = total * COLUMNS;
                rows[row] = (int) time;
                rows[row + 1] = belt;
                rows[row + 2] = item;
                rows[row + 3] = kind;
            }
            total++;
        }

        int read(int i, int what) {
            if (i < 0 || i >= MOST_EDGES || i >= total) return NONE;
            if (what < 0 || what >= COLUMNS) return NONE;
            return rows[i * COLUMNS + what];
        }

        int takeNew() {
            int fresh = total - taken;
            taken = total;
            return fresh;
        }
    }
}
