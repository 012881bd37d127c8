/** The promises 1 to 12 of the document, one method each, with the edges that it names and wrong inputs. */
public final class PromiseTests {
    private static final int NONE = -1, UNKNOWN = -11, OUTSIDE = -12, STATE = -13, ROOM = -14;
    private static int checks = 0;
    private static int wrong = 0;
    private static String about = "";

    private static void due(String call, long got, long want) {
        checks++;
        if (got == want) return;
        wrong++;
        System.out.println(about + ": " + call + " answered " + got + ", due is " + want);
    }

    private static void dueEdge(BeltSteps x, int i, int time, int belt, int item, int kind) {
        due("edge " + i + " time", x.edge(i, 0), time);
        due("edge " + i + " belt", x.edge(i, 1), belt);
        due("edge " + i + " item", x.edge(i, 2), item);
        due("edge " + i + " kind", x.edge(i, 3), kind);
    }

    /** An object with belts of one length and speed, each of which leads onto the next one. */
    private static BeltSteps chain(int belts, long length, long speed) {
        BeltSteps x = new BeltSteps();
        for (int b = 0; b < belts; b++) x.belt(length, speed);
        for (int b = 0; b + 1 < belts; b++) x.join(b, b + 1);
        return x;
    }

    public static void main(String[] args) {
        constants();
        newObject();
        belt();
        join();
        feed();
        step();
        edgesInOrder();
        edgesAtTheSensor();
        edgesShort();
        edgesOnce();
        edgesBeyondTheLast();
        stop();
        stopOften();
        slip();
        place();
        placeOfGears();
        gap();
        count();
        gear();
        refusalsLetNoTimePass();
        System.out.println(checks + " checks, " + wrong + " answers are not as due");
        if (wrong != 0) System.exit(1);
    }

    private static void constants() {
        about = "constants";
        due("NONE", BeltSteps.NONE, NONE);
        due("UNKNOWN", BeltSteps.UNKNOWN, UNKNOWN);
        due("OUTSIDE", BeltSteps.OUTSIDE, OUTSIDE);
        due("STATE", BeltSteps.STATE, STATE);
        due("ROOM", BeltSteps.ROOM, ROOM);
    }

    private static void newObject() {
        about = "promise 1";
        BeltSteps x = new BeltSteps();
        due("count(0)", x.count(0), UNKNOWN);
        due("gear(0, 0)", x.gear(0, 0), UNKNOWN);
        due("stop(0)", x.stop(0, false, 0), UNKNOWN);
        due("join(0, 1)", x.join(0, 1), UNKNOWN);
        due("feed(0)", x.feed(0, 1, 0), UNKNOWN);
        due("place(1, 0)", x.place(1, 0), UNKNOWN);
        due("slip(1, 0)", x.slip(1, 0), UNKNOWN);
        due("gap(1, 2)", x.gap(1, 2), UNKNOWN);
        due("edge(0, 0)", x.edge(0, 0), NONE);
        due("step(0)", x.step(0), 0);
        due("step(1000000)", x.step(1000000), 0);
        BeltSteps first = chain(1, 100000, 5000);
        first.feed(0, 1, 0);
        first.step(100);
        BeltSteps second = new BeltSteps();
        due("count(0) of another object", second.count(0), UNKNOWN);
        due("edge(0, 0) of another object", second.edge(0, 0), NONE);
        due("step(0) of another object", second.step(0), 0);
    }

    private static void belt() {
        about = "promise 2";
        BeltSteps x = new BeltSteps();
        long[] badLengths = {99999, 100000001, 0, -1, -100000, Long.MIN_VALUE, Long.MAX_VALUE, 4294967296L + 100000};
        for (long length : badLengths) due("belt(" + length + ", 5)", x.belt(length, 5), OUTSIDE);
        long[] badSpeeds = {0, 5001, -1, Long.MIN_VALUE, Long.MAX_VALUE, 4294967297L};
        for (long speed : badSpeeds) due("belt(100000, " + speed + ")", x.belt(100000, speed), OUTSIDE);
        due("count(0) after refusals", x.count(0), UNKNOWN);
        due("shortest, slowest", x.belt(100000, 1), 0);
        due("longest, fastest", x.belt(100000000, 5000), 1);
        for (int b = 2; b < 12; b++) due("belt " + b, x.belt(100000, 5), b);
        due("a thirteenth", x.belt(100000, 5), ROOM);
        due("a thirteenth, too short", x.belt(99999, 5), OUTSIDE);
        due("a thirteenth, too fast", x.belt(100000, 5001), OUTSIDE);
        due("count(11)", x.count(11), 0);
        due("count(12)", x.count(12), UNKNOWN);
        BeltSteps late = new BeltSteps();
        late.step(777);
        due("a belt made later", late.belt(100000, 100), 0);
        due("its gear", late.gear(0, 777), 8);
        due("its item", late.feed(0, 5, 777), 1);
        due("its item's place", late.place(1, 787), 1000);
    }

    private static void join() {
        about = "promise 3";
        BeltSteps x = chain(0, 0, 0);
        for (int b = 0; b < 4; b++) x.belt(100000, 1000);
        due("join(0, 4)", x.join(0, 4), UNKNOWN);
        due("join(4, 0)", x.join(4, 0), UNKNOWN);
        due("join(-1, 0)", x.join(-1, 0), UNKNOWN);
        due("join(0, -1)", x.join(0, -1), UNKNOWN);
        due("join(4, 4)", x.join(4, 4), UNKNOWN);
        due("join(0, 0)", x.join(0, 0), OUTSIDE);
        due("join(2, 1)", x.join(2, 1), OUTSIDE);
        due("join(0, 1)", x.join(0, 1), NONE);
        due("join(0, 2)", x.join(0, 2), 1);
        due("join(0, 0) again", x.join(0, 0), OUTSIDE);
        due("join(0, 3)", x.join(0, 3), 2);
        due("join(0, 3) again", x.join(0, 3), 3);
        x.feed(0, 10, 0);
        x.feed(0, 10, 1);
        x.feed(2, 10, 0);
        due("place(1, 100)", x.place(1, 100), 3000000000L);
        x.step(100);
        due("join(0, 2) when one is over", x.join(0, 2), 3);
        due("join(2, 3) when one has left", x.join(2, 3), NONE);
        due("place of one that is over", x.place(1, 101), 3000001000L);
        due("place of one that comes over", x.place(2, 101), 2000000000L);
        due("place of one that has left", x.place(3, 101), NONE);
        x.step(101);
        due("count(2)", x.count(2), 1);
        due("count(3)", x.count(3), 1);
        due("place after three belts", x.place(2, 201), 3000000000L);
    }

    private static void feed() {
        about = "promise 4";
        BeltSteps x = chain(2, 100000, 1000);
        due("feed(2, ..)", x.feed(2, 0, -1), UNKNOWN);
        due("feed(-1, ..)", x.feed(-1, 1, 0), UNKNOWN);
        long[] badLengths = {0, -1, 100001, Long.MIN_VALUE, Long.MAX_VALUE, 4294967297L};
        for (long length : badLengths) due("feed length " + length, x.feed(0, length, 0), OUTSIDE);
        x.step(50);
        long[] badTimes = {49, 0, -1, 1000001, Long.MIN_VALUE, Long.MAX_VALUE, 4294967296L + 50};
        for (long at : badTimes) due("feed at " + at, x.feed(0, 1, at), OUTSIDE);
        due("now", x.feed(0, 1, 50), 1);
        due("it is there", x.count(0), 1);
        due("last time", x.feed(1, 100000, 1000000), 2);
        due("later", x.feed(0, 7, 60), 3);
        due("not yet there", x.count(0), 1);
        x.step(59);
        due("still not there", x.count(0), 1);
        x.step(60);
        due("there", x.count(0), 2);
        due("its place", x.place(3, 60), 0);
        x.stop(0, false, 65);
        for (int item = 4; item <= 60; item++) due("item " + item, x.feed(0, 1, 70), item);
        due("one more", x.feed(0, 1, 70), ROOM);
        due("one more on no belt", x.feed(2, 1, 70), UNKNOWN);
        due("one more too long", x.feed(0, 100001, 70), OUTSIDE);
        due("one more too late", x.feed(0, 1, 1000001), OUTSIDE);
        x.step(1000000);
        due("item at the last time", x.place(2, 1000000), 1000000000L);
        due("no room when all have come", x.feed(0, 1, 1000000), ROOM);
    }

    private static void step() {
        about = "promise 5";
        BeltSteps x = chain(2, 100000, 1000);
        x.feed(0, 10, 0);
        due("step(49)", x.step(49), 0);
        due("step(48)", x.step(48), OUTSIDE);
        due("step(-1)", x.step(-1), OUTSIDE);
        due("step(1000001)", x.step(1000001), OUTSIDE);
        due("step(MAX)", x.step(Long.MAX_VALUE), OUTSIDE);
        due("step(MIN)", x.step(Long.MIN_VALUE), OUTSIDE);
        due("step(2^32 + 60)", x.step(4294967296L + 60), OUTSIDE);
        due("step(50)", x.step(50), 1);
        due("step(50) again", x.step(50), 0);
        due("stop(1, true, 60) told so already", x.stop(1, true, 60), 0);
        due("edge(1, 0) before the step", x.edge(1, 0), 51);
        due("refused step(59)", x.step(59), OUTSIDE);
        due("step(60) counts what came with stop", x.step(60), 1);
        due("step(1000000)", x.step(1000000), 2);
        due("step(1000000) again", x.step(1000000), 0);
        due("step(999999)", x.step(999999), OUTSIDE);
    }

    private static void edgesInOrder() {
        about = "promise 6, order";
        BeltSteps x = chain(2, 100000, 5000);
        x.feed(1, 4999, 20);
        x.feed(0, 5000, 0);
        x.feed(0, 1, 19);
        x.step(1000);
        due("none before the first", x.edge(-1, 0), NONE);
        due("edge(MIN)", x.edge(Integer.MIN_VALUE, 0), NONE);
        due("edge(MAX)", x.edge(Integer.MAX_VALUE, 0), NONE);
        due("what = 4", x.edge(0, 4), NONE);
        due("what = -1", x.edge(0, -1), NONE);
        due("what = MIN", x.edge(0, Integer.MIN_VALUE), NONE);
        due("what = MAX", x.edge(0, Integer.MAX_VALUE), NONE);
        dueEdge(x, 0, 10, 0, 2, 0);
        dueEdge(x, 1, 11, 0, 2, 1);
        dueEdge(x, 2, 29, 0, 3, 0);
        dueEdge(x, 3, 30, 1, 1, 0);
        dueEdge(x, 4, 30, 1, 2, 2);
        dueEdge(x, 5, 30, 0, 3, 1);
        dueEdge(x, 6, 31, 1, 1, 1);
        dueEdge(x, 7, 31, 1, 2, 1);
        dueEdge(x, 8, 49, 1, 3, 0);
        dueEdge(x, 9, 50, 1, 3, 1);
        due("none after the last", x.edge(10, 0), NONE);
    }

    private static void edgesAtTheSensor() {
        about = "promise 6, sensor";
        BeltSteps x = new BeltSteps();
        x.belt(200001, 4000);
        x.belt(200000, 4000);
        x.feed(0, 1, 0);
        x.feed(0, 99999, 1000);
        x.feed(0, 100000, 2000);
        x.feed(1, 100000, 3000);
        due("edges in all", x.step(10000), 7);
        dueEdge(x, 0, 25, 0, 1, 0);
        dueEdge(x, 1, 26, 0, 1, 1);
        dueEdge(x, 2, 1025, 0, 2, 0);
        dueEdge(x, 3, 1050, 0, 2, 1);
        dueEdge(x, 4, 2025, 0, 3, 0);
        dueEdge(x, 5, 2050, 0, 3, 1);
        dueEdge(x, 6, 3025, 1, 4, 0);

        // The whole item is past the sensor only when the front is at the belt's end, and so is on it no more.
        BeltSteps y = chain(2, 100000, 1000);
        y.feed(0, 50000, 0);
        y.feed(0, 49000, 500);
        y.feed(0, 49001, 1000);
        due("edges until 1100", y.step(1100), 7);
        dueEdge(y, 0, 50, 0, 1, 0);
        dueEdge(y, 1, 150, 1, 1, 0);
        dueEdge(y, 2, 550, 0, 2, 0);
        dueEdge(y, 3, 599, 0, 2, 1);
        dueEdge(y, 4, 650, 1, 2, 0);
        dueEdge(y, 5, 699, 1, 2, 1);
        dueEdge(y, 6, 1050, 0, 3, 0);
        due("no end of the third", y.edge(7, 0), NONE);
    }

    private static void edgesShort() {
        about = "promise 6, short";
        BeltSteps x = new BeltSteps();
        x.belt(1000000, 1000);
        x.feed(0, 10000, 0);
        x.feed(0, 10000, 60);
        x.feed(0, 9001, 1000);
        x.feed(0, 10000, 1059);
        x.feed(0, 9000, 2000);
        x.feed(0, 10000, 2059);
        x.step(5000);
        dueEdge(x, 0, 500, 0, 1, 0);
        dueEdge(x, 1, 510, 0, 1, 1);
        dueEdge(x, 2, 560, 0, 2, 0);
        due("49999 in front", x.edge(6, 3), 2);
        due("50000 in front", x.edge(10, 3), 0);

        BeltSteps twins = new BeltSteps();
        twins.belt(1000000, 1000);
        twins.feed(0, 1, 5);
        twins.feed(0, 1, 5);
        twins.feed(0, 1, 5);
        twins.step(505);
        dueEdge(twins, 0, 505, 0, 1, 0);
        dueEdge(twins, 1, 505, 0, 2, 2);
        dueEdge(twins, 2, 505, 0, 3, 2);

        // An item behind never makes a front short, whatever its length; one in front that reaches back does.
        BeltSteps y = new BeltSteps();
        y.belt(100000, 1000);
        y.belt(200000, 1000);
        y.feed(0, 1, 0);
        y.feed(0, 100000, 1);
        y.feed(1, 1, 0);
        y.step(50);
        dueEdge(y, 0, 50, 0, 1, 0);
        y.step(51);
        due("another belt's item is not in front", y.edge(1, 3), 1);
        due("the one behind", y.edge(2, 3), 2);
        // The one in front has just left when the next one comes to the sensor.
        BeltSteps z = new BeltSteps();
        z.belt(100000, 1000);
        z.feed(0, 90000, 0);
        z.feed(0, 1, 50);
        z.feed(0, 1, 99);
        z.step(149);
        dueEdge(z, 1, 100, 0, 2, 0);
        due("still in front", z.edge(3, 3), 2);
        slipMakesShort();
    }

    private static void slipMakesShort() {
        BeltSteps x = new BeltSteps();
        x.belt(1000000, 1000);
        x.feed(0, 1000, 0);
        x.feed(0, 1000, 0);
        x.step(100);
        x.slip(1, 50000);
        x.step(600);
        dueEdge(x, 0, 500, 0, 2, 0);
        dueEdge(x, 2, 550, 0, 1, 2);
    }

    private static void edgesOnce() {
        about = "promise 6, once";
        BeltSteps x = chain(2, 100000, 1000);
        x.feed(0, 5000, 0);
        due("front", x.step(52), 1);
        due("slip behind the sensor", x.slip(1, 20000), 20000);
        due("no front again, the end once", x.step(75), 1);
        dueEdge(x, 1, 75, 0, 1, 1);
        x.slip(1, 50000);
        due("nothing again", x.step(169), 0);
        due("over", x.step(170), 0);
        due("place", x.place(1, 170), 1000000000L);
        due("anew on the next belt", x.step(300), 2);
        dueEdge(x, 2, 220, 1, 1, 0);
        dueEdge(x, 3, 225, 1, 1, 1);
    }

    private static void edgesBeyondTheLast() {
        about = "promise 6, 400";
        BeltSteps x = chain(12, 100000, 5000);
        for (int item = 0; item < 60; item++) x.feed(0, 1 + item, 0);
        due("all edges are counted", x.step(1000), 60 * 12 * 2);
        dueEdge(x, 399, 70, 3, 40, 2);
        due("edge(400, 0)", x.edge(400, 0), NONE);
        due("edge(1439, 0)", x.edge(1439, 0), NONE);
        due("count when all have left", x.count(11), 0);
        due("step after all", x.step(2000), 0);
    }

    private static void stop() {
        about = "promise 7";
        BeltSteps x = chain(2, 100000, 1000);
        due("stop(2, ..)", x.stop(2, false, -1), UNKNOWN);
        due("stop(-1, ..)", x.stop(-1, false, 0), UNKNOWN);
        due("stop at -1", x.stop(0, false, -1), OUTSIDE);
        due("stop at 1000001", x.stop(0, false, 1000001), OUTSIDE);
        due("runs at first", x.stop(0, true, 10), 0);
        due("time has passed", x.step(9), OUTSIDE);
        due("told to stop", x.stop(0, false, 10), 1);
        due("told so again", x.stop(0, false, 30), 0);
        due("nothing comes of it", x.gear(0, 30), 6);
        due("the other one runs", x.gear(1, 30), 8);
        due("below now", x.stop(0, true, 29), OUTSIDE);
        due("told to run", x.stop(0, true, 50), 1);
        due("gear of before is 6, not 5", x.gear(0, 50), 7);
        due("gear 20 later", x.gear(0, 69), 7);
        due("gear 20 later", x.gear(0, 70), 8);
        stopTwiceAtOnce();
        stopMovesItems();
    }

    private static void stopTwiceAtOnce() {
        BeltSteps x = chain(1, 100000, 1000);
        x.stop(0, false, 0);
        x.step(75);
        due("gear(0, 79)", x.gear(0, 79), 4);
        due("run at 80", x.stop(0, true, 80), 1);
        due("one more than before 80", x.gear(0, 80), 5);
        due("stop at 80", x.stop(0, false, 80), 1);
        due("one less than before 80", x.gear(0, 80), 3);
        due("run again at 80", x.stop(0, true, 80), 1);
        due("one more than before 80, again", x.gear(0, 80), 5);
        due("and on", x.gear(0, 100), 6);
        x.stop(0, false, 101);
        due("from the gear that it has had for one millisecond", x.gear(0, 101), 5);
    }

    private static void stopMovesItems() {
        BeltSteps x = chain(2, 200000, 1000);
        x.feed(0, 3000, 0);
        due("stop with an edge at its time", x.stop(0, false, 100), 1);
        dueEdge(x, 0, 100, 0, 1, 0);
        due("the gear is that of the millisecond's begin", x.place(1, 101), 100875);
        due("the front alone", x.step(103), 1);
        due("the end, later than at full speed", x.step(104), 1);
        dueEdge(x, 1, 104, 0, 1, 1);
        due("it stands", x.step(900000), 0);
        due("where it stands", x.place(1, 900000), 170000);
        due("run", x.stop(0, true, 900000), 1);
        due("still on the first belt", x.place(1, 900087), 199375);
        due("over", x.place(1, 900088), 1000000000L);
        due("edges on the second belt", x.step(901000), 2);
        dueEdge(x, 2, 900188, 1, 1, 0);
        dueEdge(x, 3, 900191, 1, 1, 1);
    }

    private static void stopOften() {
        about = "promise 7, room";
        BeltSteps x = chain(2, 100000, 1000);
        for (int i = 0; i < 100; i++) {
            due("telling " + i, x.stop(0, i % 2 == 1, i), 1);
            due("telling again", x.stop(0, i % 2 == 1, i), 0);
        }
        due("one too many", x.stop(0, false, 200), ROOM);
        due("on no belt", x.stop(2, false, 200), UNKNOWN);
        due("outside", x.stop(0, false, 98), OUTSIDE);
        due("no time has passed", x.step(99), 0);
        due("told as before", x.stop(0, true, 200), 0);
        due("time has passed", x.step(199), OUTSIDE);
        due("another belt", x.stop(1, false, 200), 1);
    }

    private static void slip() {
        about = "promise 8";
        BeltSteps x = chain(2, 100000, 1000);
        x.feed(0, 10, 0);
        x.feed(0, 10, 20);
        x.step(10);
        due("slip(3, -1)", x.slip(3, -1), UNKNOWN);
        due("slip(0, 1)", x.slip(0, 1), UNKNOWN);
        due("slip(-1, 1)", x.slip(-1, 1), UNKNOWN);
        due("slip(1, -1)", x.slip(1, -1), OUTSIDE);
        due("slip(1, 10^9 + 1)", x.slip(1, 1000000001), OUTSIDE);
        due("slip(1, MIN)", x.slip(1, Long.MIN_VALUE), OUTSIDE);
        due("slip(1, MAX)", x.slip(1, Long.MAX_VALUE), OUTSIDE);
        due("outside goes before state", x.slip(2, -1), OUTSIDE);
        due("not come yet", x.slip(2, 1), STATE);
        due("by nothing", x.slip(1, 0), 0);
        due("unchanged", x.place(1, 10), 10000);
        due("by 1", x.slip(1, 1), 1);
        due("changed", x.place(1, 10), 9999);
        due("to the beginning", x.slip(1, 9999), 9999);
        due("at the beginning", x.slip(1, 5), 0);
        x.step(15);
        due("by 10^9", x.slip(1, 1000000000), 5000);
        due("place", x.place(1, 15), 0);
        due("the front is later now", x.step(64), 0);
        due("the front", x.step(65), 1);
        dueEdge(x, 0, 65, 0, 1, 0);
        x.step(117);
        due("back on the second belt only to its beginning", x.slip(1, 1000000000), 2000);
        due("place", x.place(1, 117), 1000000000L);
        x.step(1000);
        due("left", x.slip(1, 1), STATE);
        due("left, outside", x.slip(1, -1), OUTSIDE);
    }

    private static void place() {
        about = "promise 9";
        BeltSteps x = chain(3, 100000, 3000);
        x.feed(0, 10, 0);
        x.feed(1, 10, 40);
        x.step(10);
        due("place(0, 10)", x.place(0, 10), UNKNOWN);
        due("place(3, 9)", x.place(3, 9), UNKNOWN);
        due("place(-1, 10)", x.place(-1, 10), UNKNOWN);
        due("place(1, 9)", x.place(1, 9), OUTSIDE);
        due("place(1, 1000001)", x.place(1, 1000001), OUTSIDE);
        due("place(1, MIN)", x.place(1, Long.MIN_VALUE), OUTSIDE);
        due("place(1, MAX)", x.place(1, Long.MAX_VALUE), OUTSIDE);
        due("place(1, 10)", x.place(1, 10), 30000);
        due("place(1, 33)", x.place(1, 33), 99000);
        due("place(1, 34)", x.place(1, 34), 1000002000L);
        due("place(1, 66)", x.place(1, 66), 1000098000L);
        due("place(1, 67)", x.place(1, 67), 2000001000L);
        due("place(1, 99)", x.place(1, 99), 2000097000L);
        due("place(1, 100)", x.place(1, 100), NONE);
        due("place(2, 39)", x.place(2, 39), -2);
        due("place(2, 40)", x.place(2, 40), 1000000000L);
        due("place(2, 41)", x.place(2, 41), 1000003000L);
        due("place(2, 1000000)", x.place(2, 1000000), NONE);
        due("nothing has passed", x.step(10), 0);
        due("nothing is told", x.edge(0, 0), NONE);
        x.step(100);
        due("has left", x.place(1, 100), NONE);
        due("has left, below now", x.place(1, 99), OUTSIDE);
    }

    private static void placeOfGears() {
        about = "promise 9, gears";
        BeltSteps x = new BeltSteps();
        x.belt(200000, 1001);
        x.belt(100000, 1);
        x.join(0, 1);
        x.feed(0, 10, 0);
        x.feed(1, 10, 30);
        x.stop(1, false, 0);
        due("cut in each millisecond", x.place(2, 1000), 1000000000L);
        due("over onto one that stands", x.place(1, 1000), 1000000000L + 200 * 1001 - 200000);
        x.stop(0, false, 40);
        due("1001 * 7 / 8", x.place(1, 60), 40 * 1001 + 20 * 875);
        due("1001 * 6 / 8", x.place(1, 61), 40 * 1001 + 20 * 875 + 750);
        due("where it stands", x.place(1, 1000), 40 * 1001 + 20 * (875 + 750 + 625 + 500 + 375 + 250 + 125));
        x.stop(1, true, 500);
        due("speed 1 moves in gear 8 alone", x.place(2, 640), 1000000000L);
        due("and then by 1", x.place(2, 641), 1000000001L);
    }

    private static void gap() {
        about = "promise 10";
        BeltSteps x = chain(2, 100000, 1000);
        x.feed(0, 300, 0);
        x.feed(0, 400, 20);
        x.feed(0, 500, 200);
        x.step(10);
        due("gap(1, 4)", x.gap(1, 4), UNKNOWN);
        due("gap(4, 1)", x.gap(4, 1), UNKNOWN);
        due("gap(4, 4)", x.gap(4, 4), UNKNOWN);
        due("gap(0, 1)", x.gap(0, 1), UNKNOWN);
        due("gap(1, 0)", x.gap(1, 0), UNKNOWN);
        due("gap(3, 3)", x.gap(3, 3), OUTSIDE);
        due("gap(1, 1)", x.gap(1, 1), OUTSIDE);
        due("one has not come", x.gap(1, 2), STATE);
        due("one has not come", x.gap(2, 1), STATE);
        due("both have not come", x.gap(2, 3), STATE);
        x.step(30);
        due("in front", x.gap(2, 1), 30000 - 300 - 10000);
        due("behind", x.gap(1, 2), 10000 - 400 - 30000);
        x.step(100);
        due("on two belts", x.gap(2, 1), STATE);
        x.step(120);
        due("on one belt again", x.gap(2, 1), 20000 - 300);
        x.step(200);
        due("one has left", x.gap(2, 1), STATE);
        due("one has left", x.gap(1, 2), STATE);
        x.step(220);
        due("both have left", x.gap(1, 2), STATE);
    }

    private static void count() {
        about = "promise 11";
        BeltSteps x = chain(2, 100000, 1000);
        due("count(-1)", x.count(-1), UNKNOWN);
        due("count(2)", x.count(2), UNKNOWN);
        due("count(MAX)", x.count(Integer.MAX_VALUE), UNKNOWN);
        due("count(MIN)", x.count(Integer.MIN_VALUE), UNKNOWN);
        x.feed(0, 1, 0);
        x.feed(0, 1, 10);
        x.feed(1, 1, 100);
        due("at 0", x.count(0) * 10 + x.count(1), 10);
        x.step(10);
        due("at 10", x.count(0) * 10 + x.count(1), 20);
        x.step(99);
        due("at 99", x.count(0) * 10 + x.count(1), 20);
        x.step(100);
        due("at 100", x.count(0) * 10 + x.count(1), 12);
        x.step(110);
        due("at 110", x.count(0) * 10 + x.count(1), 3);
        x.step(200);
        due("at 200", x.count(0) * 10 + x.count(1), 1);
        x.stop(1, false, 205);
        x.step(210);
        due("at 210", x.count(0) * 10 + x.count(1), 1);
        x.step(211);
        due("at 211", x.count(0) * 10 + x.count(1), 0);
    }

    private static void gear() {
        about = "promise 12";
        BeltSteps x = chain(2, 100000, 1000);
        due("gear(2, -1)", x.gear(2, -1), UNKNOWN);
        due("gear(-1, 0)", x.gear(-1, 0), UNKNOWN);
        due("gear(0, -1)", x.gear(0, -1), OUTSIDE);
        due("gear(0, 1000001)", x.gear(0, 1000001), OUTSIDE);
        due("gear(0, MAX)", x.gear(0, Long.MAX_VALUE), OUTSIDE);
        due("gear(0, MIN)", x.gear(0, Long.MIN_VALUE), OUTSIDE);
        due("gear(0, 1000000)", x.gear(0, 1000000), 8);
        x.stop(0, false, 7);
        due("gear(0, 6)", x.gear(0, 6), OUTSIDE);
        for (int t = 7; t < 200; t++) due("down at " + t, x.gear(0, t), Math.max(0, 7 - (t - 7) / 20));
        due("the other belt's", x.gear(1, 100), 8);
        due("nothing has passed", x.step(7), 0);
        x.stop(0, true, 100);
        for (int t = 100; t < 300; t++) due("up at " + t, x.gear(0, t), Math.min(8, 4 + (t - 100) / 20));
        due("at the last time", x.gear(0, 1000000), 8);
        x.stop(0, false, 1000000);
        due("told at the last time", x.gear(0, 1000000), 7);
    }

    private static void refusalsLetNoTimePass() {
        about = "refusals";
        BeltSteps x = chain(1, 100000, 1000);
        x.feed(0, 1, 0);
        x.step(40);
        x.belt(1, 1);
        x.join(0, 0);
        x.feed(0, 0, 90);
        x.step(1000001);
        x.stop(1, false, 90);
        x.stop(0, false, 39);
        x.slip(1, -1);
        x.place(1, 39);
        x.place(2, 90);
        x.gear(0, 39);
        x.gear(1, 90);
        due("place", x.place(1, 40), 40000);
        due("gear", x.gear(0, 40), 8);
        due("count", x.count(0), 1);
        due("next item's number", x.feed(0, 1, 40), 2);
        due("next belt's number", x.belt(100000, 1), 1);
        due("no edges", x.step(40), 0);
    }
}
