/**
 * Each sentence of the document that names a boundary case, in a method of its own, on both sides of the boundary.
 * What a refused call leaves as it was is in RefusalTests.
 */
public final class BoundaryTests {
    private static final int NONE = -1, NOT_COME = -2, UNKNOWN = -11, OUTSIDE = -12, STATE = -13, ROOM = -14;
    private static final long BELT = 1000000000L;
    private static final long LAST = 1000000L;
    /** Wraps to small numbers where a long is cut to an int. */
    private static final long WRAP = 4294967296L;
    private static int checks = 0;
    private static int wrong = 0;
    private static String about = "";

    private static void due(String call, long got, long want) {
        checks++;
        if (got == want) return;
        wrong++;
        System.out.println(about + ": " + call + " answered " + got + ", due is " + want);
    }

    /** All the edges that there are, each as time, belt, item, kind. */
    private static void dueEdges(BeltSteps x, int[]... edges) {
        for (int i = 0; i < edges.length; i++) {
            for (int what = 0; what < 4; what++) due("edge(" + i + ", " + what + ")", x.edge(i, what), edges[i][what]);
        }
        due("edge after the last", x.edge(edges.length, 0), NONE);
    }

    private static int[] edge(int time, int belt, int item, int kind) {
        return new int[] {time, belt, item, kind};
    }

    private static BeltSteps oneBelt(long length, long speed) {
        BeltSteps x = new BeltSteps();
        x.belt(length, speed);
        return x;
    }

    /** Belts of one length and speed, each of which leads onto the next one. */
    private static BeltSteps chain(int belts, long length, long speed) {
        BeltSteps x = new BeltSteps();
        for (int b = 0; b < belts; b++) x.belt(length, speed);
        for (int b = 0; b + 1 < belts; b++) x.join(b, b + 1);
        return x;
    }

    public static void main(String[] args) {
        times();
        numbers();
        gears();
        ways();
        itemsGoOver();
        sensors();
        shortFronts();
        orderOfEdges();
        orderOfRefusals();
        promises();
        System.out.println(checks + " checks, " + wrong + " answers are not as due");
        if (wrong != 0) System.exit(1);
    }

    // TIME is 0 at first; not below it, 1000000 at most, else OUTSIDE.

    private static void times() {
        timeIsZeroAtFirst();
        timeIsNotBelowNow();
        timePassesWithStop();
        timeIsAMillionAtMost();
        nowIsTheLastTime();
        timesFarOff();
        timeStaysWhenPlaceAndGearAreAsked();
    }

    private static void timeIsZeroAtFirst() {
        about = "time, 0 at first";
        BeltSteps x = oneBelt(100000, 1000);
        due("step(-1)", x.step(-1), OUTSIDE);
        due("stop(0, true, -1)", x.stop(0, true, -1), OUTSIDE);
        due("stop(0, false, -1)", x.stop(0, false, -1), OUTSIDE);
        due("feed(0, 1, -1)", x.feed(0, 1, -1), OUTSIDE);
        due("feed(0, 1, 0)", x.feed(0, 1, 0), 1);
        due("place(1, -1)", x.place(1, -1), OUTSIDE);
        due("place(1, 0)", x.place(1, 0), 0);
        due("gear(0, -1)", x.gear(0, -1), OUTSIDE);
        due("gear(0, 0)", x.gear(0, 0), 8);
        due("stop(0, true, 0)", x.stop(0, true, 0), 0);
        due("step(0)", x.step(0), 0);
        due("stop(0, false, 0)", x.stop(0, false, 0), 1);
    }

    private static void timeIsNotBelowNow() {
        about = "time, not below it";
        BeltSteps x = oneBelt(100000000, 1000);
        x.feed(0, 1, 0);
        due("step(500)", x.step(500), 0);
        due("step(499)", x.step(499), OUTSIDE);
        due("step(500) again", x.step(500), 0);
        due("stop(0, true, 499)", x.stop(0, true, 499), OUTSIDE);
        due("stop(0, true, 500)", x.stop(0, true, 500), 0);
        due("stop(0, false, 499)", x.stop(0, false, 499), OUTSIDE);
        due("stop(0, false, 500)", x.stop(0, false, 500), 1);
        due("feed(0, 1, 499)", x.feed(0, 1, 499), OUTSIDE);
        due("feed(0, 1, 500)", x.feed(0, 1, 500), 2);
        due("place(1, 499)", x.place(1, 499), OUTSIDE);
        due("place(1, 500)", x.place(1, 500), 500000);
        due("gear(0, 499)", x.gear(0, 499), OUTSIDE);
        due("gear(0, 500)", x.gear(0, 500), 7);
    }

    private static void timePassesWithStop() {
        about = "time, passes with stop";
        BeltSteps x = oneBelt(100000, 1000);
        x.feed(0, 1, 0);
        x.feed(0, 1, 30);
        due("told otherwise at 20", x.stop(0, false, 20), 1);
        due("step(19)", x.step(19), OUTSIDE);
        due("place at 20", x.place(1, 20), 20000);
        due("told so already at 30", x.stop(0, false, 30), 0);
        due("step(29)", x.step(29), OUTSIDE);
        due("the one of 30 is there", x.count(0), 2);
        due("step(30)", x.step(30), 0);
    }

    private static void timeIsAMillionAtMost() {
        about = "time, 1000000 at most";
        BeltSteps x = oneBelt(100000000, 3);
        due("feed at 1000001", x.feed(0, 1, LAST + 1), OUTSIDE);
        due("feed at 1000000", x.feed(0, 1, LAST), 1);
        x.feed(0, 1, 0);
        due("place at 1000001", x.place(2, LAST + 1), OUTSIDE);
        due("place at 1000000", x.place(2, LAST), 3 * LAST);
        due("gear at 1000001", x.gear(0, LAST + 1), OUTSIDE);
        due("gear at 1000000", x.gear(0, LAST), 8);
        due("step to 1000001", x.step(LAST + 1), OUTSIDE);
        due("stop at 1000001", x.stop(0, false, LAST + 1), OUTSIDE);
        due("run at 1000001", x.stop(0, true, LAST + 1), OUTSIDE);
        due("count before the last time", x.count(0), 1);
        due("run at 1000000", x.stop(0, true, LAST), 0);
        due("count at the last time", x.count(0), 2);
        BeltSteps y = oneBelt(100000, 3);
        due("step to 1000000", y.step(LAST), 0);
        BeltSteps z = oneBelt(100000, 3);
        due("stop at 1000000", z.stop(0, false, LAST), 1);
    }

    private static void nowIsTheLastTime() {
        about = "time, 1000000 is now";
        BeltSteps x = oneBelt(100000, 3);
        x.step(LAST);
        due("step to 999999", x.step(LAST - 1), OUTSIDE);
        due("step to 1000000", x.step(LAST), 0);
        due("step to 1000001", x.step(LAST + 1), OUTSIDE);
        due("feed at 1000000", x.feed(0, 1, LAST), 1);
        due("it is there", x.count(0), 1);
        due("its place", x.place(1, LAST), 0);
        due("its place at 999999", x.place(1, LAST - 1), OUTSIDE);
        due("stop at 1000000", x.stop(0, false, LAST), 1);
        due("gear at 1000000", x.gear(0, LAST), 7);
    }

    private static void timesFarOff() {
        about = "time, far off";
        BeltSteps x = oneBelt(100000, 3);
        x.feed(0, 1, 0);
        x.step(10);
        long[] far = {Long.MIN_VALUE, Long.MAX_VALUE, WRAP + 20, -WRAP + 20, 2147483647L, 2147483648L, -2147483648L};
        for (long t : far) {
            due("step(" + t + ")", x.step(t), OUTSIDE);
            due("stop(0, false, " + t + ")", x.stop(0, false, t), OUTSIDE);
            due("stop(0, true, " + t + ")", x.stop(0, true, t), OUTSIDE);
            due("feed(0, 1, " + t + ")", x.feed(0, 1, t), OUTSIDE);
            due("place(1, " + t + ")", x.place(1, t), OUTSIDE);
            due("gear(0, " + t + ")", x.gear(0, t), OUTSIDE);
        }
        due("now is as it was", x.step(10), 0);
    }

    private static void timeStaysWhenPlaceAndGearAreAsked() {
        about = "time, asked ahead";
        BeltSteps x = oneBelt(100000, 1000);
        x.feed(0, 1, 0);
        due("place(1, 1000)", x.place(1, 1000), NONE);
        due("gear(0, 1000)", x.gear(0, 1000), 8);
        due("count", x.count(0), 1);
        due("no edge is told", x.edge(0, 0), NONE);
        due("step(0)", x.step(0), 0);
        due("place(1, 1)", x.place(1, 1), 1000);
    }

    // BELTS 0, 1, .. (12 at most); ITEMS 1, 2, .. (60 at most); a belt may lead onto one with a greater number.

    private static void numbers() {
        twelveBelts();
        beltsThatAreNot();
        sixtyItems();
        itemsThatAreNot();
        ontoGreaterOnes();
    }

    private static void twelveBelts() {
        about = "12 belts at most";
        BeltSteps x = new BeltSteps();
        for (int b = 0; b < 12; b++) {
            due("count(" + b + ") before", x.count(b), UNKNOWN);
            due("belt", x.belt(100000, 1), b);
            due("count(" + b + ") after", x.count(b), 0);
        }
        due("the thirteenth", x.belt(100000, 1), ROOM);
        due("once more", x.belt(100000000, 5000), ROOM);
        due("count(11)", x.count(11), 0);
        due("count(12)", x.count(12), UNKNOWN);
        due("feed(11)", x.feed(11, 1, 0), 1);
        due("place on the last", x.place(1, 5), 11 * BELT + 5);
    }

    private static void beltsThatAreNot() {
        about = "no such belt";
        for (int belts = 0; belts <= 2; belts++) {
            BeltSteps x = chain(belts, 100000, 1000);
            int[] not = {-1, belts, belts + 1, 12, Integer.MIN_VALUE, Integer.MAX_VALUE};
            for (int b : not) {
                due("join(" + b + ", 0)", x.join(b, 0), UNKNOWN);
                due("join(0, " + b + ")", x.join(0, b), UNKNOWN);
                due("feed(" + b + ")", x.feed(b, 1, 0), UNKNOWN);
                due("stop(" + b + ", false)", x.stop(b, false, 0), UNKNOWN);
                due("stop(" + b + ", true)", x.stop(b, true, 0), UNKNOWN);
                due("count(" + b + ")", x.count(b), UNKNOWN);
                due("gear(" + b + ")", x.gear(b, 0), UNKNOWN);
            }
        }
        BeltSteps x = chain(2, 100000, 1000);
        due("feed(0)", x.feed(0, 1, 0), 1);
        due("feed(1)", x.feed(1, 1, 0), 2);
        due("stop(0)", x.stop(0, false, 0), 1);
        due("stop(1)", x.stop(1, false, 0), 1);
        due("count(0)", x.count(0), 1);
        due("count(1)", x.count(1), 1);
        due("gear(0)", x.gear(0, 0), 7);
        due("gear(1)", x.gear(1, 0), 7);
    }

    private static void sixtyItems() {
        about = "60 items at most";
        BeltSteps x = oneBelt(100000, 1);
        for (int i = 1; i <= 60; i++) {
            due("place(" + i + ") before", x.place(i, 0), UNKNOWN);
            due("feed", x.feed(0, i, i % 3), i);
        }
        due("one more now", x.feed(0, 1, 0), ROOM);
        due("one more later", x.feed(0, 1, 500), ROOM);
        due("place(60)", x.place(60, 0), 0);
        due("place(61)", x.place(61, 0), UNKNOWN);
        due("count at 0", x.count(0), 20);
        x.step(2);
        due("count at 2", x.count(0), 60);
        x.step(LAST);
        due("all have left", x.count(0), 0);
        due("no room comes of that", x.feed(0, 1, LAST), ROOM);
    }

    private static void itemsThatAreNot() {
        about = "no such item";
        for (int items = 0; items <= 2; items++) {
            BeltSteps x = oneBelt(100000, 1000);
            for (int i = 0; i < items; i++) x.feed(0, 1, 0);
            int[] not = {-1, 0, items + 1, 60, 61, Integer.MIN_VALUE, Integer.MAX_VALUE};
            for (int i : not) {
                due("slip(" + i + ")", x.slip(i, 1), UNKNOWN);
                due("place(" + i + ")", x.place(i, 0), UNKNOWN);
                due("gap(" + i + ", 1)", x.gap(i, 1), UNKNOWN);
                due("gap(1, " + i + ")", x.gap(1, i), UNKNOWN);
                due("gap(" + i + ", " + i + ")", x.gap(i, i), UNKNOWN);
            }
        }
        BeltSteps x = oneBelt(100000, 1000);
        x.feed(0, 1, 0);
        x.feed(0, 2, 0);
        due("slip(1)", x.slip(1, 1), 0);
        due("slip(2)", x.slip(2, 1), 0);
        due("place(1)", x.place(1, 0), 0);
        due("place(2)", x.place(2, 0), 0);
        due("gap(1, 2)", x.gap(1, 2), -2);
        due("gap(2, 1)", x.gap(2, 1), -1);
    }

    private static void ontoGreaterOnes() {
        about = "onto one with a greater number";
        BeltSteps x = new BeltSteps();
        for (int b = 0; b < 12; b++) x.belt(100000, 1000);
        for (int b = 0; b < 12; b++) {
            due("join(" + b + ", itself)", x.join(b, b), OUTSIDE);
            if (b > 0) due("join(" + b + ", one less)", x.join(b, b - 1), OUTSIDE);
            if (b > 0) due("join(" + b + ", 0)", x.join(b, 0), OUTSIDE);
            if (b < 11) due("join(" + b + ", one more)", x.join(b, b + 1), NONE);
            if (b < 11) due("join(" + b + ", 11)", x.join(b, 11), b + 1);
        }
        due("join(11, 12)", x.join(11, 12), UNKNOWN);
        x.feed(0, 1, 0);
        due("the last join holds", x.place(1, 100), 11 * BELT);
        due("the last belt leads onto none", x.place(1, 200), NONE);
    }

    // GEARS: 8 at first; one less at t, t + 20, .., down to 0; one more at t, t + 20, .., up to 8.

    private static void gears() {
        gearIsEightAtFirst();
        gearGoesDownToZero();
        gearGoesUpToEight();
        toldAgainInBetween();
        toldAgainAtAGearsTime();
        toldAgainAtTheSameTime();
        toldWhenStanding();
        gearOfEachBelt();
    }

    private static void gearIsEightAtFirst() {
        about = "gear, 8 at first";
        BeltSteps x = oneBelt(100000, 1);
        due("at 0", x.gear(0, 0), 8);
        due("at 1", x.gear(0, 1), 8);
        due("at the last time", x.gear(0, LAST), 8);
        x.step(12345);
        x.belt(100000, 5000);
        due("of a belt made later", x.gear(1, 12345), 8);
        due("of it, later", x.gear(1, 12346), 8);
        due("told to stop as the first thing", x.stop(1, false, 12345), 1);
        due("then", x.gear(1, 12345), 7);
    }

    private static void gearGoesDownToZero() {
        about = "gear, one less each 20, down to 0";
        for (int t : new int[] {0, 1, 19, 20, 777}) {
            BeltSteps x = oneBelt(100000, 1);
            x.stop(0, false, t);
            for (int k = 0; k < 8; k++) {
                due("at t + " + 20 * k, x.gear(0, t + 20 * k), 7 - k);
                due("at t + " + (20 * k + 1), x.gear(0, t + 20 * k + 1), 7 - k);
                due("at t + " + (20 * k + 19), x.gear(0, t + 20 * k + 19), 7 - k);
            }
            for (int k = 8; k < 20; k++) due("at t + " + 20 * k, x.gear(0, t + 20 * k), 0);
            due("at the last time", x.gear(0, LAST), 0);
        }
    }

    private static void gearGoesUpToEight() {
        about = "gear, one more each 20, up to 8";
        for (int t : new int[] {140, 141, 777}) {
            BeltSteps x = oneBelt(100000, 1);
            x.stop(0, false, 0);
            x.stop(0, true, t);
            for (int k = 0; k < 8; k++) {
                int due = t == 140 ? Math.min(8, k + 2) : k + 1;
                due("at t + " + 20 * k, x.gear(0, t + 20 * k), due);
                due("at t + " + (20 * k + 19), x.gear(0, t + 20 * k + 19), due);
            }
            for (int k = 8; k < 20; k++) due("at t + " + 20 * k, x.gear(0, t + 20 * k), 8);
            due("at the last time", x.gear(0, LAST), 8);
        }
    }

    private static void toldAgainInBetween() {
        about = "gear, told again in between";
        for (int after = 1; after <= 160; after++) {
            BeltSteps x = oneBelt(100000, 1);
            x.stop(0, false, 1000);
            int before = Math.max(0, 7 - (after - 1) / 20);
            due("run after " + after, x.stop(0, true, 1000 + after), 1);
            due("gear then", x.gear(0, 1000 + after), before + 1);
            due("gear 19 later", x.gear(0, 1000 + after + 19), before + 1);
            due("gear 20 later", x.gear(0, 1000 + after + 20), Math.min(8, before + 2));
            due("stop 10 later", x.stop(0, false, 1000 + after + 10), 1);
            due("gear then", x.gear(0, 1000 + after + 10), before);
            due("gear 20 later", x.gear(0, 1000 + after + 30), Math.max(0, before - 1));
        }
    }

    private static void toldAgainAtAGearsTime() {
        about = "gear, told again when it would change";
        BeltSteps x = oneBelt(100000, 1);
        x.stop(0, false, 100);
        due("run at 120", x.stop(0, true, 120), 1);
        due("7 before, 8 now", x.gear(0, 120), 8);
        x.stop(0, false, 200);
        x.stop(0, true, 219);
        due("7 before, 8 at 219", x.gear(0, 219), 8);
        x.stop(0, false, 300);
        x.stop(0, true, 321);
        due("6 before, 7 at 321", x.gear(0, 321), 7);
        due("8 at 341", x.gear(0, 341), 8);
        x.stop(0, false, 341);
        due("7 before, 6 at 341", x.gear(0, 341), 6);
    }

    private static void toldAgainAtTheSameTime() {
        about = "gear, told again at the same time";
        BeltSteps x = oneBelt(100000, 1000);
        x.feed(0, 1, 0);
        x.stop(0, false, 10);
        x.step(59);
        due("gear before 60", x.gear(0, 59), 5);
        due("run at 60", x.stop(0, true, 60), 1);
        due("one more than before", x.gear(0, 60), 6);
        due("stop at 60", x.stop(0, false, 60), 1);
        due("one less than before", x.gear(0, 60), 4);
        due("two less 20 later", x.gear(0, 80), 3);
        due("run at 60 again", x.stop(0, true, 60), 1);
        due("one more than before again", x.gear(0, 60), 6);
        due("two more 20 later", x.gear(0, 80), 7);
        int until = 10 * 1000 + 20 * 875 + 20 * 750 + 10 * 625;
        due("place at 60", x.place(1, 60), until);
        due("place at 61", x.place(1, 61), until + 750);
        due("place at 81", x.place(1, 81), until + 20 * 750 + 875);

        BeltSteps first = oneBelt(100000, 1000);
        first.stop(0, false, 0);
        first.stop(0, true, 0);
        due("at time 0, before which it was 8", first.gear(0, 0), 8);
        first.stop(0, false, 0);
        due("at time 0, told thrice", first.gear(0, 0), 7);
    }

    private static void toldWhenStanding() {
        about = "gear, told when it stands or runs fully";
        BeltSteps x = oneBelt(100000, 1000);
        x.stop(0, false, 0);
        due("told so again at 10", x.stop(0, false, 10), 0);
        due("nothing comes of it at 10", x.gear(0, 10), 7);
        due("nothing comes of it at 20", x.gear(0, 20), 6);
        due("told so again when it stands", x.stop(0, false, 500), 0);
        due("it stands", x.gear(0, 500), 0);
        due("told to run", x.stop(0, true, 600), 1);
        due("told so again at 610", x.stop(0, true, 610), 0);
        due("nothing comes of it at 610", x.gear(0, 610), 1);
        due("nothing comes of it at 620", x.gear(0, 620), 2);
        due("told so again when it runs fully", x.stop(0, true, 900), 0);
        due("it runs", x.gear(0, 900), 8);
        due("told to stop", x.stop(0, false, 900), 1);
        due("its gear", x.gear(0, 900), 7);
    }

    private static void gearOfEachBelt() {
        about = "gear, of each belt its own";
        BeltSteps x = chain(3, 100000, 1000);
        x.stop(0, false, 10);
        x.stop(2, false, 30);
        due("gear(0)", x.gear(0, 30), 6);
        due("gear(1)", x.gear(1, 30), 8);
        due("gear(2)", x.gear(2, 30), 7);
        due("told already, by its own telling", x.stop(1, true, 30), 0);
        due("told otherwise, by its own telling", x.stop(2, true, 40), 1);
        due("gear(0) then", x.gear(0, 50), 5);
        due("gear(2) then", x.gear(2, 50), 8);
    }

    // In each millisecond a belt moves by speed times gear by 8 (cut), the gear being that at its begin.

    private static void ways() {
        for (int speed : new int[] {1, 2, 7, 8, 9, 15, 16, 1001, 4999, 5000}) {
            wayDown(speed);
            wayUp(speed);
        }
        wayThroughManyTellings();
        slowestAndFastest();
    }

    private static void wayDown(int speed) {
        about = "way, cut in each millisecond, down, speed " + speed;
        BeltSteps x = oneBelt(100000000, speed);
        x.feed(0, 1, 0);
        x.stop(0, false, 100);
        long way = 100L * speed;
        due("at 100", x.place(1, 100), way);
        for (int k = 0; k < 9; k++) {
            int gear = Math.max(0, 7 - k);
            long pace = speed * gear / 8;
            due("one millisecond in gear " + gear, x.place(1, 101 + 20 * k), way + pace);
            due("19 milliseconds in gear " + gear, x.place(1, 119 + 20 * k), way + 19 * pace);
            way += 20 * pace;
            due("20 milliseconds in gear " + gear, x.place(1, 120 + 20 * k), way);
        }
        due("it stands", x.place(1, LAST), way);
    }

    private static void wayUp(int speed) {
        about = "way, cut in each millisecond, up, speed " + speed;
        BeltSteps x = oneBelt(100000000, speed);
        x.stop(0, false, 0);
        x.feed(0, 1, 200);
        x.stop(0, true, 300);
        long way = 0;
        for (int k = 0; k < 9; k++) {
            int gear = Math.min(8, k + 1);
            long pace = speed * gear / 8;
            due("one millisecond in gear " + gear, x.place(1, 301 + 20 * k), way + pace);
            due("19 milliseconds in gear " + gear, x.place(1, 319 + 20 * k), way + 19 * pace);
            way += 20 * pace;
            due("20 milliseconds in gear " + gear, x.place(1, 320 + 20 * k), way);
        }
        due("it runs fully", x.place(1, 1480), way + 1000L * speed);
    }

    private static void wayThroughManyTellings() {
        about = "way, through 100 tellings";
        BeltSteps x = oneBelt(100000000, 999);
        x.feed(0, 1, 0);
        long way = 0;
        int gear = 8;
        for (int k = 0; k < 100; k++) {
            boolean on = k % 2 == 1;
            due("told", x.stop(0, on, 7 * k), 1);
            due("place then", x.place(1, 7 * k), way);
            gear = Math.max(0, Math.min(8, on ? gear + 1 : gear - 1));
            due("gear then", x.gear(0, 7 * k), gear);
            way += 7L * (999 * gear / 8);
        }
        due("place in the end", x.place(1, 700), way);
    }

    private static void slowestAndFastest() {
        about = "way, slowest and fastest";
        BeltSteps x = new BeltSteps();
        x.belt(100000, 1);
        x.belt(100000000, 5000);
        x.feed(0, 1, 0);
        x.feed(1, 1, 0);
        due("slowest, before its end", x.place(1, 99999), 99999);
        due("slowest, at its end", x.place(1, 100000), NONE);
        due("fastest, before its end", x.place(2, 19999), BELT + 99995000);
        due("fastest, at its end", x.place(2, 20000), NONE);
        due("edges of the fastest", x.step(19999), 2);
        due("the same when time has passed", x.place(2, 19999), BELT + 99995000);
        due("and a way to slip", x.slip(2, 1000000000), 99995000);
        due("edges of the slowest", x.step(LAST), 2);
        dueEdges(x, edge(10000, 1, 2, 0), edge(10001, 1, 2, 1), edge(50000, 0, 1, 0), edge(50001, 0, 1, 1));
    }

    // An item comes at a time at place 0; at the first time at the belt's length or more it is over, or has left.

    private static void itemsGoOver() {
        itemComesAtItsTime();
        itemComesOntoAStandingBelt();
        overAtTheLength();
        overByTheRest();
        leftAtTheLength();
        onlyFrontsCount();
        overFromManyAtOnce();
        overWhenJoinedLater();
        overTwelveBelts();
        overOntoAStandingBelt();
    }

    private static void itemComesAtItsTime() {
        about = "item, comes at a time";
        BeltSteps x = oneBelt(100000, 1000);
        x.step(10);
        due("feed now", x.feed(0, 1, 10), 1);
        due("feed later", x.feed(0, 1, 11), 2);
        due("count at 10", x.count(0), 1);
        due("place(1, 10)", x.place(1, 10), 0);
        due("place(1, 11)", x.place(1, 11), 1000);
        due("place(2, 10)", x.place(2, 10), NOT_COME);
        due("place(2, 11)", x.place(2, 11), 0);
        due("place(2, 12)", x.place(2, 12), 1000);
        due("slip of one that has not come", x.slip(2, 0), STATE);
        due("gap to one that has not come", x.gap(1, 2), STATE);
        due("gap from one that has not come", x.gap(2, 1), STATE);
        x.step(11);
        due("count at 11", x.count(0), 2);
        due("place(2, 11) then", x.place(2, 11), 0);
        due("slip of one that has come", x.slip(2, 0), 0);
        due("gap to one that has come", x.gap(1, 2), -1001);
        due("gap from one that has come", x.gap(2, 1), 999);
    }

    private static void itemComesOntoAStandingBelt() {
        about = "item, comes onto a belt that stands";
        BeltSteps x = oneBelt(100000, 1000);
        x.stop(0, false, 0);
        x.feed(0, 1, 139);
        x.feed(0, 1, 140);
        due("before it stands", x.place(1, 140), 125);
        due("when it stands", x.place(2, LAST), 0);
        x.stop(0, true, 200);
        due("moves when told", x.place(2, 201), 125);
    }

    private static void overAtTheLength() {
        about = "item, over at the length";
        BeltSteps x = new BeltSteps();
        x.belt(100000, 1);
        x.belt(100000, 1);
        x.join(0, 1);
        x.feed(0, 1, 0);
        due("asked ahead, one less", x.place(1, 99999), 99999);
        due("asked ahead, the length", x.place(1, 100000), BELT);
        x.step(99999);
        due("count(0), one less", x.count(0), 1);
        due("count(1), one less", x.count(1), 0);
        due("place, one less", x.place(1, 99999), 99999);
        x.step(100000);
        due("count(0), the length", x.count(0), 0);
        due("count(1), the length", x.count(1), 1);
        due("place, the length", x.place(1, 100000), BELT);
        due("place, one more", x.place(1, 100001), BELT + 1);
    }

    private static void overByTheRest() {
        about = "item, over at a place less by the length";
        for (long length = 100000; length <= 100003; length++) {
            BeltSteps x = chain(2, length, 4001);
            x.feed(0, 1, 0);
            due("one before", x.place(1, 24), 96024);
            due("over, asked ahead", x.place(1, 25), BELT + 100025 - length);
            x.step(25);
            due("over", x.place(1, 25), BELT + 100025 - length);
            due("slip to the beginning", x.slip(1, 1000000000), 100025 - length);
            due("at the beginning of the second", x.place(1, 25), BELT);
        }
        BeltSteps y = new BeltSteps();
        y.belt(100025, 4001);
        y.belt(100026, 4001);
        y.feed(0, 1, 0);
        y.feed(1, 1, 0);
        due("just at the length", y.place(1, 25), NONE);
        due("one less than the length", y.place(2, 25), BELT + 100025);
    }

    private static void leftAtTheLength() {
        about = "item, has left at the length";
        BeltSteps x = oneBelt(100000, 1);
        x.feed(0, 5, 0);
        x.feed(0, 5, 1);
        x.step(99999);
        due("count, one less", x.count(0), 2);
        due("gap, one less", x.gap(2, 1), -4);
        due("slip, one less", x.slip(1, 0), 0);
        x.step(100000);
        due("count, the length", x.count(0), 1);
        due("gap, the length", x.gap(2, 1), STATE);
        due("gap the other way", x.gap(1, 2), STATE);
        due("slip, the length", x.slip(1, 0), STATE);
        due("place, the length", x.place(1, 100000), NONE);
        due("place ever after", x.place(1, LAST), NONE);
        x.belt(100000, 1);
        due("join when one has left", x.join(0, 1), NONE);
        due("it does not come back", x.place(1, LAST), NONE);
        due("the next one goes over", x.place(2, 100001), BELT);
    }

    private static void onlyFrontsCount() {
        about = "item, only its front counts";
        BeltSteps x = chain(2, 100000, 1000);
        x.feed(0, 100000, 0);
        x.feed(0, 1, 50);
        x.step(99);
        due("front on the first", x.count(0), 2);
        x.step(100);
        due("front on the second, all the rest on the first", x.count(0), 1);
        due("count(1)", x.count(1), 1);
        due("not on one belt", x.gap(2, 1), STATE);
        x.step(199);
        due("front at its end", x.place(1, 199), BELT + 99000);
        x.step(200);
        due("left, though its end is not even on the second", x.count(1), 1);
        due("place", x.place(1, 200), NONE);
    }

    private static void overFromManyAtOnce() {
        about = "item, some get onto a belt at the same time";
        BeltSteps x = new BeltSteps();
        x.belt(100000, 1000);
        x.belt(200000, 2000);
        x.belt(100000, 1000);
        x.join(0, 2);
        x.join(1, 2);
        x.feed(1, 7, 0);
        x.feed(0, 9, 0);
        x.feed(2, 11, 100);
        x.step(99);
        due("count(2) before", x.count(2), 0);
        x.step(100);
        due("count(2)", x.count(2), 3);
        due("gap(1, 2)", x.gap(1, 2), -9);
        due("gap(3, 1)", x.gap(3, 1), -7);
        due("fronts and ends", x.step(151), 6);
        dueEdges(x, edge(50, 1, 1, 0), edge(50, 0, 2, 0), edge(51, 1, 1, 1), edge(51, 0, 2, 1),
                edge(150, 2, 1, 0), edge(150, 2, 2, 2), edge(150, 2, 3, 2),
                edge(151, 2, 1, 1), edge(151, 2, 2, 1), edge(151, 2, 3, 1));
    }

    private static void overWhenJoinedLater() {
        about = "item, over onto the one of then";
        BeltSteps x = new BeltSteps();
        for (int b = 0; b < 3; b++) x.belt(100000, 1000);
        x.feed(0, 1, 0);
        x.feed(0, 1, 1);
        x.feed(0, 1, 2);
        x.step(99);
        due("none yet", x.place(1, 100), NONE);
        due("join just before", x.join(0, 1), NONE);
        due("joined", x.place(1, 100), BELT);
        x.step(100);
        due("join when the first is over", x.join(0, 2), 1);
        due("the first is where it went", x.place(1, 100), BELT);
        due("the second goes elsewhere", x.place(2, 101), 2 * BELT);
        x.step(101);
        due("count(1)", x.count(1), 1);
        due("count(2)", x.count(2), 1);
        due("join again", x.join(0, 1), 2);
        x.step(102);
        due("count(1)", x.count(1), 2);
    }

    private static void overTwelveBelts() {
        about = "item, over all twelve belts";
        BeltSteps x = chain(12, 100000, 5000);
        x.feed(0, 100000, 3);
        for (int b = 0; b < 12; b++) {
            due("onto belt " + b, x.place(1, 3 + 20 * b), b * BELT);
            due("end of belt " + b, x.place(1, 22 + 20 * b), b * BELT + 95000);
        }
        due("left", x.place(1, 243), NONE);
        due("edges", x.step(242), 12);
        due("count(11)", x.count(11), 1);
        due("no edge more", x.step(243), 0);
        due("count(11) then", x.count(11), 0);
    }

    private static void overOntoAStandingBelt() {
        about = "item, over onto a belt that stands";
        BeltSteps x = chain(2, 100000, 3000);
        x.feed(0, 1, 200);
        x.stop(1, false, 0);
        due("it stays where it came", x.place(1, LAST), BELT + 2000);
        x.step(233);
        due("count(1) before", x.count(1), 0);
        x.step(234);
        due("count(1) then", x.count(1), 1);
        x.stop(1, true, 300);
        due("it goes on", x.place(1, 301), BELT + 2000 + 375);
    }

    // The SENSOR at half the length (cut); FRONT and END at the first time, once for each belt, END only on the belt.

    private static void sensors() {
        sensorAtHalfTheLength();
        frontAtTheSensor();
        endAtTheSensor();
        frontAndEndAtOneTime();
        endOnlyOnTheBelt();
        endOnlyOnAnOddBelt();
        frontOnceThoughItSlips();
        frontLaterWhenItSlipsBefore();
        edgesAnewOnTheNextBelt();
        edgesOfABeltThatStops();
        edgesOfABeltTooSlowForItsGear();
        edgesAtTheLastTime();
    }

    private static void sensorAtHalfTheLength() {
        about = "sensor, at half the length (cut)";
        for (int length = 100000; length <= 100003; length++) {
            BeltSteps x = oneBelt(length, 1);
            x.feed(0, 1, 0);
            int sensor = length / 2;
            due("step to one less", x.step(sensor - 1), 0);
            due("step to the sensor", x.step(sensor), 1);
            due("step to one more", x.step(sensor + 1), 1);
            dueEdges(x, edge(sensor, 0, 1, 0), edge(sensor + 1, 0, 1, 1));
        }
        BeltSteps y = oneBelt(99999999, 5000);
        y.feed(0, 100000, 0);
        due("front at 49999999 of the longest", y.step(10000), 1);
        due("its end", y.step(20000), 1);
        dueEdges(y, edge(10000, 0, 1, 0), edge(10020, 0, 1, 1));
    }

    private static void frontAtTheSensor() {
        about = "front, at the sensor or more";
        for (int length = 101998; length <= 102003; length++) {
            BeltSteps x = oneBelt(length, 1000);
            x.feed(0, 60000, 0);
            int time = length / 2 <= 51000 ? 51 : 52;
            due("before", x.step(time - 1), 0);
            due("then", x.step(time), 1);
            dueEdges(x, edge(time, 0, 1, 0));
        }
    }

    private static void endAtTheSensor() {
        about = "end, its place less its length at the sensor or more";
        for (int length = 999; length <= 1002; length++) {
            BeltSteps x = oneBelt(200000, 100);
            x.feed(0, length, 0);
            int time = length <= 1000 ? 1010 : 1011;
            due("until the front", x.step(1000), 1);
            due("until one before the end", x.step(time - 1), 0);
            due("at the end", x.step(time), 1);
            dueEdges(x, edge(1000, 0, 1, 0), edge(time, 0, 1, 1));
        }
        BeltSteps y = oneBelt(400000, 1);
        y.feed(0, 100000, 0);
        y.step(LAST);
        dueEdges(y, edge(200000, 0, 1, 0), edge(300000, 0, 1, 1));
    }

    private static void frontAndEndAtOneTime() {
        about = "front and end at one time";
        for (int length = 4988; length <= 4990; length++) {
            BeltSteps x = oneBelt(100000, 4999);
            x.feed(0, length, 0);
            due("before", x.step(10), 0);
            due("at 11", x.step(11), length <= 4989 ? 2 : 1);
            x.step(12);
            dueEdges(x, edge(11, 0, 1, 0), edge(length <= 4989 ? 11 : 12, 0, 1, 1));
        }
    }

    private static void endOnlyOnTheBelt() {
        about = "end, only if the item is on the belt then";
        for (int belts = 1; belts <= 2; belts++) {
            BeltSteps x = chain(belts, 100000, 1);
            x.feed(0, 49999, 0);
            x.step(110000);
            dueEdges(x, edge(50000, 0, 1, 0), edge(99999, 0, 1, 1));
            BeltSteps y = chain(belts, 100000, 1);
            y.feed(0, 50000, 0);
            y.step(110000);
            dueEdges(y, edge(50000, 0, 1, 0));
            BeltSteps z = chain(belts, 100000, 1);
            z.feed(0, 100000, 0);
            z.step(110000);
            dueEdges(z, edge(50000, 0, 1, 0));
        }
    }

    private static void endOnlyOnAnOddBelt() {
        about = "end, only if the item is on the belt then, odd length";
        BeltSteps x = chain(2, 100001, 1);
        x.feed(0, 50000, 0);
        x.step(110000);
        dueEdges(x, edge(50000, 0, 1, 0), edge(100000, 0, 1, 1));
        BeltSteps y = chain(2, 100001, 1);
        y.feed(0, 50001, 0);
        y.step(110000);
        dueEdges(y, edge(50000, 0, 1, 0));
    }

    private static void frontOnceThoughItSlips() {
        about = "each kind once for each belt";
        BeltSteps x = oneBelt(100000, 1000);
        x.feed(0, 5000, 0);
        due("front", x.step(50), 1);
        due("slip to just before the sensor", x.slip(1, 1), 1);
        due("no second front", x.step(51), 0);
        due("slip to the beginning", x.slip(1, 1000000000), 50999);
        due("no second front again", x.step(105), 0);
        due("the end, later", x.step(106), 1);
        due("slip when both are told", x.slip(1, 1000000000), 55000);
        due("no second end", x.step(205), 0);
        due("still there", x.count(0), 1);
        due("and left", x.step(206), 0);
        due("left", x.count(0), 0);
        dueEdges(x, edge(50, 0, 1, 0), edge(106, 0, 1, 1));
    }

    private static void frontLaterWhenItSlipsBefore() {
        about = "front, at the first time, slipped before";
        BeltSteps x = oneBelt(100000, 1000);
        x.feed(0, 5000, 0);
        x.feed(0, 5000, 200);
        x.step(49);
        due("slip by 1", x.slip(1, 1), 1);
        due("not at 50", x.step(50), 0);
        due("at 51", x.step(51), 1);
        x.step(249);
        due("slip by 0", x.slip(2, 0), 0);
        due("at 250", x.step(250), 1);
    }

    private static void edgesAnewOnTheNextBelt() {
        about = "once for each belt that it comes onto";
        BeltSteps x = chain(3, 100000, 1000);
        x.feed(0, 1000, 0);
        x.step(300);
        dueEdges(x, edge(50, 0, 1, 0), edge(51, 0, 1, 1), edge(150, 1, 1, 0), edge(151, 1, 1, 1),
                edge(250, 2, 1, 0), edge(251, 2, 1, 1));
        // The end was not told on the first belt; on the second one the front comes first all the same.
        BeltSteps y = new BeltSteps();
        y.belt(100000, 1000);
        y.belt(300000, 1000);
        y.join(0, 1);
        y.feed(0, 60000, 0);
        y.step(500);
        dueEdges(y, edge(50, 0, 1, 0), edge(250, 1, 1, 0), edge(310, 1, 1, 1));
    }

    private static void edgesOfABeltThatStops() {
        about = "edges of a belt that stops just there";
        // At speed 1000 a belt runs on by 20 * (875 + 750 + .. + 125) = 70000 after it was told to stop.
        BeltSteps x = oneBelt(280000, 1000);
        x.feed(0, 1, 0);
        x.stop(0, false, 70);
        due("its last place is the sensor's", x.step(LAST), 1);
        dueEdges(x, edge(210, 0, 1, 0));
        BeltSteps y = oneBelt(280002, 1000);
        y.feed(0, 1, 0);
        y.stop(0, false, 70);
        due("its last place is one before the sensor's", y.step(LAST - 1), 0);
        due("where it stands", y.place(1, LAST - 1), 140000);
        due("run", y.stop(0, true, LAST - 1), 1);
        due("one millisecond more", y.step(LAST), 2);
        dueEdges(y, edge(1000000, 0, 1, 0), edge(1000000, 0, 1, 1));
        BeltSteps z = oneBelt(140000, 1000);
        z.feed(0, 1, 0);
        z.stop(0, false, 70);
        due("its last place is the end", z.place(1, 210), NONE);
        due("one before", z.place(1, 209), 139875);
        z.step(209);
        due("count before", z.count(0), 1);
        z.step(210);
        due("count then", z.count(0), 0);
    }

    private static void edgesOfABeltTooSlowForItsGear() {
        about = "edges of a belt that moves by nothing before its gear is 0, or above it";
        // At speed 4 the gears 7 .. 2 move by 3, 3, 2, 2, 1, 1, which is 240 in all, and gear 1 by nothing.
        BeltSteps x = oneBelt(100480, 4);
        x.feed(0, 1, 0);
        x.stop(0, false, 12500);
        due("until one before", x.step(12619), 0);
        due("its last place is the sensor's", x.step(12620), 1);
        due("no end", x.step(100000), 0);
        dueEdges(x, edge(12620, 0, 1, 0));
        due("run", x.stop(0, true, 100000), 1);
        due("gear 1 moves by nothing", x.step(100020), 0);
        due("gear 2 by 1", x.step(100021), 1);
        dueEdges(x, edge(12620, 0, 1, 0), edge(100021, 0, 1, 1));
        BeltSteps y = oneBelt(100240, 4);
        y.feed(0, 100000, 0);
        y.stop(0, false, 25000);
        due("one before its end", y.place(1, 25119), 100239);
        due("its last place is the end", y.place(1, 25120), NONE);
        y.step(25119);
        due("count before", y.count(0), 1);
        y.step(25120);
        due("count then", y.count(0), 0);
        // At speed 1 gear 8 alone moves.
        BeltSteps z = oneBelt(100000, 1);
        z.feed(0, 1, 0);
        z.stop(0, false, 49999);
        due("one before the sensor, in gear 7", z.step(60000), 0);
        z.stop(0, true, 60000);
        due("still in gear 7", z.step(60140), 0);
        due("a millisecond in gear 8", z.step(60141), 1);
        dueEdges(z, edge(60141, 0, 1, 0));
    }

    private static void edgesAtTheLastTime() {
        about = "edges at the last time";
        BeltSteps x = oneBelt(100000, 1);
        x.feed(0, 1, 950000);
        x.feed(0, 1, 950001);
        due("until 999999", x.step(LAST - 1), 0);
        due("at 1000000", x.step(LAST), 1);
        dueEdges(x, edge(1000000, 0, 1, 0));
    }

    // SHORT: an item on the belt in front (a greater place; of equal ones a number less), its end nearer than 50000.

    private static void shortFronts() {
        shortByDistance();
        shortByPlaces();
        shortByNumbers();
        shortNotByOneBehind();
        shortNotByAnotherBelt();
        shortNotByOneThatIsNotThere();
        shortNotByOneThatGoesThen();
        shortByAnyInFront();
        shortHasAnEndToo();
        shortOnEachBelt();
    }

    /** The kind of the front of an item that comes 70000 behind one of the length given. */
    private static int kindBehind(long length) {
        BeltSteps x = oneBelt(400000, 1000);
        x.feed(0, length, 0);
        x.feed(0, 1, 70);
        x.step(270);
        for (int i = 0; i < 4; i++) {
            if (x.edge(i, 2) == 2) return x.edge(i, 3);
        }
        return NONE;
    }

    private static void shortByDistance() {
        about = "short, nearer than 50000";
        due("50001 in front", kindBehind(19999), 0);
        due("50000 in front", kindBehind(20000), 0);
        due("49999 in front", kindBehind(20001), 2);
        due("1 in front", kindBehind(69999), 2);
        due("0 in front", kindBehind(70000), 2);
        due("its end is behind the front", kindBehind(70001), 2);
        due("its end is far behind the front", kindBehind(100000), 2);
    }

    private static void shortByPlaces() {
        about = "short, one whose place is greater";
        // The second item is slipped back so that it is 1 behind, and thereby reaches the sensor later.
        BeltSteps x = oneBelt(200000, 1000);
        x.feed(0, 10, 0);
        x.feed(0, 10, 0);
        x.step(10);
        x.slip(1, 1);
        x.step(101);
        dueEdges(x, edge(100, 0, 2, 0), edge(101, 0, 1, 2), edge(101, 0, 1, 1), edge(101, 0, 2, 1));
        // Two jump over the sensor at one time, the one with the greater number in front.
        BeltSteps y = oneBelt(200001, 3000);
        y.feed(0, 5000, 0);
        y.feed(0, 5000, 0);
        y.step(10);
        y.slip(1, 1);
        y.step(34);
        dueEdges(y, edge(34, 0, 1, 2), edge(34, 0, 2, 0));
        BeltSteps z = oneBelt(200001, 3000);
        z.feed(0, 5000, 0);
        z.feed(0, 5000, 0);
        z.step(10);
        z.slip(2, 1);
        z.step(34);
        dueEdges(z, edge(34, 0, 1, 0), edge(34, 0, 2, 2));
    }

    private static void shortByNumbers() {
        about = "short, of equal places one whose number is less";
        BeltSteps x = oneBelt(200000, 1000);
        x.feed(0, 100000, 0);
        x.feed(0, 1, 0);
        x.feed(0, 50000, 0);
        x.step(100);
        dueEdges(x, edge(100, 0, 1, 0), edge(100, 0, 2, 2), edge(100, 0, 3, 2));
    }

    private static void shortNotByOneBehind() {
        about = "short, not by one behind";
        BeltSteps x = oneBelt(200000, 1000);
        x.feed(0, 100000, 1);
        x.feed(0, 1000, 0);
        x.step(100);
        dueEdges(x, edge(100, 0, 2, 0));
        x.step(101);
        dueEdges(x, edge(100, 0, 2, 0), edge(101, 0, 1, 2), edge(101, 0, 2, 1));
    }

    private static void shortNotByAnotherBelt() {
        about = "short, not by one on another belt";
        BeltSteps x = new BeltSteps();
        x.belt(200000, 1000);
        x.belt(200000, 1000);
        x.feed(1, 100000, 0);
        x.feed(0, 1, 0);
        x.feed(0, 1, 10);
        x.step(110);
        due("beside one of equal place", x.edge(1, 3), 0);
        dueEdges(x, edge(100, 1, 1, 0), edge(100, 0, 2, 0), edge(101, 0, 2, 1), edge(110, 0, 3, 2));
    }

    private static void shortNotByOneThatIsNotThere() {
        about = "short, not by one that has left or has not come";
        BeltSteps x = oneBelt(100000, 1000);
        x.feed(0, 100000, 0);
        x.feed(0, 100000, 51);
        x.feed(0, 100000, 500);
        x.step(101);
        dueEdges(x, edge(50, 0, 1, 0), edge(101, 0, 2, 0));
    }

    private static void shortNotByOneThatGoesThen() {
        about = "short, not by one that leaves or goes over at that time";
        for (int belts = 1; belts <= 2; belts++) {
            BeltSteps x = chain(belts, 100000, 1000);
            x.feed(0, 60000, 0);
            x.feed(0, 60000, 50);
            x.step(100);
            dueEdges(x, edge(50, 0, 1, 0), edge(100, 0, 2, 0));
            // The one that goes has the greater number: it must be gone all the same when the other's edge is told.
            BeltSteps y = chain(belts, 100000, 1000);
            y.feed(0, 60000, 50);
            y.feed(0, 60000, 0);
            y.step(100);
            dueEdges(y, edge(50, 0, 2, 0), edge(100, 0, 1, 0));
            BeltSteps z = chain(belts, 100000, 1000);
            z.feed(0, 60000, 49);
            z.feed(0, 60000, 0);
            z.step(99);
            dueEdges(z, edge(50, 0, 2, 0), edge(99, 0, 1, 2));
        }
    }

    private static void shortByAnyInFront() {
        about = "short, by any one in front";
        BeltSteps x = oneBelt(1000000, 1000);
        x.feed(0, 1, 0);
        x.feed(0, 90000, 40);
        x.feed(0, 1, 100);
        x.feed(0, 1, 200);
        x.step(600);
        due("behind a near one and a far one", kindOf(x, 3), 2);
        due("behind one at 99999", kindOf(x, 4), NONE);
        x.step(700);
        due("behind one at 99999", kindOf(x, 4), 0);
        // The far one is nearer by its length than the one between.
        BeltSteps y = oneBelt(1000000, 1000);
        y.feed(0, 100000, 0);
        y.feed(0, 1, 60);
        y.feed(0, 1, 120);
        y.step(620);
        due("by the far one alone", kindOf(y, 3), 2);
        BeltSteps z = oneBelt(1000000, 1000);
        z.feed(0, 70000, 0);
        z.feed(0, 10000, 60);
        z.feed(0, 1, 120);
        z.step(620);
        due("by none of two at 50000", kindOf(z, 3), 0);
    }

    private static int kindOf(BeltSteps x, int item) {
        for (int i = 0; i < 20; i++) {
            if (x.edge(i, 2) == item) return x.edge(i, 3);
        }
        return NONE;
    }

    private static void shortHasAnEndToo() {
        about = "short, its end is told too, and it is told once";
        BeltSteps x = oneBelt(200000, 1000);
        x.feed(0, 1000, 0);
        x.feed(0, 2000, 10);
        x.step(110);
        due("slip", x.slip(2, 60000), 60000);
        x.step(199);
        dueEdges(x, edge(100, 0, 1, 0), edge(101, 0, 1, 1), edge(110, 0, 2, 2), edge(172, 0, 2, 1));
    }

    private static void shortOnEachBelt() {
        about = "short, on one belt and not on the next";
        BeltSteps x = new BeltSteps();
        x.belt(100000, 500);
        x.belt(100000, 1000);
        x.join(0, 1);
        x.feed(0, 1, 0);
        x.feed(0, 1, 60);
        x.step(1000);
        dueEdges(x, edge(100, 0, 1, 0), edge(101, 0, 1, 1), edge(160, 0, 2, 2), edge(161, 0, 2, 1),
                edge(250, 1, 1, 0), edge(251, 1, 1, 1), edge(310, 1, 2, 0), edge(311, 1, 2, 1));
    }

    // Edges in the order of times, at one time by items, the front's before the end's.

    private static void orderOfEdges() {
        orderByTimes();
        orderByItems();
        orderOfFrontAndEnd();
        orderInAllSteps();
    }

    private static void orderByTimes() {
        about = "order, by times";
        BeltSteps x = oneBelt(100000, 1000);
        x.feed(0, 1000, 2);
        x.feed(0, 1000, 1);
        x.feed(0, 1000, 0);
        x.step(1000);
        dueEdges(x, edge(50, 0, 3, 0), edge(51, 0, 2, 2), edge(51, 0, 3, 1), edge(52, 0, 1, 2), edge(52, 0, 2, 1),
                edge(53, 0, 1, 1));
    }

    private static void orderByItems() {
        about = "order, at one time by items, not by belts or kinds";
        BeltSteps x = new BeltSteps();
        x.belt(100000, 1000);
        x.belt(100000, 1000);
        x.belt(100000, 1000);
        x.feed(2, 1000, 4);
        x.feed(1, 1000, 5);
        x.feed(0, 1000, 4);
        x.feed(1, 1000, 4);
        x.feed(0, 1000, 5);
        x.step(56);
        dueEdges(x, edge(54, 2, 1, 0), edge(54, 0, 3, 0), edge(54, 1, 4, 0),
                edge(55, 2, 1, 1), edge(55, 1, 2, 2), edge(55, 0, 3, 1), edge(55, 1, 4, 1), edge(55, 0, 5, 2),
                edge(56, 1, 2, 1), edge(56, 0, 5, 1));
    }

    private static void orderOfFrontAndEnd() {
        about = "order, the front's before the end's, of each item";
        BeltSteps x = oneBelt(100000, 4999);
        x.feed(0, 1, 0);
        x.feed(0, 4989, 0);
        x.feed(0, 4990, 0);
        x.step(11);
        dueEdges(x, edge(11, 0, 1, 0), edge(11, 0, 1, 1), edge(11, 0, 2, 2), edge(11, 0, 2, 1), edge(11, 0, 3, 2));
    }

    private static void orderInAllSteps() {
        about = "order, whether time passes at once or by and by";
        BeltSteps whole = chain(3, 100000, 4321);
        BeltSteps bit = chain(3, 100000, 4321);
        for (int i = 0; i < 6; i++) {
            whole.feed(0, 7000 + 9000 * i, 2 * i);
            bit.feed(0, 7000 + 9000 * i, 2 * i);
        }
        int edges = 0;
        for (int t = 0; t <= 90; t++) edges += bit.step(t);
        due("edges in all", whole.step(90), edges);
        for (int i = 0; i < 40; i++) {
            for (int what = 0; what < 4; what++) due("edge " + i + " " + what, whole.edge(i, what), bit.edge(i, what));
        }
        due("there are some", edges > 20 ? 1 : 0, 1);
    }

    // REFUSALS, of several the first one: UNKNOWN, OUTSIDE, STATE, ROOM.

    private static void orderOfRefusals() {
        unknownBeforeOutside();
        unknownBeforeState();
        unknownAndOutsideBeforeRoom();
        outsideBeforeState();
    }

    private static void unknownBeforeOutside() {
        about = "refusals, UNKNOWN before OUTSIDE";
        BeltSteps x = chain(2, 100000, 1000);
        x.feed(0, 1, 0);
        x.step(10);
        due("join(2, 0)", x.join(2, 0), UNKNOWN);
        due("join(2, 2)", x.join(2, 2), UNKNOWN);
        due("join(1, -1)", x.join(1, -1), UNKNOWN);
        due("join(-1, -1)", x.join(-1, -1), UNKNOWN);
        due("feed, length", x.feed(2, 0, 10), UNKNOWN);
        due("feed, at", x.feed(2, 1, 9), UNKNOWN);
        due("stop, on", x.stop(2, true, 9), UNKNOWN);
        due("stop, off", x.stop(2, false, 1000001), UNKNOWN);
        due("slip, below", x.slip(2, -1), UNKNOWN);
        due("slip, above", x.slip(0, 1000000001), UNKNOWN);
        due("place, below", x.place(2, 9), UNKNOWN);
        due("place, above", x.place(0, 1000001), UNKNOWN);
        due("gap, the same", x.gap(2, 2), UNKNOWN);
        due("gear, below", x.gear(2, 9), UNKNOWN);
        due("gear, above", x.gear(-1, 1000001), UNKNOWN);
    }

    private static void unknownBeforeState() {
        about = "refusals, UNKNOWN before STATE";
        BeltSteps x = oneBelt(100000, 1000);
        x.feed(0, 1, 0);
        x.feed(0, 1, 1000);
        x.step(100);
        due("one that has left, one that is not", x.gap(1, 3), UNKNOWN);
        due("the other way", x.gap(3, 1), UNKNOWN);
        due("one that has not come, one that is not", x.gap(2, 0), UNKNOWN);
        due("the other way", x.gap(0, 2), UNKNOWN);
    }

    private static void unknownAndOutsideBeforeRoom() {
        about = "refusals, UNKNOWN and OUTSIDE before ROOM";
        BeltSteps x = new BeltSteps();
        for (int b = 0; b < 12; b++) x.belt(100000, 1);
        due("belt, length", x.belt(99999, 1), OUTSIDE);
        due("belt, length", x.belt(100000001, 1), OUTSIDE);
        due("belt, speed", x.belt(100000, 0), OUTSIDE);
        due("belt, speed", x.belt(100000, 5001), OUTSIDE);
        due("belt", x.belt(100000, 1), ROOM);
        for (int i = 0; i < 60; i++) x.feed(0, 1, 0);
        x.step(10);
        due("feed, belt", x.feed(12, 1, 10), UNKNOWN);
        due("feed, length", x.feed(0, 0, 10), OUTSIDE);
        due("feed, length", x.feed(0, 100001, 10), OUTSIDE);
        due("feed, at", x.feed(0, 1, 9), OUTSIDE);
        due("feed, at", x.feed(0, 1, 1000001), OUTSIDE);
        due("feed", x.feed(0, 1, 10), ROOM);
        for (int k = 0; k < 100; k++) x.stop(0, k % 2 == 1, 10);
        due("stop, belt", x.stop(12, false, 10), UNKNOWN);
        due("stop, t", x.stop(0, false, 9), OUTSIDE);
        due("stop, t", x.stop(0, false, 1000001), OUTSIDE);
        due("stop", x.stop(0, false, 10), ROOM);
    }

    private static void outsideBeforeState() {
        about = "refusals, OUTSIDE before STATE";
        BeltSteps x = oneBelt(100000, 1000);
        x.feed(0, 1, 0);
        x.feed(0, 1, 1000);
        x.step(100);
        due("slip of one that has left", x.slip(1, -1), OUTSIDE);
        due("slip of one that has left", x.slip(1, 1000000001), OUTSIDE);
        due("slip of one that has left", x.slip(1, 0), STATE);
        due("slip of one that has left", x.slip(1, 1000000000), STATE);
        due("slip of one that has not come", x.slip(2, -1), OUTSIDE);
        due("slip of one that has not come", x.slip(2, 1000000001), OUTSIDE);
        due("slip of one that has not come", x.slip(2, 0), STATE);
        due("slip of one that has not come", x.slip(2, 1000000000), STATE);
        due("gap of one that has left to itself", x.gap(1, 1), OUTSIDE);
        due("gap of one that has not come to itself", x.gap(2, 2), OUTSIDE);
        due("gap of both", x.gap(1, 2), STATE);
    }

    // The promises, each with the ranges and cases that it names and that stand in no term above.

    private static void promises() {
        newObjectIsEmpty();
        beltRanges();
        joinAnswers();
        feedLengths();
        stepCountsSinceTheStepBefore();
        edgeNumbers();
        edgesBeyondTheFourHundredth();
        stopAnswers();
        stopHundredTimes();
        slipRanges();
        slipNotBehindTheBeginning();
        slipOnEachBelt();
        placeNowAndAhead();
        placeAsToldUntilNow();
        gapSigns();
        gapOnOneBelt();
        countOfEachBelt();
    }

    private static void newObjectIsEmpty() {
        about = "promise 1, no belts, no items";
        BeltSteps x = new BeltSteps();
        for (int n = -1; n <= 1; n++) {
            due("count(" + n + ")", x.count(n), UNKNOWN);
            due("gear(" + n + ", 0)", x.gear(n, 0), UNKNOWN);
            due("place(" + n + ", 0)", x.place(n, 0), UNKNOWN);
            due("slip(" + n + ", 0)", x.slip(n, 0), UNKNOWN);
            due("edge(" + n + ", 0)", x.edge(n, 0), NONE);
        }
        due("step(1000000)", x.step(LAST), 0);
        due("edge(0, 0)", x.edge(0, 0), NONE);
        due("the first belt", x.belt(100000, 1), 0);
        due("the first item", x.feed(0, 1, LAST), 1);
    }

    private static void beltRanges() {
        about = "promise 2, length 100000 .. 100000000, speed 1 .. 5000";
        BeltSteps x = new BeltSteps();
        for (long length : new long[] {99999, 100000001, 0, -100000, WRAP + 100000, Long.MIN_VALUE, Long.MAX_VALUE}) {
            due("length " + length, x.belt(length, 1), OUTSIDE);
            due("length " + length, x.belt(length, 5000), OUTSIDE);
        }
        for (long speed : new long[] {0, 5001, -1, -5000, WRAP + 1, Long.MIN_VALUE, Long.MAX_VALUE}) {
            due("speed " + speed, x.belt(100000, speed), OUTSIDE);
            due("speed " + speed, x.belt(100000000, speed), OUTSIDE);
        }
        due("shortest and slowest", x.belt(100000, 1), 0);
        due("shortest and fastest", x.belt(100000, 5000), 1);
        due("longest and slowest", x.belt(100000000, 1), 2);
        due("longest and fastest", x.belt(100000000, 5000), 3);
        due("one more than the shortest", x.belt(100001, 2), 4);
        due("one less than the longest", x.belt(99999999, 4999), 5);
    }

    private static void joinAnswers() {
        about = "promise 3, the one onto which it led, NONE for none";
        BeltSteps x = new BeltSteps();
        for (int b = 0; b < 4; b++) x.belt(100000, 1000);
        due("none", x.join(0, 3), NONE);
        due("3", x.join(0, 1), 3);
        due("1", x.join(0, 1), 1);
        due("refused", x.join(0, 0), OUTSIDE);
        due("refused", x.join(0, 4), UNKNOWN);
        due("1 still", x.join(0, 2), 1);
        due("another belt's none", x.join(1, 2), NONE);
        due("one that is led onto", x.join(2, 3), NONE);
        due("2", x.join(0, 3), 2);
    }

    private static void feedLengths() {
        about = "promise 4, length 1 .. 100000";
        BeltSteps x = oneBelt(1000000, 1000);
        for (long length : new long[] {0, 100001, -1, WRAP + 1, Long.MIN_VALUE, Long.MAX_VALUE}) {
            due("length " + length + " now", x.feed(0, length, 0), OUTSIDE);
            due("length " + length + " later", x.feed(0, length, 5), OUTSIDE);
        }
        due("none has come", x.count(0), 0);
        due("shortest", x.feed(0, 1, 0), 1);
        due("longest", x.feed(0, 100000, 0), 2);
        due("gap by the shortest", x.gap(2, 1), -1);
        due("gap by the longest", x.gap(1, 2), -100000);
        x.step(600);
        dueEdges(x, edge(500, 0, 1, 0), edge(500, 0, 2, 2), edge(501, 0, 1, 1), edge(600, 0, 2, 1));
    }

    private static void stepCountsSinceTheStepBefore() {
        about = "promise 5, since the step before";
        BeltSteps x = oneBelt(100000, 1000);
        x.feed(0, 1000, 0);
        x.feed(0, 1000, 100);
        x.feed(0, 1000, 200);
        due("one before the first", x.step(49), 0);
        due("the first", x.step(50), 1);
        due("at once again", x.step(50), 0);
        due("refused", x.step(49), OUTSIDE);
        due("stop passes time over three edges", x.stop(0, true, 160), 0);
        due("refused", x.step(1000001), OUTSIDE);
        due("they are told already", x.edge(3, 0), 151);
        due("they are counted by the step after", x.step(160), 3);
        due("once", x.step(160), 0);
        due("told otherwise over two edges", x.stop(0, false, 260), 1);
        due("and counted with none more", x.step(500), 2);
        due("in all", x.edge(5, 0), 251);
        due("not more", x.edge(6, 0), NONE);
    }

    private static void edgeNumbers() {
        about = "promise 6, NONE when there is none such";
        BeltSteps x = oneBelt(100000, 1000);
        x.feed(0, 60000, 0);
        for (int what = -1; what <= 4; what++) due("before, what " + what, x.edge(0, what), NONE);
        x.step(50);
        int[] due = {NONE, 50, 0, 1, 0, NONE};
        for (int what = -1; what <= 4; what++) due("then, what " + what, x.edge(0, what), due[what + 1]);
        for (int i : new int[] {-1, 1, 399, 400, Integer.MIN_VALUE, Integer.MAX_VALUE, 1 << 30, (1 << 30) + 1}) {
            for (int what = 0; what < 4; what++) due("edge(" + i + ", " + what + ")", x.edge(i, what), NONE);
        }
        due("what MIN", x.edge(0, Integer.MIN_VALUE), NONE);
        due("what MAX", x.edge(0, Integer.MAX_VALUE), NONE);
    }

    private static void edgesBeyondTheFourHundredth() {
        about = "promise 6, the first 400 are told";
        BeltSteps x = chain(4, 100000, 1000);
        for (int i = 0; i < 60; i++) x.feed(0, 1000, 10 * i);
        due("until the 396th", x.step(709), 396);
        due("edge(395)", x.edge(395, 0), 701);
        due("edge(396)", x.edge(396, 0), NONE);
        due("until the 399th", x.step(710), 3);
        due("edge(398)", x.edge(398, 0), 710);
        due("edge(399) before", x.edge(399, 0), NONE);
        due("the 400th and two beyond, counted all the same", x.step(711), 3);
        int[] last = {711, 3, 37, 1};
        for (int what = 0; what < 4; what++) due("edge(399, " + what + ")", x.edge(399, what), last[what]);
        for (int what = 0; what < 4; what++) due("edge(400, " + what + ")", x.edge(400, what), NONE);
        due("all that there are, ends too whose fronts are beyond", x.step(LAST), 60 * 4 * 2 - 402);
        for (int what = 0; what < 4; what++) due("edge(399, " + what + ") later", x.edge(399, what), last[what]);
        for (int i : new int[] {400, 401, 478, 479, 480}) due("edge(" + i + ")", x.edge(i, 0), NONE);
        due("edge(0)", x.edge(0, 0), 50);
        due("all have left", x.count(3), 0);
    }

    private static void stopAnswers() {
        about = "promise 7, 1; 0 if it was told so latest; at first it runs";
        BeltSteps x = chain(2, 100000, 1000);
        due("run at first", x.stop(0, true, 0), 0);
        due("stop", x.stop(0, false, 0), 1);
        due("stop again", x.stop(0, false, 0), 0);
        due("stop again, when it stands", x.stop(0, false, 1000), 0);
        due("run", x.stop(0, true, 1000), 1);
        due("run again", x.stop(0, true, 1001), 0);
        due("stop", x.stop(0, false, 1002), 1);
        due("the other, run at first", x.stop(1, true, 1002), 0);
        due("the other, stop", x.stop(1, false, 1002), 1);
        BeltSteps y = oneBelt(100000, 1000);
        due("stop at first", y.stop(0, false, 0), 1);
    }

    private static void stopHundredTimes() {
        about = "promise 7, ROOM after 100 times otherwise";
        BeltSteps x = chain(2, 100000000, 1000);
        for (int k = 0; k < 99; k++) {
            due("otherwise, " + k, x.stop(0, k % 2 == 1, 10 * k), 1);
            due("not otherwise, " + k, x.stop(0, k % 2 == 1, 10 * k + 1), 0);
        }
        due("not otherwise after 99", x.stop(0, false, 990), 0);
        due("the hundredth", x.stop(0, true, 990), 1);
        int gear = x.gear(0, 1000);
        due("one more now", x.stop(0, false, 990), ROOM);
        due("one more later", x.stop(0, false, 2000), ROOM);
        due("no time has passed", x.step(990), 0);
        due("its gear goes up", x.gear(0, 1000), gear);
        due("and on to 8", x.gear(0, 2000), 8);
        due("not otherwise", x.stop(0, true, 1000), 0);
        due("time has passed", x.step(999), OUTSIDE);
        due("still no room", x.stop(0, false, 1000), ROOM);
        due("another belt has its own", x.stop(1, false, 1000), 1);
        due("and again", x.stop(1, true, 1000), 1);
        due("no room in the end", x.stop(0, false, LAST), ROOM);
    }

    private static void slipRanges() {
        about = "promise 8, by is below 0, or above 10^9";
        BeltSteps x = oneBelt(100000, 1000);
        x.feed(0, 1, 0);
        x.step(10);
        for (long by : new long[] {-1, 1000000001L, Long.MIN_VALUE, Long.MAX_VALUE, WRAP + 1, -WRAP + 1}) {
            due("by " + by, x.slip(1, by), OUTSIDE);
        }
        due("place", x.place(1, 10), 10000);
        due("by 0", x.slip(1, 0), 0);
        due("place", x.place(1, 10), 10000);
        due("by 10^9", x.slip(1, 1000000000), 10000);
        due("place", x.place(1, 10), 0);
    }

    private static void slipNotBehindTheBeginning() {
        about = "promise 8, not behind its beginning";
        for (int by = 9999; by <= 10001; by++) {
            BeltSteps x = oneBelt(100000, 1000);
            x.feed(0, 1, 0);
            x.step(10);
            int slipped = Math.min(by, 10000);
            due("by " + by, x.slip(1, by), slipped);
            due("place", x.place(1, 10), 10000 - slipped);
            due("place one later", x.place(1, 11), 11000 - slipped);
            due("the rest", x.slip(1, 5), 10000 - slipped);
            due("no more", x.slip(1, 5), 0);
        }
        BeltSteps y = oneBelt(100000, 1000);
        y.feed(0, 1, 0);
        due("one that has just come", y.slip(1, 1), 0);
    }

    private static void slipOnEachBelt() {
        about = "promise 8, back on its belt";
        BeltSteps x = chain(2, 100000, 3000);
        x.feed(0, 1, 0);
        x.step(34);
        due("not back onto the first belt", x.slip(1, 50000), 2000);
        due("place", x.place(1, 34), BELT);
        due("count(1)", x.count(1), 1);
        due("on the second it goes on from there", x.place(1, 67), BELT + 99000);
        due("and leaves later", x.place(1, 68), NONE);
        x.feed(0, 1, 34);
        x.step(40);
        due("another item's slip", x.slip(2, 100), 100);
        due("leaves the first one", x.place(1, 40), BELT + 18000);
        due("moves itself", x.place(2, 40), 17900);
    }

    private static void placeNowAndAhead() {
        about = "promise 9, now or later, NONE when it has left then, -2 when it has not come yet";
        BeltSteps x = chain(2, 100000, 1000);
        x.feed(1, 1, 100);
        due("now, not come", x.place(1, 0), NOT_COME);
        due("one before", x.place(1, 99), NOT_COME);
        due("at its time", x.place(1, 100), BELT);
        due("one before it leaves", x.place(1, 199), BELT + 99000);
        due("when it leaves", x.place(1, 200), NONE);
        x.step(99);
        due("one before, now", x.place(1, 99), NOT_COME);
        x.step(100);
        due("at its time, now", x.place(1, 100), BELT);
        x.step(199);
        due("one before it leaves, now", x.place(1, 199), BELT + 99000);
        due("one later", x.place(1, 200), NONE);
        x.step(200);
        due("when it has left", x.place(1, 200), NONE);
        due("below now, when it has left", x.place(1, 199), OUTSIDE);
    }

    private static void placeAsToldUntilNow() {
        about = "promise 9, as belts were told until now";
        BeltSteps x = chain(2, 100000, 1000);
        x.feed(0, 1, 0);
        x.feed(0, 1, 300);
        due("running", x.place(1, 120), BELT + 20000);
        x.stop(0, false, 60);
        due("told to stop", x.place(1, 111), 60000 + 20 * 875 + 20 * 750 + 11 * 625);
        due("over before it stands", x.place(1, 112), BELT);
        due("and on with the second", x.place(1, 200), BELT + 88000);
        due("one that comes when it stands", x.place(2, LAST), 0);
        x.stop(1, false, 60);
        due("the second told too", x.place(1, LAST), BELT + 8 * 625 + 20 * (500 + 375 + 250 + 125));
        x.stop(0, true, 80);
        due("told to run again", x.place(1, 100), 60000 + 20 * 875 + 20 * 1000);
        due("one that comes later", x.place(2, 399), 99000);
    }

    private static void gapSigns() {
        about = "promise 10, below 0 if it is not in front";
        BeltSteps x = oneBelt(100000, 1);
        x.feed(0, 10, 0);
        x.feed(0, 10, 11);
        x.step(10);
        due("one has not come", x.gap(2, 1), STATE);
        x.step(11);
        due("1 in front", x.gap(2, 1), 1);
        due("behind", x.gap(1, 2), -21);
        x.slip(1, 1);
        due("0 in front", x.gap(2, 1), 0);
        due("behind", x.gap(1, 2), -20);
        x.slip(1, 1);
        due("1 behind the front", x.gap(2, 1), -1);
        due("behind", x.gap(1, 2), -19);
        BeltSteps y = oneBelt(100000000, 5000);
        y.feed(0, 1, 0);
        y.feed(0, 100000, 19999);
        y.step(19999);
        due("farthest in front", y.gap(2, 1), 99994999);
        due("farthest behind", y.gap(1, 2), -100095000);
    }

    private static void gapOnOneBelt() {
        about = "promise 10, the same, or not both on one belt";
        BeltSteps x = chain(2, 100000, 1000);
        x.feed(0, 10, 0);
        x.feed(0, 10, 1);
        x.feed(1, 10, 0);
        due("to itself", x.gap(1, 1), OUTSIDE);
        due("on two belts of one place", x.gap(1, 3), STATE);
        x.step(99);
        due("both on the first", x.gap(2, 1), 990);
        x.step(100);
        due("one is over", x.gap(2, 1), STATE);
        due("one is over", x.gap(1, 2), STATE);
        x.step(101);
        due("both on the second", x.gap(2, 1), 990);
        x.step(200);
        due("one has left", x.gap(2, 1), STATE);
        due("one has left", x.gap(1, 2), STATE);
        x.step(201);
        due("both have left", x.gap(1, 2), STATE);
    }

    private static void countOfEachBelt() {
        about = "promise 11, how many items are on a belt";
        BeltSteps x = chain(2, 100000, 1000);
        due("empty", x.count(0), 0);
        for (int i = 0; i < 30; i++) x.feed(0, 1, 0);
        for (int i = 0; i < 30; i++) x.feed(1, 1, 1);
        due("those that have come", x.count(0), 30);
        due("none on the second", x.count(1), 0);
        x.step(1);
        due("all have come", x.count(0), 30);
        due("on the second", x.count(1), 30);
        x.step(100);
        due("all over", x.count(0), 0);
        due("sixty on one", x.count(1), 60);
        x.step(101);
        due("half have left", x.count(1), 30);
        x.step(200);
        due("all have left", x.count(1), 0);
    }
}
