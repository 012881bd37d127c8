import java.util.ArrayList;
import java.util.List;

/**
 * A call that is refused changes nothing, and lets no time pass: of two twins one is asked what it must refuse, again
 * and again, and then both must answer all further calls alike. The same for calls that only ask.
 */
public final class RefusalTests {
    private static final int NONE = -1, NOT_COME = -2, UNKNOWN = -11, OUTSIDE = -12, STATE = -13, ROOM = -14;
    private static final long LAST = 1000000L;
    /** The time that it is for the twins. */
    private static final long NOW = 1020L;
    /** More than the belts that an object has room for, so that a place lost with each refusal is noticed. */
    private static final int TIMES = 13;
    private static int checks = 0;
    private static int wrong = 0;

    private interface Call {
        long on(BeltSteps x);
    }

    private interface Maker {
        BeltSteps make();
    }

    public static void main(String[] args) {
        twinsAreAsMeant();
        refusedWhenBusy();
        refusedWhenFull();
        askedOnly();
        nothingComesOfIt();
        refusalsTakeNoRoom();
        System.out.println(checks + " checks, " + wrong + " answers are not as due");
        if (wrong != 0) System.exit(1);
    }

    private static void due(String call, long got, long want) {
        checks++;
        if (got == want) return;
        wrong++;
        System.out.println(call + " answered " + got + ", due is " + want);
    }

    /**
     * Belts 0, 1, 2 lead on, 3 and 4 do not. Item 1 has left, 2 to 5 are on belts, 6 comes later; belts 1 and 3
     * change gears just now, and edges have been told that no step has counted yet.
     */
    private static BeltSteps busy() {
        BeltSteps x = new BeltSteps();
        x.belt(100000, 1000);
        x.belt(150001, 701);
        x.belt(200000, 313);
        x.belt(100000000, 5000);
        x.belt(100000, 5000);
        x.join(0, 1);
        x.join(1, 2);
        x.feed(4, 3000, 0);
        x.feed(0, 4000, 800);
        x.feed(0, 5000, 905);
        x.feed(0, 60000, 960);
        x.feed(3, 100000, 0);
        x.feed(0, 7000, NOW + 30);
        x.stop(3, false, 300);
        x.step(940);
        x.stop(3, true, 1000);
        x.stop(1, false, NOW);
        return x;
    }

    /** As many belts, items and tellings of belt 0 as there is room for; some items have left, some come later. */
    private static BeltSteps full() {
        BeltSteps x = new BeltSteps();
        for (int b = 0; b < 12; b++) x.belt(100000 + b, 5000 - b);
        for (int b = 0; b + 1 < 6; b++) x.join(b, b + 1);
        for (int i = 0; i < 60; i++) x.feed(i % 12, 1 + 900 * i, i < 50 ? 20 * i : NOW + i);
        for (int k = 0; k < 100; k++) x.stop(0, k % 2 == 1, k < 99 ? 10 * k : NOW - 5);
        x.stop(0, true, NOW);
        return x;
    }

    private static void twinsAreAsMeant() {
        BeltSteps x = busy();
        due("busy: step below now", x.step(NOW - 1), OUTSIDE);
        due("busy: item 1 has left", x.place(1, NOW), NONE);
        due("busy: item 2 is on belt 1", x.place(2, NOW) / 1000000000L, 1);
        due("busy: item 3 is on belt 1", x.place(3, NOW) / 1000000000L, 1);
        due("busy: item 4 is on belt 0", x.place(4, NOW), 60000);
        due("busy: item 5 is on belt 3", x.place(5, NOW) / 1000000000L, 3);
        due("busy: item 6 has not come", x.place(6, NOW), NOT_COME);
        due("busy: gear of 1", x.gear(1, NOW), 7);
        due("busy: gear of 3", x.gear(3, NOW), 2);
        due("busy: edges that no step has counted", x.step(NOW), 5);
        BeltSteps y = full();
        due("full: step below now", y.step(NOW - 1), OUTSIDE);
        due("full: belts", y.belt(100000, 1), ROOM);
        due("full: items", y.feed(0, 1, NOW), ROOM);
        due("full: tellings", y.stop(0, false, NOW), ROOM);
        due("full: edges are there", y.step(NOW) > 20 ? 1 : 0, 1);
    }

    /** What an object answers when it is asked all that it can be asked now and ahead. */
    private static void lookAt(BeltSteps x, int belts, int items, long now, List<Long> answers) {
        for (int i = 1; i <= items; i++) {
            answers.add(x.place(i, now));
            answers.add(x.place(i, now + 60));
            answers.add((long) x.gap(i, i % items + 1));
        }
        for (int b = 0; b < belts; b++) {
            answers.add((long) x.count(b));
            answers.add((long) x.gear(b, now));
            answers.add((long) x.gear(b, now + 37));
        }
        for (int i = 0; i < 14; i++) answers.add((long) x.edge(i, i % 4));
        answers.add((long) x.edge(40, 0));
    }

    /** What an object answers to all kinds of calls that change it. */
    private static void goOn(BeltSteps x, int belts, List<Long> answers) {
        answers.add((long) x.step(NOW + 1));
        answers.add((long) x.slip(2, 777));
        answers.add((long) x.slip(3, 100));
        answers.add((long) x.slip(4, 1000000000));
        answers.add((long) x.belt(222222, 222));
        answers.add((long) x.feed(0, 999, NOW + 3));
        answers.add((long) x.feed(belts, 999, NOW + 3));
        for (int b = 0; b < belts; b++) answers.add((long) x.join(b, belts - 1));
        for (int b = 0; b < belts; b++) {
            answers.add((long) x.stop(b, b % 2 == 0, NOW + 10 + b));
            answers.add((long) x.gear(b, NOW + 40));
        }
        answers.add((long) x.step(NOW + 50));
    }

    private static List<Long> answers(BeltSteps x, boolean full) {
        List<Long> all = new ArrayList<>();
        int belts = full ? 12 : 5;
        all.add((long) x.step(NOW - 1));
        all.add((long) x.step(NOW));
        lookAt(x, belts, full ? 8 : 6, NOW, all);
        goOn(x, belts, all);
        lookAt(x, belts, full ? 8 : 6, NOW + 50, all);
        all.add((long) x.step(LAST));
        for (int i = 0; i < 40; i++) all.add((long) x.edge(i, i % 3));
        return all;
    }

    private static void sameAs(String call, BeltSteps tried, BeltSteps twin, boolean full) {
        List<Long> got = answers(tried, full);
        List<Long> want = answers(twin, full);
        checks++;
        for (int k = 0; k < want.size(); k++) {
            if (got.get(k).equals(want.get(k))) continue;
            wrong++;
            System.out.println("after " + call + " answer " + k + " was " + got.get(k) + ", due is " + want.get(k));
            return;
        }
    }

    private static void changesNothing(String call, boolean full, long want, Call tried) {
        Maker maker = full ? RefusalTests::full : RefusalTests::busy;
        BeltSteps once = maker.make();
        due(call, tried.on(once), want);
        sameAs(call, once, maker.make(), full);
        BeltSteps often = maker.make();
        for (int k = 0; k < TIMES; k++) due(call + " again", tried.on(often), want);
        sameAs(call + " again and again", often, maker.make(), full);
    }

    private static void unchanged(String call, long want, Call tried) {
        changesNothing(call, false, want, tried);
    }

    private static void refusedWhenBusy() {
        beltRefused();
        joinRefused();
        feedRefused();
        stepRefused();
        stopRefused();
        slipRefused();
        placeRefused();
        gapRefused();
        countAndGearRefused();
    }

    private static void beltRefused() {
        unchanged("belt, too short", OUTSIDE, x -> x.belt(99999, 1));
        unchanged("belt, too long", OUTSIDE, x -> x.belt(100000001, 1));
        unchanged("belt, too slow", OUTSIDE, x -> x.belt(100000, 0));
        unchanged("belt, too fast", OUTSIDE, x -> x.belt(100000, 5001));
    }

    private static void joinRefused() {
        unchanged("join, from none", UNKNOWN, x -> x.join(5, 1));
        unchanged("join, from below", UNKNOWN, x -> x.join(-1, 1));
        unchanged("join, onto none", UNKNOWN, x -> x.join(0, 5));
        unchanged("join, onto below", UNKNOWN, x -> x.join(0, -1));
        unchanged("join, onto itself", OUTSIDE, x -> x.join(0, 0));
        unchanged("join, onto a lesser one", OUTSIDE, x -> x.join(1, 0));
        unchanged("join, the last onto a lesser one", OUTSIDE, x -> x.join(4, 3));
    }

    private static void feedRefused() {
        unchanged("feed, no belt", UNKNOWN, x -> x.feed(5, 1, NOW));
        unchanged("feed, no belt, later", UNKNOWN, x -> x.feed(-1, 1, NOW + 5));
        unchanged("feed, no length", OUTSIDE, x -> x.feed(0, 0, NOW));
        unchanged("feed, no length, later", OUTSIDE, x -> x.feed(0, 0, NOW + 5));
        unchanged("feed, too long", OUTSIDE, x -> x.feed(0, 100001, NOW));
        unchanged("feed, too long, later", OUTSIDE, x -> x.feed(0, 100001, NOW + 5));
        unchanged("feed, below now", OUTSIDE, x -> x.feed(0, 1, NOW - 1));
        unchanged("feed, too late", OUTSIDE, x -> x.feed(0, 1, LAST + 1));
    }

    private static void stepRefused() {
        unchanged("step, below now", OUTSIDE, x -> x.step(NOW - 1));
        unchanged("step, below 0", OUTSIDE, x -> x.step(-1));
        unchanged("step, too late", OUTSIDE, x -> x.step(LAST + 1));
        unchanged("step, far too late", OUTSIDE, x -> x.step(Long.MAX_VALUE));
    }

    private static void stopRefused() {
        unchanged("stop, no belt", UNKNOWN, x -> x.stop(5, false, NOW));
        unchanged("stop, no belt, later", UNKNOWN, x -> x.stop(5, false, NOW + 5));
        unchanged("run, no belt, later", UNKNOWN, x -> x.stop(-1, true, NOW + 5));
        for (int b = 0; b < 4; b++) {
            int belt = b;
            unchanged("stop, below now", OUTSIDE, x -> x.stop(belt, false, NOW - 1));
            unchanged("run, below now", OUTSIDE, x -> x.stop(belt, true, NOW - 1));
            unchanged("stop, too late", OUTSIDE, x -> x.stop(belt, false, LAST + 1));
            unchanged("run, too late", OUTSIDE, x -> x.stop(belt, true, LAST + 1));
        }
    }

    private static void slipRefused() {
        unchanged("slip, item 0", UNKNOWN, x -> x.slip(0, 1));
        unchanged("slip, no item", UNKNOWN, x -> x.slip(7, 1));
        unchanged("slip, forwards", OUTSIDE, x -> x.slip(2, -1));
        unchanged("slip, far forwards", OUTSIDE, x -> x.slip(2, Long.MIN_VALUE));
        unchanged("slip, too far", OUTSIDE, x -> x.slip(2, 1000000001));
        unchanged("slip, left and forwards", OUTSIDE, x -> x.slip(1, -1));
        unchanged("slip, left", STATE, x -> x.slip(1, 1));
        unchanged("slip, left, by 0", STATE, x -> x.slip(1, 0));
        unchanged("slip, not come", STATE, x -> x.slip(6, 1));
        unchanged("slip, not come, by 10^9", STATE, x -> x.slip(6, 1000000000));
    }

    private static void placeRefused() {
        unchanged("place, item 0", UNKNOWN, x -> x.place(0, NOW + 5));
        unchanged("place, no item", UNKNOWN, x -> x.place(7, NOW + 5));
        unchanged("place, below now", OUTSIDE, x -> x.place(2, NOW - 1));
        unchanged("place, below now, not come", OUTSIDE, x -> x.place(6, NOW - 1));
        unchanged("place, below now, left", OUTSIDE, x -> x.place(1, NOW - 1));
        unchanged("place, too late", OUTSIDE, x -> x.place(2, LAST + 1));
    }

    private static void gapRefused() {
        unchanged("gap, from none", UNKNOWN, x -> x.gap(0, 2));
        unchanged("gap, to none", UNKNOWN, x -> x.gap(2, 7));
        unchanged("gap, none to itself", UNKNOWN, x -> x.gap(7, 7));
        unchanged("gap, to itself", OUTSIDE, x -> x.gap(2, 2));
        unchanged("gap, one left to itself", OUTSIDE, x -> x.gap(1, 1));
        unchanged("gap, from one that has left", STATE, x -> x.gap(1, 2));
        unchanged("gap, to one that has left", STATE, x -> x.gap(2, 1));
        unchanged("gap, from one that has not come", STATE, x -> x.gap(6, 4));
        unchanged("gap, to one that has not come", STATE, x -> x.gap(4, 6));
        unchanged("gap, on two belts", STATE, x -> x.gap(2, 4));
        unchanged("gap, on two belts the other way", STATE, x -> x.gap(4, 2));
    }

    private static void countAndGearRefused() {
        unchanged("count, no belt", UNKNOWN, x -> x.count(5));
        unchanged("count, below", UNKNOWN, x -> x.count(-1));
        unchanged("gear, no belt", UNKNOWN, x -> x.gear(5, NOW + 5));
        unchanged("gear, below", UNKNOWN, x -> x.gear(-1, NOW + 5));
        unchanged("gear, below now", OUTSIDE, x -> x.gear(1, NOW - 1));
        unchanged("gear, too late", OUTSIDE, x -> x.gear(1, LAST + 1));
    }

    private static void refusedWhenFull() {
        changesNothing("belt, no room", true, ROOM, x -> x.belt(100000, 1));
        changesNothing("belt, no room, outside", true, OUTSIDE, x -> x.belt(100000, 0));
        changesNothing("feed, no room", true, ROOM, x -> x.feed(0, 1, NOW));
        changesNothing("feed, no room, later", true, ROOM, x -> x.feed(0, 1, NOW + 7));
        changesNothing("feed, no room, at the last time", true, ROOM, x -> x.feed(11, 100000, LAST));
        changesNothing("stop, no room", true, ROOM, x -> x.stop(0, false, NOW));
        changesNothing("stop, no room, later", true, ROOM, x -> x.stop(0, false, NOW + 1));
        changesNothing("stop, no room, much later", true, ROOM, x -> x.stop(0, false, LAST));
        changesNothing("stop, no room, below now", true, OUTSIDE, x -> x.stop(0, false, NOW - 1));
    }

    private static void askedOnly() {
        unchanged("place ahead, left by then", NONE, x -> x.place(5, LAST));
        unchanged("place of one that has left", NONE, x -> x.place(1, NOW + 5));
        unchanged("place of one that has not come", NOT_COME, x -> x.place(6, NOW + 29));
        unchanged("place of one that comes then", 0, x -> x.place(6, NOW + 30));
        unchanged("gear ahead", 0, x -> x.gear(1, LAST));
        unchanged("count", 2, x -> x.count(1));
        unchanged("gap", busy().gap(3, 2), x -> x.gap(3, 2));
        unchanged("edge", 10, x -> x.edge(0, 0));
        unchanged("edge, none such", NONE, x -> x.edge(400, 0));
        unchanged("edge, nothing such", NONE, x -> x.edge(0, 4));
    }

    private static void nothingComesOfIt() {
        unchanged("slip by 0", 0, x -> x.slip(2, 0));
        unchanged("told so latest, to run", 0, x -> x.stop(0, true, NOW));
        unchanged("told so latest, to run, between gears", 0, x -> x.stop(3, true, NOW));
        unchanged("told so latest, to stop, between gears", 0, x -> x.stop(1, false, NOW));
        unchanged("joined as it was", 1, x -> x.join(0, 1));
        changesNothing("told so latest, with no room", true, 0, x -> x.stop(0, true, NOW));
        // Later than now time passes, and only that: whichever belt is told what it was told latest.
        long[] later = {NOW + 1, NOW + 19, NOW + 20, NOW + 33};
        for (long t : later) {
            BeltSteps one = busy();
            BeltSteps other = busy();
            due("told so latest, later", one.stop(1, false, t), 0);
            due("another told so latest, later", other.stop(4, true, t), 0);
            sameAs("told so latest at " + t, one, other, false);
        }
    }

    private static void refusalsTakeNoRoom() {
        BeltSteps x = new BeltSteps();
        for (int b = 0; b < 12; b++) {
            due("refused belt", x.belt(99999, 1), OUTSIDE);
            due("belt", x.belt(100000, 1), b);
        }
        for (int i = 1; i <= 60; i++) {
            due("refused feed, length", x.feed(0, 0, 0), OUTSIDE);
            due("refused feed, at", x.feed(0, 1, -1), OUTSIDE);
            due("refused feed, belt", x.feed(12, 1, 0), UNKNOWN);
            due("feed", x.feed(0, 1, 0), i);
        }
        BeltSteps y = new BeltSteps();
        y.belt(100000, 1);
        for (int k = 0; k < 100; k++) {
            due("refused stop, t", y.stop(0, k % 2 == 1, k - 2), OUTSIDE);
            due("refused stop, belt", y.stop(1, k % 2 == 1, k), UNKNOWN);
            due("told so latest", y.stop(0, k % 2 == 0, k), 0);
            due("stop", y.stop(0, k % 2 == 1, k), 1);
        }
        due("the room is full", y.stop(0, false, 100), ROOM);
    }
}
