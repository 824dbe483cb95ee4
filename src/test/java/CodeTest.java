/** Promises 2 and 9: what is written to a PLACE, what is answered of it, and which PLACE comes next. */
public final class CodeTest {
    private static final int MIN = Integer.MIN_VALUE;
    private static final int MAX = Integer.MAX_VALUE;
    private static final int[] FAR = {-1, MIN, MAX};

    public static void main(String[] args) {
        Check.sentence("PLACE i (0 .. 31) becomes this", CodeTest::places);
        Check.sentence("becomes this; op 0 .. 21", CodeTest::ops);
        Check.sentence("an OP, a, b (0 .. 3, REGISTERS) and a number n", CodeTest::registersAndNumbers);
        Check.sentence("\"Bad\" is IllegalArgumentException, a number out of range", CodeTest::badNumbersWriteNothing);
        Check.sentence("What OP (0 .. 21), a (1), b (2), n (3) of PLACE i are.", CodeTest::questions);
        Check.sentence("CODE, the same for all", CodeTest::sameForAll);
        Check.sentence("PLACE 31 is followed by 0", CodeTest::placeThirtyOneIsFollowedByZero);
        Check.sentence("TARGETS are n modulo 32, from 0 on.", CodeTest::targets);
        Check.end();
    }

    private static void places() {
        Rig rig = new Rig("places");
        rig.at(0).op(21, 3, 2, 5).at(31).op(20, 0, 3, 6).written(0, 21, 3, 2, 5).written(31, 20, 0, 3, 6)
            .written(1, 0, 0, 0, 0).written(30, 0, 0, 0, 0).at(0).op(9, 2, 1, 4).written(0, 9, 2, 1, 4)
            .at(0).halt().written(0, 0, 0, 0, 0).written(31, 20, 0, 3, 6).badCode(32, 1, 0, 0);
        for (int x : FAR) {
            rig.badCode(x, 1, 0, 0);
        }
    }

    private static void ops() {
        Rig rig = new Rig("ops");
        for (int op = 0; op <= 21; op++) {
            rig.at(4).op(op, 1, 2, 100 + op).written(4, op, 1, 2, 100 + op);
        }
        rig.badCode(4, 22, 0, 0);
        for (int x : FAR) {
            rig.badCode(4, x, 0, 0);
        }
    }

    private static void registersAndNumbers() {
        Rig rig = new Rig("registers and numbers");
        int[] numbers = {MIN, -1, 0, 32, MAX};
        for (int r = 0; r <= 3; r++) {
            rig.at(6).op(1, r, 3 - r, 0).written(6, 1, r, 3 - r, 0);
        }
        for (int n : numbers) {
            rig.at(6).op(13, 0, 0, n).written(6, 13, 0, 0, n);
        }
        rig.badCode(6, 1, 4, 0).badCode(6, 1, 0, 4);
        for (int x : FAR) {
            rig.badCode(6, 1, x, 0).badCode(6, 1, 0, x);
        }
    }

    private static void badNumbersWriteNothing() {
        Rig rig = new Rig("code that was refused");
        rig.at(3).op(8, 1, 2, 5).badCode(-1, 1, 0, 0).badCode(32, 1, 0, 0).badCode(3, -1, 0, 0).badCode(3, 22, 0, 0)
            .badCode(3, 1, -1, 0).badCode(3, 1, 4, 0).badCode(3, 1, 0, -1).badCode(3, 1, 0, 4).written(3, 8, 1, 2, 5);
        for (int i = 0; i < 32; i++) {
            if (i != 3) {
                rig.written(i, 0, 0, 0, 0);
            }
        }
    }

    private static void questions() {
        Rig rig = new Rig("what is written");
        rig.at(0).op(21, 1, 2, 3).written(0, 21, 1, 2, 3).written(31, 0, 0, 0, 0).badWritten(32, 0).badWritten(0, 4)
            .badWritten(MIN, MAX);
        for (int x : FAR) {
            rig.badWritten(x, 0).badWritten(0, x);
        }
    }

    private static void sameForAll() {
        new Rig("two guests at one place").op(Words.SPAWN, 0, 1, 8).op(Words.GO_IF_ZERO, 1, 0, 8).at(8).set(2, 5).set(2, 6)
            .run(3).register(0, 2, 5).register(1, 2, 6);
        new Rig("new code ahead").set(0, 1).set(1, 1).run(1).at(1).set(1, 9).run(1).register(0, 1, 9);
    }

    private static void placeThirtyOneIsFollowedByZero() {
        int[][] instructions = {
            {Words.HALT, 0, 0, 7}, {Words.SET, 0, 0, 7}, {Words.ADD_NUMBER, 0, 0, 7}, {Words.ADD, 0, 2, 7},
            {Words.SUBTRACT, 0, 2, 7}, {Words.MULTIPLY, 0, 2, 7}, {Words.DIVIDE, 0, 2, 7}, {Words.LOAD, 0, 1, 7},
            {Words.STORE, 0, 1, 7}, {Words.GO_IF_BELOW, 2, 1, 7}, {Words.GO_IF_ZERO, 2, 0, 7},
            {Words.HANDLE, 0, 0, 7}, {Words.YIELD, 0, 0, 7}, {Words.MAP, 0, 0, 1}, {Words.UNMAP, 0, 0, 0},
            {Words.SPAWN, 0, 1, 7}, {Words.SEND, 0, 0, 1}, {Words.RECEIVE, 0, 0, 1}, {Words.LOCK, 0, 0, 0},
            {Words.LOCK, 0, 0, 1}, {Words.UNLOCK, 0, 0, 0}, {Words.EXIT, 0, 0, 7}, {Words.REAP, 0, 3, 7}};
        for (int[] it : instructions) {
            // Register 1 is 0 and 2 is 1, page 0 is there and lock 0 is held, so that none of them traps or jumps.
            new Rig("op " + it[0] + " at place 31").op(Words.GO_IF_ZERO, 1, 0, 28).at(28).set(2, 1)
                .op(Words.MAP, 3, 0, 0).op(Words.LOCK, 0, 0, 0).op(it[0], it[1], it[2], it[3]).run(4)
                .told(0, Words.PLACE, 31).run(1).told(0, Words.PLACE, 0).count(Words.TRAPS, 0);
        }
        new Rig("a full channel at place 31").op(Words.GO_IF_ZERO, 1, 0, 29).at(29).op(Words.SEND, 0, 0, 0)
            .op(Words.SEND, 0, 0, 0).op(Words.SEND, 0, 0, 0).run(4).state(0, Words.BLOCKED).told(0, Words.PLACE, 0);
        new Rig("on from place 31").op(Words.GO_IF_ZERO, 1, 0, 31).at(31).set(1, 8).run(4).told(0, Words.PLACE, 2)
            .state(0, Words.DEAD);
    }

    private static void targets() {
        int[] numbers = {0, 31, 32, 33, 63, 64, -1, -31, -32, -33, MAX, MIN};
        int[] places = {0, 31, 0, 1, 31, 0, 31, 1, 0, 31, 31, 0};
        for (int i = 0; i < numbers.length; i++) {
            int n = numbers[i];
            new Rig("10 to " + n).set(1, 5).op(Words.GO_IF_ZERO, 0, 0, n).run(2).told(0, Words.PLACE, places[i]);
            new Rig("9 to " + n).set(1, 5).op(Words.GO_IF_BELOW, 0, 1, n).run(2).told(0, Words.PLACE, places[i]);
            // The second child is on the processor of guest 0 and has not begun yet.
            new Rig("15 to " + n).op(Words.GO_IF_ZERO, 0, 0, 10).at(10).op(Words.SPAWN, 3, 0, 13)
                .op(Words.SPAWN, 3, 0, n).rest().rest().run(3).told(2, Words.PLACE, places[i]);
        }
    }
}
