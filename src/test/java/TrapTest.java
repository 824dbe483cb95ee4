/** TRAPS: to the HANDLER, or the end, and how they are counted. */
public final class TrapTest {
    private static final int MIN = Integer.MIN_VALUE;
    private static final int MAX = Integer.MAX_VALUE;
    /** OP, n and the kind of TRAP, for a GUEST with nothing but REGISTER 0 at 9 and REGISTER 1 at 0. */
    private static final int[][] KINDS = {
        {Words.DIVIDE, 0, 1}, {Words.LOAD, 32, 2}, {Words.LOAD, -1, 2}, {Words.STORE, 32, 2}, {Words.STORE, -1, 2},
        {Words.LOAD, 31, 3}, {Words.LOAD, 0, 3}, {Words.STORE, 31, 3}, {Words.STORE, 0, 3},
        {Words.MAP, 4, 4}, {Words.MAP, -1, 4}, {Words.UNMAP, 4, 4}, {Words.UNMAP, -1, 4},
        {Words.SEND, 4, 4}, {Words.SEND, -1, 4}, {Words.RECEIVE, 4, 4}, {Words.RECEIVE, -1, 4},
        {Words.LOCK, 4, 4}, {Words.LOCK, -1, 4}, {Words.UNLOCK, 4, 4}, {Words.UNLOCK, -1, 4},
        {Words.UNLOCK, MIN, 4}, {Words.UNLOCK, MAX, 4}, {Words.UNLOCK, 0, 5}, {Words.UNLOCK, 3, 5}};

    public static void main(String[] args) {
        Check.sentence("TRAPS: what the INSTRUCTION would have done isn't done.", TrapTest::nothingIsDone);
        Check.sentence("With a HANDLER: REGISTER 3 is the kind, the GUEST goes on there", TrapTest::withHandler);
        Check.sentence("and has no HANDLER then", TrapTest::handlerIsUsedOnce);
        Check.sentence("Without: DEAD, OUTCOME less 100 less the kind.", TrapTest::withoutHandler);
        Check.sentence("one that a TRAP ends stays where it is", TrapTest::staysWhereItIs);
        Check.sentence("TRAPS since it came to be (8)", TrapTest::countsForTheGuest);
        Check.sentence("TRAPS (2)", TrapTest::countsForAll);
        Check.sentence("0 HALT: the GUEST is DEAD, with OUTCOME 0.", TrapTest::halt);
        Check.sentence("20 EXIT: DEAD, OUTCOME a.", TrapTest::exit);
        Check.sentence("OUTCOME, 0 if it isn't DEAD (7)", TrapTest::outcomeOfTheLiving);
        Check.end();
    }

    private static void nothingIsDone() {
        for (int[] kind : KINDS) {
            Rig rig = new Rig("op " + kind[0] + " with " + kind[1]);
            rig.set(0, 9).op(Words.HANDLE, 0, 0, 20).op(kind[0], 0, 1, kind[1]).run(3).register(0, 0, 9)
                .register(0, 1, 0).register(0, 2, 0).count(Words.FREE, 12).told(0, Words.USED, 0);
            for (int k = 0; k < 4; k++) {
                rig.object(k, Words.HOLDER, -1).object(k, Words.LOCK_ROW, 0).object(k, Words.INTS, 0)
                    .object(k, Words.SENDERS, 0).object(k, Words.RECEIVERS, 0);
            }
        }
    }

    private static void withHandler() {
        for (int[] kind : KINDS) {
            new Rig("op " + kind[0] + " with " + kind[1]).set(0, 9).op(Words.HANDLE, 0, 0, 20)
                .op(kind[0], 0, 1, kind[1]).at(20).set(2, 6).run(3).registers(0, 9, 0, 0, kind[2])
                .told(0, Words.PLACE, 20).state(0, Words.READY).told(0, Words.OUTCOME, 0).run(1).register(0, 2, 6);
        }
        new Rig("register 3 is the one that is asked for").op(Words.HANDLE, 0, 0, 20).set(3, 50)
            .op(Words.DIVIDE, 3, 1, 0).run(3).registers(0, 0, 0, 0, 1);
        new Rig("the handler is where it trapped").op(Words.HANDLE, 0, 0, 1).op(Words.LOAD, 0, 0, 99).run(2)
            .told(0, Words.PLACE, 1).register(0, 3, 2).state(0, Words.AT_HAND).run(1).told(0, Words.OUTCOME, -102);
        new Rig("a trap uses time").op(Words.HANDLE, 0, 0, 9).set(0, 1).op(Words.UNLOCK, 0, 0, 0).run(2).count(10, 0)
            .run(1).count(10, -1).count(20, 1).told(0, Words.PLACE, 9);
    }

    private static void handlerIsUsedOnce() {
        new Rig("a second trap").op(Words.HANDLE, 0, 0, 20).op(Words.UNLOCK, 0, 0, 0).at(20).op(Words.MAP, 0, 0, 9)
            .run(2).told(0, Words.HANDLER, -1).run(1).state(0, Words.DEAD).told(0, Words.OUTCOME, -104)
            .register(0, 3, 5).told(0, Words.PLACE, 20);
        new Rig("a handler set again").op(Words.HANDLE, 0, 0, 0).op(Words.LOAD, 0, 0, 99).run(2)
            .told(0, Words.HANDLER, -1).run(1).told(0, Words.HANDLER, 0).run(297)
            .told(0, Words.GUEST_TRAPS, 150).state(0, Words.READY);
    }

    private static void withoutHandler() {
        for (int[] kind : KINDS) {
            new Rig("op " + kind[0] + " with " + kind[1]).set(0, 9).set(3, 8).op(kind[0], 0, 1, kind[1]).runs(9, 3)
                .state(0, Words.DEAD).told(0, Words.OUTCOME, -100 - kind[2]).registers(0, 9, 0, 0, 8)
                .count(10, -1).count(20, 0);
        }
    }

    private static void staysWhereItIs() {
        for (int[] kind : KINDS) {
            new Rig("op " + kind[0] + " with " + kind[1]).op(kind[0], 0, 1, kind[1]).runs(9, 1).told(0, Words.PLACE, 0);
        }
        new Rig("a trap at place 31").op(Words.GO_IF_ZERO, 0, 0, 31).at(31).op(Words.UNLOCK, 0, 0, 0).run(2)
            .state(0, Words.DEAD).told(0, Words.PLACE, 31);
    }

    private static void countsForTheGuest() {
        new Rig("handled and not handled").op(Words.HANDLE, 0, 0, 20).op(Words.UNLOCK, 0, 0, 0).at(20)
            .op(Words.MAP, 0, 0, 9).told(0, Words.GUEST_TRAPS, 0).run(2).told(0, Words.GUEST_TRAPS, 1).run(1)
            .told(0, Words.GUEST_TRAPS, 2);
        // Guest 1 ends by a trap and is reaped; the one that then has its number has met none.
        new Rig("a number used again").op(Words.SPAWN, 0, 1, 20).op(Words.REAP, 2, 3, 0).op(Words.SPAWN, 0, 1, 24).rest()
            .at(20).op(Words.UNLOCK, 0, 0, 0).at(24).rest().run(1).told(1, Words.GUEST_TRAPS, 1)
            .told(0, Words.GUEST_TRAPS, 0).run(2).state(1, Words.BLOCKED).told(1, Words.GUEST_TRAPS, 0);
    }

    private static void countsForAll() {
        new Rig("handled and not handled").op(Words.HANDLE, 0, 0, 20).op(Words.UNLOCK, 0, 0, 0).at(20)
            .op(Words.MAP, 0, 0, 9).count(Words.TRAPS, 0).run(2).count(Words.TRAPS, 1).run(1).count(Words.TRAPS, 2);
        new Rig("two guests, one of them reaped").op(Words.SPAWN, 0, 1, 20).op(Words.REAP, 2, 3, 0)
            .op(Words.UNLOCK, 0, 0, 0).at(20).op(Words.UNLOCK, 0, 0, 0).run(1).count(Words.TRAPS, 1).run(1)
            .missing(1).count(Words.TRAPS, 1).run(1).count(Words.TRAPS, 2);
    }

    private static void halt() {
        new Rig("halt").set(0, 5).op(Words.HANDLE, 0, 0, 3).op(Words.HALT, 0, 0, 8).runs(9, 3).state(0, Words.DEAD)
            .told(0, Words.OUTCOME, 0).told(0, Words.HANDLER, 3).told(0, Words.GUEST_TRAPS, 0).register(0, 0, 5)
            .count(10, -1).count(20, 0);
    }

    private static void exit() {
        int[] outcomes = {0, 1, -7, -101, MIN, MAX};
        for (int outcome : outcomes) {
            new Rig("exit with " + outcome).set(2, outcome).op(Words.EXIT, 2, 0, 8).runs(9, 2).state(0, Words.DEAD)
                .told(0, Words.OUTCOME, outcome).register(0, 2, outcome).count(Words.TRAPS, 0).count(10, -1);
        }
    }

    private static void outcomeOfTheLiving() {
        new Rig("at hand, ready, blocked").op(Words.SPAWN, 0, 1, 8).told(0, Words.OUTCOME, 0).yield().set(2, 1).at(8).rest()
            .run(1).told(0, Words.OUTCOME, 0).told(1, Words.OUTCOME, 0).state(1, Words.BLOCKED).run(1)
            .state(0, Words.READY).told(0, Words.OUTCOME, 0);
        // Guest 1 ends with 31 and is reaped; the one that then has its number is not dead.
        new Rig("a number used again").set(0, 31).op(Words.SPAWN, 0, 1, 20).op(Words.REAP, 2, 3, 0)
            .op(Words.SPAWN, 0, 1, 24).rest().at(20).op(Words.EXIT, 0, 0, 0).at(24).rest().run(2)
            .told(1, Words.OUTCOME, 31).run(2).state(1, Words.BLOCKED).told(1, Words.OUTCOME, 0);
    }
}
