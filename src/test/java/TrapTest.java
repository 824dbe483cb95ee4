/** TRAPS: to the HANDLER, or the end, and how they are counted. */
public final class TrapTest {
    public static void main(String[] args) {
        withHandler();
        handlerIsUsedOnce();
        withoutHandler();
        everyKind();
        trapTakesTime();
        trapInRegisterThree();
        haltAndExit();
        Check.end();
    }

    private static void withHandler() {
        new Rig("a handler").op(Words.HANDLE, 0, 0, 20).set(0, 4).op(Words.DIVIDE, 0, 1, 0).at(20).set(2, 6).run(3)
            .register(0, 3, 1).register(0, 0, 4).told(0, Words.PLACE, 20).told(0, Words.HANDLER, -1)
            .told(0, Words.GUEST_TRAPS, 1).told(0, Words.OUTCOME, 0).told(0, Words.STATE, Words.READY)
            .count(Words.TRAPS, 1).count(Words.INSTRUCTIONS, 3).run(1).register(0, 2, 6);
    }

    private static void handlerIsUsedOnce() {
        new Rig("a second trap").op(Words.HANDLE, 0, 0, 20).op(Words.UNLOCK, 0, 0, 0).at(20)
            .op(Words.MAP, 0, 0, 9).run(3).told(0, Words.STATE, Words.DEAD).told(0, Words.OUTCOME, -104)
            .register(0, 3, 5).told(0, Words.PLACE, 20).told(0, Words.GUEST_TRAPS, 2).count(Words.TRAPS, 2);
        new Rig("a handler set again").op(Words.HANDLE, 0, 0, 0).op(Words.LOAD, 0, 0, 99).run(2)
            .told(0, Words.PLACE, 0).register(0, 3, 2).run(2).told(0, Words.GUEST_TRAPS, 2).run(296)
            .told(0, Words.GUEST_TRAPS, 150).told(0, Words.STATE, Words.READY).count(Words.TRAPS, 150);
        new Rig("a handler taken back").op(Words.HANDLE, 0, 0, 20).op(Words.HANDLE, 0, 0, -5)
            .op(Words.DIVIDE, 0, 1, 0).run(3).told(0, Words.OUTCOME, -101);
    }

    private static void withoutHandler() {
        new Rig("no handler").set(3, 8).op(Words.LOAD, 0, 0, 8).runs(5, 2).told(0, Words.STATE, Words.DEAD)
            .told(0, Words.OUTCOME, -103).told(0, Words.PLACE, 1).told(0, Words.GUEST_TRAPS, 1).register(0, 3, 8)
            .count(Words.TRAPS, 1).count(Words.INSTRUCTIONS, 2).count(10, -1).count(20, 0);
    }

    private static void everyKind() {
        kind(Words.DIVIDE, 0, 1);
        kind(Words.LOAD, 32, 2);
        kind(Words.STORE, -1, 2);
        kind(Words.LOAD, 31, 3);
        kind(Words.STORE, 0, 3);
        int[] numbered = {Words.MAP, Words.UNMAP, Words.SEND, Words.RECEIVE, Words.LOCK, Words.UNLOCK};
        for (int op : numbered) {
            kind(op, 4, 4);
            kind(op, -1, 4);
            kind(op, Integer.MAX_VALUE, 4);
            kind(op, Integer.MIN_VALUE, 4);
        }
        kind(Words.UNLOCK, 0, 5);
        kind(Words.UNLOCK, 3, 5);
    }

    private static void kind(int op, int n, int kind) {
        new Rig("op " + op + " with " + n + ", no handler").op(op, 0, 0, n).runs(2, 1)
            .told(0, Words.OUTCOME, -100 - kind).told(0, Words.PLACE, 0).register(0, 0, 0).register(0, 3, 0);
        new Rig("op " + op + " with " + n + ", handler").op(Words.HANDLE, 0, 0, 9).op(op, 0, 0, n).run(2)
            .told(0, Words.PLACE, 9).told(0, Words.OUTCOME, 0).register(0, 3, kind).told(0, Words.HANDLER, -1);
    }

    private static void trapTakesTime() {
        new Rig("a trap as the third instruction").op(Words.HANDLE, 0, 0, 9).set(0, 1).op(Words.UNLOCK, 0, 0, 0)
            .run(2).count(10, 0).run(1).count(10, -1).count(20, 1).told(0, Words.PLACE, 9);
    }

    private static void trapInRegisterThree() {
        new Rig("the kind goes to register 3").op(Words.HANDLE, 0, 0, 9).set(3, 50).op(Words.DIVIDE, 3, 1, 0).run(3)
            .register(0, 3, 1);
    }

    private static void haltAndExit() {
        new Rig("halt").set(0, 5).op(Words.HANDLE, 0, 0, 3).op(Words.HALT, 0, 0, 8).runs(9, 3)
            .told(0, Words.STATE, Words.DEAD).told(0, Words.OUTCOME, 0).told(0, Words.PLACE, 3)
            .told(0, Words.HANDLER, 3).told(0, Words.GUEST_TRAPS, 0).count(10, -1).count(20, 0);
        new Rig("exit").set(2, -7).op(Words.EXIT, 2, 0, 8).runs(9, 2).told(0, Words.STATE, Words.DEAD)
            .told(0, Words.OUTCOME, -7).told(0, Words.PLACE, 2).register(0, 2, -7).count(Words.TRAPS, 0);
        new Rig("halt at place 31").op(Words.GO_IF_ZERO, 0, 0, 31).run(2).told(0, Words.PLACE, 0);
        new Rig("trap at place 31").op(Words.GO_IF_ZERO, 0, 0, 31).at(31).op(Words.UNLOCK, 0, 0, 0).run(2)
            .told(0, Words.PLACE, 31);
    }
}
