/** Promise 8: LOCKS and their ROWS (OPs 18 and 19). */
public final class LockTest {
    public static void main(String[] args) {
        locksAndUnlocks();
        locksAreApart();
        holderBlocksItself();
        rowInOrder();
        unlockOfAnothers();
        theDeadUnlockInOrder();
        trapsUnlockToo();
        Check.end();
    }

    private static void locksAndUnlocks() {
        new Rig("a lock").op(Words.LOCK, 0, 0, 2).op(Words.UNLOCK, 0, 0, 2).op(Words.LOCK, 0, 0, 2).run(1)
            .object(2, Words.HOLDER, 0).object(2, Words.LOCK_ROW, 0).told(0, Words.PLACE, 1).run(1)
            .object(2, Words.HOLDER, -1).count(Words.TRAPS, 0).run(1).object(2, Words.HOLDER, 0).runs(9, 1)
            .object(2, Words.HOLDER, -1);
    }

    private static void locksAreApart() {
        Rig rig = new Rig("four locks");
        rig.op(Words.LOCK, 0, 0, 0).op(Words.LOCK, 0, 0, 3).op(Words.LOCK, 0, 0, 1).op(Words.UNLOCK, 0, 0, 3).run(4)
            .object(0, Words.HOLDER, 0).object(1, Words.HOLDER, 0).object(2, Words.HOLDER, -1)
            .object(3, Words.HOLDER, -1);
    }

    private static void holderBlocksItself() {
        new Rig("the holder").op(Words.LOCK, 0, 0, 3).op(Words.LOCK, 0, 0, 3).run(2)
            .told(0, Words.STATE, Words.BLOCKED).told(0, Words.PLACE, 2).object(3, Words.HOLDER, 0)
            .object(3, Words.LOCK_ROW, 1).count(10, -1).stuck(3);
    }

    private static void rowInOrder() {
        // Guest 2 does three instructions first, so that 1, 3 and 2 come to the lock in this order.
        Rig rig = new Rig("a row");
        rig.op(Words.LOCK, 0, 0, 0).op(Words.SPAWN, 0, 3, 16).op(Words.SPAWN, 0, 3, 13).op(Words.SPAWN, 0, 3, 16)
            .op(Words.YIELD, 0, 0, 0).op(Words.YIELD, 0, 0, 0).op(Words.UNLOCK, 0, 0, 0)
            .op(Words.GO_IF_ZERO, 3, 0, 7).at(13).set(1, 1).set(1, 1).set(1, 1).op(Words.LOCK, 0, 0, 0).set(2, 8)
            .op(Words.UNLOCK, 0, 0, 0).op(Words.RECEIVE, 0, 0, 0);
        rig.run(9).object(0, Words.HOLDER, 0).object(0, Words.LOCK_ROW, 3).run(1).object(0, Words.HOLDER, 0)
            .told(1, Words.STATE, Words.BLOCKED).told(1, Words.PLACE, 17);
        // The first in the row holds it and is at hand on processor 1 in the same tick.
        rig.run(1).object(0, Words.HOLDER, 1).object(0, Words.LOCK_ROW, 2).register(1, 2, 8).run(1)
            .object(0, Words.HOLDER, 3).object(0, Words.LOCK_ROW, 1).told(3, Words.STATE, Words.READY)
            .told(3, Words.PLACE, 17).told(2, Words.STATE, Words.BLOCKED);
        rig.run(3).object(0, Words.HOLDER, 2).object(0, Words.LOCK_ROW, 0).told(2, Words.STATE, Words.READY).run(3)
            .object(0, Words.HOLDER, -1);
    }

    private static void unlockOfAnothers() {
        Rig rig = new Rig("another's lock");
        rig.op(Words.LOCK, 0, 0, 1).op(Words.SPAWN, 0, 3, 16).op(Words.RECEIVE, 0, 0, 0).at(16)
            .op(Words.HANDLE, 0, 0, 20).op(Words.UNLOCK, 0, 0, 1).at(20).op(Words.UNLOCK, 0, 0, 1);
        rig.run(3).register(1, 3, 5).told(1, Words.PLACE, 20).object(1, Words.HOLDER, 0).run(1)
            .told(1, Words.OUTCOME, -105).object(1, Words.HOLDER, 0).stuck(1);
    }

    private static void theDeadUnlockInOrder() {
        // 0 holds 3 and 1; 2 waits for 3, 4 for 1: at 0's end lock 1 goes first, so 4 is before 2 in the row.
        Rig rig = new Rig("the locks of the dead");
        rig.op(Words.LOCK, 0, 0, 3).op(Words.LOCK, 0, 0, 1).op(Words.SPAWN, 0, 3, 28).op(Words.SPAWN, 0, 3, 16)
            .op(Words.SPAWN, 0, 3, 28).op(Words.SPAWN, 0, 3, 20).op(Words.YIELD, 0, 0, 0).op(Words.YIELD, 0, 0, 0)
            .halt().at(16).op(Words.LOCK, 0, 0, 3).op(Words.GO_IF_ZERO, 3, 0, 17).at(20).op(Words.LOCK, 0, 0, 1)
            .op(Words.GO_IF_ZERO, 3, 0, 21).at(28).op(Words.RECEIVE, 0, 0, 0);
        rig.run(10).told(2, Words.STATE, Words.BLOCKED).told(4, Words.STATE, Words.BLOCKED)
            .object(3, Words.LOCK_ROW, 1).object(1, Words.LOCK_ROW, 1).object(1, Words.HOLDER, 0).run(1)
            .told(0, Words.STATE, Words.DEAD).object(3, Words.HOLDER, 2).object(1, Words.HOLDER, 4)
            .object(3, Words.LOCK_ROW, 0).object(1, Words.LOCK_ROW, 0).count(20, 2).run(1)
            .told(4, Words.STATE, Words.AT_HAND).told(2, Words.STATE, Words.READY);
    }

    private static void trapsUnlockToo() {
        new Rig("ended by a trap").op(Words.LOCK, 0, 0, 0).op(Words.LOCK, 0, 0, 2).op(Words.DIVIDE, 0, 0, 0).run(3)
            .told(0, Words.OUTCOME, -101).object(0, Words.HOLDER, -1).object(2, Words.HOLDER, -1);
        new Rig("handled").op(Words.HANDLE, 0, 0, 9).op(Words.LOCK, 0, 0, 2).op(Words.DIVIDE, 0, 0, 0).run(3)
            .object(2, Words.HOLDER, 0);
    }
}
