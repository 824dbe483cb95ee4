/** LOCKS and their ROWS (OPs 18 and 19). */
public final class LockTest {
    private static final int[] WRONG = {-1, 4, 5, Integer.MIN_VALUE, Integer.MAX_VALUE};

    public static void main(String[] args) {
        Check.sentence("18 LOCK n (0 .. 3, else TRAP 4)", LockTest::lockOfWrongNumbers);
        Check.sentence("19 UNLOCK it", LockTest::unlockOfWrongNumbers);
        Check.sentence("UNLOCK it: not held by this GUEST: TRAP 5.", LockTest::unlockOfOneNotHeld);
        Check.sentence("LOCKS are free, or held by a GUEST", LockTest::locksAndUnlocks);
        Check.sentence("LOCK of one that isn't free", LockTest::lockOfAnothers);
        Check.sentence("(also by the holder) BLOCKS it in the LOCK's ROW", LockTest::holderBlocksItself);
        Check.sentence("UNLOCKED, the first in the ROW holds it", LockTest::rowInOrder);
        Check.sentence("holds it, READY, its INSTRUCTION done.", LockTest::wokenAreReadyAndDone);
        Check.sentence("all its LOCKS are UNLOCKED, in order", LockTest::theDeadUnlockInOrder);
        Check.sentence("all its LOCKS are UNLOCKED", LockTest::everyEndUnlocks);
        Check.end();
    }

    private static void lockOfWrongNumbers() {
        for (int n : WRONG) {
            Rig rig = new Rig("lock " + n);
            rig.op(Words.LOCK, 0, 0, n).run(1).told(0, Words.OUTCOME, -104);
            for (int k = 0; k < 4; k++) {
                rig.object(k, Words.HOLDER, -1).object(k, Words.LOCK_ROW, 0);
            }
        }
        for (int n = 0; n < 4; n++) {
            Rig rig = new Rig("lock " + n + " alone");
            rig.op(Words.LOCK, 0, 0, n).run(1).count(Words.TRAPS, 0).told(0, Words.PLACE, 1);
            for (int k = 0; k < 4; k++) {
                rig.object(k, Words.HOLDER, k == n ? 0 : -1);
            }
        }
    }

    private static void unlockOfWrongNumbers() {
        for (int n : WRONG) {
            new Rig("unlock " + n).op(Words.LOCK, 0, 0, 0).op(Words.LOCK, 0, 0, 3).op(Words.HANDLE, 0, 0, 9)
                .op(Words.UNLOCK, 0, 0, n).run(4).register(0, 3, 4).object(0, Words.HOLDER, 0)
                .object(3, Words.HOLDER, 0);
        }
        new Rig("unlock 3, then 0").op(Words.LOCK, 0, 0, 0).op(Words.LOCK, 0, 0, 3).op(Words.UNLOCK, 0, 0, 3)
            .op(Words.UNLOCK, 0, 0, 0).run(3).object(3, Words.HOLDER, -1).object(0, Words.HOLDER, 0).run(1)
            .object(0, Words.HOLDER, -1).count(Words.TRAPS, 0);
    }

    private static void unlockOfOneNotHeld() {
        for (int n = 0; n < 4; n++) {
            new Rig("unlock of the free lock " + n).op(Words.UNLOCK, 0, 0, n).run(1).told(0, Words.OUTCOME, -105)
                .object(n, Words.HOLDER, -1);
        }
        new Rig("unlocked twice").op(Words.LOCK, 0, 0, 2).op(Words.UNLOCK, 0, 0, 2).op(Words.UNLOCK, 0, 0, 2).run(3)
            .told(0, Words.OUTCOME, -105);
        Rig rig = new Rig("another's lock");
        rig.op(Words.LOCK, 0, 0, 1).op(Words.SPAWN, 0, 3, 16).rest().at(16).op(Words.HANDLE, 0, 0, 20)
            .op(Words.UNLOCK, 0, 0, 1).at(20).op(Words.UNLOCK, 0, 0, 1);
        rig.run(3).register(1, 3, 5).told(1, Words.PLACE, 20).object(1, Words.HOLDER, 0).run(1)
            .told(1, Words.OUTCOME, -105).object(1, Words.HOLDER, 0).stuck(1);
        // Guest 0 unlocks it for 1, which waits: it's no longer 0's.
        new Rig("a lock passed on").op(Words.LOCK, 0, 0, 1).op(Words.SPAWN, 0, 3, 16).op(Words.UNLOCK, 0, 0, 1)
            .op(Words.UNLOCK, 0, 0, 1).at(16).op(Words.LOCK, 0, 0, 1).rest().run(4).told(0, Words.OUTCOME, -105)
            .object(1, Words.HOLDER, 1);
    }

    private static void locksAndUnlocks() {
        new Rig("a lock").op(Words.LOCK, 0, 0, 2).op(Words.UNLOCK, 0, 0, 2).op(Words.LOCK, 0, 0, 2).halt()
            .object(2, Words.HOLDER, -1).run(1).object(2, Words.HOLDER, 0).object(2, Words.LOCK_ROW, 0)
            .state(0, Words.AT_HAND).told(0, Words.PLACE, 1).run(1).object(2, Words.HOLDER, -1).run(1)
            .object(2, Words.HOLDER, 0).state(0, Words.READY).count(Words.TRAPS, 0);
        new Rig("all four").op(Words.LOCK, 0, 0, 0).op(Words.LOCK, 0, 0, 1).op(Words.LOCK, 0, 0, 2)
            .op(Words.LOCK, 0, 0, 3).run(4).object(0, Words.HOLDER, 0).object(1, Words.HOLDER, 0)
            .object(2, Words.HOLDER, 0).object(3, Words.HOLDER, 0).state(0, Words.AT_HAND);
    }

    private static void lockOfAnothers() {
        new Rig("a lock that another holds").op(Words.LOCK, 0, 0, 2).op(Words.SPAWN, 0, 3, 16).rest().at(16)
            .op(Words.LOCK, 0, 0, 2).run(2).state(1, Words.BLOCKED).told(1, Words.PLACE, 17).object(2, Words.HOLDER, 0)
            .object(2, Words.LOCK_ROW, 1).object(1, Words.LOCK_ROW, 0).count(11, -1).count(21, 0).run(1).stuck(1);
        // All six wait for one lock: guest 0 holds it, and comes to it again after the others.
        Rig all = new Rig("six in a row");
        all.op(Words.LOCK, 0, 0, 3);
        for (int i = 0; i < 5; i++) {
            all.op(Words.SPAWN, 0, 1, 7);
        }
        all.yield().op(Words.LOCK, 0, 0, 3).stuck(60).object(3, Words.HOLDER, 0).object(3, Words.LOCK_ROW, 6);
        for (int g = 0; g < 6; g++) {
            all.state(g, Words.BLOCKED);
        }
    }

    private static void holderBlocksItself() {
        new Rig("the holder").op(Words.LOCK, 0, 0, 3).op(Words.LOCK, 0, 0, 3).run(2).state(0, Words.BLOCKED)
            .told(0, Words.PLACE, 2).object(3, Words.HOLDER, 0).object(3, Words.LOCK_ROW, 1).count(10, -1)
            .count(Words.TRAPS, 0).stuck(3);
    }

    private static void rowInOrder() {
        // Guest 2 does three instructions first, so that 1, 3 and 2 come to the lock in this order.
        Rig rig = new Rig("a row");
        rig.op(Words.LOCK, 0, 0, 0).op(Words.SPAWN, 0, 3, 16).op(Words.SPAWN, 0, 3, 13).op(Words.SPAWN, 0, 3, 16)
            .yield().yield().op(Words.UNLOCK, 0, 0, 0).op(Words.GO_IF_ZERO, 3, 0, 7).at(13).set(1, 1).set(1, 1)
            .set(1, 1).op(Words.LOCK, 0, 0, 0).set(2, 8).op(Words.UNLOCK, 0, 0, 0).rest();
        rig.run(9).object(0, Words.HOLDER, 0).object(0, Words.LOCK_ROW, 3).run(1).object(0, Words.HOLDER, 0)
            .state(1, Words.BLOCKED);
        // The first in the row is at hand on processor 1 in the same tick.
        rig.run(1).object(0, Words.HOLDER, 1).object(0, Words.LOCK_ROW, 2).register(1, 2, 8).run(1)
            .object(0, Words.HOLDER, 3).object(0, Words.LOCK_ROW, 1).state(3, Words.READY).state(2, Words.BLOCKED);
        rig.run(3).object(0, Words.HOLDER, 2).object(0, Words.LOCK_ROW, 0).state(2, Words.READY).run(3)
            .object(0, Words.HOLDER, -1);
    }

    private static void wokenAreReadyAndDone() {
        // Guest 2 is ready, not at hand, as 0 goes on; its LOCK is not done again.
        new Rig("a lock passed on").op(Words.LOCK, 0, 0, 0).op(Words.SPAWN, 1, 3, 28).op(Words.SPAWN, 1, 3, 16).set(2, 1)
            .op(Words.UNLOCK, 0, 0, 0).set(2, 2).set(2, 3).at(16).op(Words.LOCK, 0, 0, 0).set(2, 5).rest().at(28).rest()
            .run(4).state(2, Words.BLOCKED).told(2, Words.PLACE, 17).run(2).state(0, Words.AT_HAND)
            .state(2, Words.READY).told(2, Words.PLACE, 17).count(20, 1).object(0, Words.HOLDER, 2).run(2)
            .register(2, 2, 5).object(0, Words.HOLDER, 2).object(0, Words.LOCK_ROW, 0);
    }

    private static void theDeadUnlockInOrder() {
        // 0 holds 3 and 1; 2 waits for 3, 4 for 1: at 0's end lock 1 goes first, so 4 is before 2 in the row.
        Rig rig = new Rig("the locks of the dead");
        rig.op(Words.LOCK, 0, 0, 3).op(Words.LOCK, 0, 0, 1).op(Words.SPAWN, 0, 3, 28).op(Words.SPAWN, 0, 3, 16)
            .op(Words.SPAWN, 0, 3, 28).op(Words.SPAWN, 0, 3, 20).yield().yield().halt().at(16).op(Words.LOCK, 0, 0, 3)
            .op(Words.GO_IF_ZERO, 3, 0, 17).at(20).op(Words.LOCK, 0, 0, 1).op(Words.GO_IF_ZERO, 3, 0, 21).at(28).rest();
        rig.run(10).state(2, Words.BLOCKED).state(4, Words.BLOCKED).object(3, Words.LOCK_ROW, 1)
            .object(1, Words.LOCK_ROW, 1).object(1, Words.HOLDER, 0).run(1).state(0, Words.DEAD)
            .object(3, Words.HOLDER, 2).object(1, Words.HOLDER, 4).object(3, Words.LOCK_ROW, 0)
            .object(1, Words.LOCK_ROW, 0).count(20, 2).run(1).state(4, Words.AT_HAND).state(2, Words.READY);
    }

    private static void everyEndUnlocks() {
        int[][] ends = {{Words.HALT, 0}, {Words.EXIT, 0}, {Words.UNLOCK, 9}};
        for (int[] end : ends) {
            new Rig("four locks, then op " + end[0]).op(Words.LOCK, 0, 0, 0).op(Words.LOCK, 0, 0, 1)
                .op(Words.LOCK, 0, 0, 2).op(Words.LOCK, 0, 0, 3).op(end[0], 0, 0, end[1]).run(4)
                .object(0, Words.HOLDER, 0).object(3, Words.HOLDER, 0).run(1).state(0, Words.DEAD)
                .object(0, Words.HOLDER, -1).object(1, Words.HOLDER, -1).object(2, Words.HOLDER, -1)
                .object(3, Words.HOLDER, -1);
        }
        new Rig("a trap that is handled unlocks nothing").op(Words.HANDLE, 0, 0, 9).op(Words.LOCK, 0, 0, 2)
            .op(Words.DIVIDE, 0, 0, 0).run(3).object(2, Words.HOLDER, 0);
        new Rig("the locks of others stay").op(Words.LOCK, 0, 0, 2).op(Words.SPAWN, 0, 3, 16).rest().at(16)
            .op(Words.LOCK, 0, 0, 1).halt().run(2).object(1, Words.HOLDER, 1).run(1).object(1, Words.HOLDER, -1)
            .object(2, Words.HOLDER, 0);
    }
}
