/** Promise 1: what a new object answers. */
public final class NewObjectTest {
    public static void main(String[] args) {
        Check.sentence("GUESTS 0 .. 5 are ABSENT at first, but GUEST 0.", NewObjectTest::theOthersAreAbsent);
        Check.sentence("GUEST 0 begins READY at PLACE 0, with QUOTA 12, all else 0 or none.", NewObjectTest::guestZero);
        Check.sentence("a PARENT (-1 for GUEST 0)", NewObjectTest::guestZeroHasNoParent);
        Check.sentence("a number n, HALT at first", NewObjectTest::haltAtFirst);
        Check.sentence("MEMORY has 12 FRAMES of 8 ints.", NewObjectTest::twelveFramesOfEight);
        Check.sentence("PAGES 0 .. 3, each with a FRAME or none", NewObjectTest::fourPages);
        Check.sentence("REGISTERS 0 .. 3 (ints)", NewObjectTest::fourRegisters);
        Check.sentence("LOCKS are free, or held by a GUEST", NewObjectTest::locksAndChannelsAreEmpty);
        Check.sentence("`GuestKernel()`: GUEST 0 as said.", NewObjectTest::objectsShareNothing);
        Check.end();
    }

    private static void theOthersAreAbsent() {
        Rig rig = new Rig("a new object");
        for (int g = 1; g < 6; g++) {
            rig.missing(g);
        }
        rig.state(0, Words.READY).badTold(-1, 0).badTold(6, 0);
    }

    private static void guestZero() {
        new Rig("guest 0").state(0, Words.READY).told(0, Words.PLACE, 0).told(0, Words.HANDLER, -1)
            .told(0, Words.QUOTA, 12).told(0, Words.USED, 0).told(0, Words.GIVEN, 0)
            .told(0, Words.PARENT, -1).told(0, Words.OUTCOME, 0).told(0, Words.GUEST_TRAPS, 0)
            .registers(0, 0, 0, 0, 0).pages(0, -1, -1, -1, -1).count(10, -1).count(11, -1).count(20, 1).count(21, 0);
    }

    private static void guestZeroHasNoParent() {
        new Rig("a parent").told(0, Words.PARENT, -1).op(Words.SPAWN, 0, 1, 8).halt().at(8).rest().run(1)
            .told(0, Words.PARENT, -1).told(1, Words.PARENT, 0).run(1).state(0, Words.DEAD).told(0, Words.PARENT, -1);
    }

    private static void haltAtFirst() {
        Rig rig = new Rig("code that nobody wrote");
        for (int i = 0; i < 32; i++) {
            rig.written(i, Words.HALT, 0, 0, 0);
        }
        rig.runs(300, 1).state(0, Words.DEAD).told(0, Words.OUTCOME, 0);
    }

    /** Three guests of quota 4 use all that there is; each writes the first int and the last of its memory. */
    private static void twelveFramesOfEight() {
        Rig rig = new Rig("all of memory");
        for (int f = 0; f < 12; f++) {
            for (int i = 0; i < 8; i++) {
                rig.memory(f, i, 0);
            }
        }
        rig.count(Words.FREE, 12).set(3, 4).op(Words.SPAWN, 0, 3, 16).op(Words.SPAWN, 0, 3, 16)
            .op(Words.GO_IF_BELOW, 2, 3, 16).at(16);
        for (int p = 0; p < 4; p++) {
            rig.op(Words.MAP, 1, 0, p);
        }
        rig.op(Words.STORE, 1, 2, 0).op(Words.STORE, 1, 2, 31).rest().stuck(60).count(Words.FREE, 0);
        boolean[] used = new boolean[12];
        for (int g = 0; g < 3; g++) {
            for (int p = 0; p < 4; p++) {
                used[rig.pageOf(g, p)] = true;
            }
            rig.memory(rig.pageOf(g, 0), 0, 1).memory(rig.pageOf(g, 3), 7, 1);
        }
        for (int f = 0; f < 12; f++) {
            Check.due("frame " + f + " in use", 1, used[f] ? 1 : 0);
        }
    }

    private static void fourPages() {
        new Rig("pages").op(Words.MAP, 1, 0, 0).op(Words.MAP, 1, 0, 3).pages(0, -1, -1, -1, -1).run(2)
            .pages(0, 0, -1, -1, 1).badPage(0, -1).badPage(0, 4);
    }

    private static void fourRegisters() {
        new Rig("registers").set(0, Integer.MIN_VALUE).set(3, Integer.MAX_VALUE).registers(0, 0, 0, 0, 0).run(2)
            .registers(0, Integer.MIN_VALUE, 0, 0, Integer.MAX_VALUE).badRegister(0, -1).badRegister(0, 4);
    }

    private static void locksAndChannelsAreEmpty() {
        Rig rig = new Rig("locks and channels");
        for (int k = 0; k < 4; k++) {
            rig.object(k, Words.HOLDER, -1).object(k, Words.LOCK_ROW, 0).object(k, Words.INTS, 0)
                .object(k, Words.SENDERS, 0).object(k, Words.RECEIVERS, 0);
        }
    }

    private static void objectsShareNothing() {
        new Rig("a used object").set(0, 7).op(Words.MAP, 1, 0, 0).op(Words.STORE, 0, 2, 3).op(Words.LOCK, 0, 0, 1)
            .op(Words.SEND, 0, 0, 2).run(5).memory(0, 3, 7);
        Rig fresh = new Rig("an object beside a used one");
        fresh.register(0, 0, 0).memory(0, 3, 0).object(1, Words.HOLDER, -1).object(2, Words.INTS, 0)
            .written(0, Words.HALT, 0, 0, 0).state(0, Words.READY);
        for (int what = 0; what < 8; what++) {
            fresh.count(what, what == Words.FREE ? 12 : 0);
        }
    }
}
