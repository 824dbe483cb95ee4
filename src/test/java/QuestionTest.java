/** Promises 4, 5 and 8: what may be asked, and how each state is told. */
public final class QuestionTest {
    private static final int[] FAR = {-1, Integer.MIN_VALUE, Integer.MAX_VALUE};

    public static void main(String[] args) {
        Check.sentence("REGISTER r of GUEST g.", QuestionTest::registerBounds);
        Check.sentence("Of GUEST g: 0 READY, 1 at hand, 2 BLOCKED, 3 DEAD (what 0)", QuestionTest::states);
        Check.sentence("PLACE (1), HANDLER (2)", QuestionTest::placeAndHandler);
        Check.sentence("TRAPS since it came to be (8).", QuestionTest::toldBounds);
        Check.sentence("Of LOCK k (0 .. 3): its holder, -1 for none (what 0), GUESTS in its ROW (1)",
            QuestionTest::lockBounds);
        Check.sentence("of CHANNEL k: ints (2), senders (3), receivers (4).", QuestionTest::channelBounds);
        Check.end();
    }

    private static void registerBounds() {
        Rig rig = new Rig("register");
        rig.register(0, 0, 0).register(0, 3, 0).badRegister(6, 0).badRegister(0, 4).badRegister(5, 4);
        for (int x : FAR) {
            rig.badRegister(x, 0).badRegister(0, x);
        }
        rig.missing(1).missing(5);
    }

    private static void states() {
        Rig rig = new Rig("all four states");
        rig.op(Words.SPAWN, 1, 0, 8).op(Words.SPAWN, 1, 0, 12).op(Words.SPAWN, 1, 0, 16)
            .at(8).rest().at(12).yield().at(16).halt();
        rig.run(3).state(0, Words.READY).state(1, Words.BLOCKED).state(2, Words.READY).state(3, Words.DEAD);
        rig.at(12).op(Words.ADD_NUMBER, 0, 0, 1).run(1).state(2, Words.AT_HAND).count(10, 2)
            .count(11, -1).count(20, 1).count(21, 0);
    }

    private static void placeAndHandler() {
        new Rig("place and handler").op(Words.HANDLE, 0, 0, 31).op(Words.GO_IF_ZERO, 0, 0, 31).told(0, Words.PLACE, 0)
            .told(0, Words.HANDLER, -1).run(1).told(0, Words.PLACE, 1).told(0, Words.HANDLER, 31).run(1)
            .told(0, Words.PLACE, 31).told(0, Words.HANDLER, 31);
    }

    private static void toldBounds() {
        Rig rig = new Rig("told");
        rig.told(0, 0, 0).told(0, 8, 0).badTold(6, 0).badTold(0, 9).badTold(5, 9);
        for (int x : FAR) {
            rig.badTold(x, 0).badTold(0, x);
        }
        rig.missing(1).missing(5);
    }

    private static void lockBounds() {
        Rig rig = new Rig("a lock");
        rig.op(Words.LOCK, 0, 0, 0).op(Words.LOCK, 0, 0, 3).op(Words.LOCK, 0, 0, 3).object(0, Words.HOLDER, -1)
            .object(3, Words.HOLDER, -1).run(3).object(0, Words.HOLDER, 0).object(0, Words.LOCK_ROW, 0)
            .object(3, Words.HOLDER, 0).object(3, Words.LOCK_ROW, 1).object(1, Words.HOLDER, -1)
            .badObject(4, Words.HOLDER).badObject(4, Words.LOCK_ROW);
        for (int x : FAR) {
            rig.badObject(x, Words.HOLDER).badObject(x, Words.LOCK_ROW).badObject(0, x);
        }
    }

    private static void channelBounds() {
        Rig rig = new Rig("a channel");
        rig.op(Words.SEND, 0, 0, 0).op(Words.SEND, 0, 0, 0).op(Words.SEND, 0, 0, 0).object(0, Words.INTS, 0).run(3)
            .object(0, Words.INTS, 2).object(0, Words.SENDERS, 1).object(0, Words.RECEIVERS, 0)
            .badObject(4, Words.INTS).badObject(0, 5).badObject(4, 5);
        for (int x : FAR) {
            rig.badObject(x, Words.INTS).badObject(x, Words.SENDERS).badObject(x, Words.RECEIVERS).badObject(3, x);
        }
        new Rig("another channel").rest().run(1).object(3, Words.RECEIVERS, 1).object(3, Words.SENDERS, 0)
            .object(3, Words.INTS, 0).object(0, Words.RECEIVERS, 0);
    }
}
