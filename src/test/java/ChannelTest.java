/** CHANNELS and their ROWS (OPs 16 and 17). */
public final class ChannelTest {
    private static final int[] WRONG = {-1, 4, 5, Integer.MIN_VALUE, Integer.MAX_VALUE};

    public static void main(String[] args) {
        Check.sentence("16 SEND a through CHANNEL n (0 .. 3, else TRAP 4)", ChannelTest::sendThroughWrongChannels);
        Check.sentence("17 RECEIVE a from it.", ChannelTest::receiveFromWrongChannels);
        Check.sentence("CHANNELS hold at most 2 ints, in order.", ChannelTest::holdsTwoInOrder);
        Check.sentence("SEND to a full one BLOCKS the GUEST in the CHANNEL's ROW of senders", ChannelTest::fullBlocks);
        Check.sentence("RECEIVE from an empty one in that of receivers", ChannelTest::emptyBlocks);
        Check.sentence("When an int comes to an empty CHANNEL for which receivers wait", ChannelTest::comesToReceivers);
        Check.sentence("the first one gets it at once", ChannelTest::receiversInOrder);
        Check.sentence("when one is taken from a full one, the first sender's comes in", ChannelTest::takenFromFull);
        Check.sentence("the first sender's comes in", ChannelTest::sendersInOrder);
        Check.sentence("these are READY then, their INSTRUCTION done", ChannelTest::wokenAreReadyAndDone);
        Check.end();
    }

    private static void sendThroughWrongChannels() {
        for (int n : WRONG) {
            new Rig("send through " + n).set(0, 9).op(Words.SEND, 0, 0, n).run(2).told(0, Words.OUTCOME, -104)
                .object(0, Words.INTS, 0).object(3, Words.INTS, 0).object(1, Words.INTS, 0);
        }
        Rig rig = new Rig("four channels");
        for (int k = 0; k < 4; k++) {
            rig.set(0, 10 + k).op(Words.SEND, 0, 0, k);
        }
        for (int k = 0; k < 4; k++) {
            rig.op(Words.RECEIVE, k, 0, 3 - k);
        }
        rig.run(8);
        for (int k = 0; k < 4; k++) {
            rig.object(k, Words.INTS, 1);
        }
        rig.run(4).registers(0, 13, 12, 11, 10).count(Words.TRAPS, 0);
    }

    private static void receiveFromWrongChannels() {
        for (int n : WRONG) {
            new Rig("receive from " + n).set(0, 9).op(Words.SEND, 0, 0, 0).op(Words.SEND, 0, 0, 3)
                .op(Words.RECEIVE, 0, 0, n).run(4).told(0, Words.OUTCOME, -104).register(0, 0, 9)
                .object(0, Words.INTS, 1).object(3, Words.INTS, 1).object(0, Words.RECEIVERS, 0);
        }
        for (int a = 0; a < 4; a++) {
            new Rig("receive into " + a).set(1, 41).op(Words.SEND, 1, 0, 3).set(1, 0).op(Words.RECEIVE, a, 0, 3).run(4)
                .register(0, a, 41).register(0, (a + 1) % 4, 0).object(3, Words.INTS, 0);
        }
    }

    private static void holdsTwoInOrder() {
        new Rig("two ints").set(0, 5).set(1, 6).op(Words.SEND, 0, 0, 2).op(Words.SEND, 1, 0, 2)
            .op(Words.RECEIVE, 2, 0, 2).op(Words.RECEIVE, 3, 0, 2).run(3).object(2, Words.INTS, 1).run(1)
            .object(2, Words.INTS, 2).object(2, Words.SENDERS, 0).state(0, Words.AT_HAND).run(1)
            .object(2, Words.INTS, 1).run(1).object(2, Words.INTS, 0).registers(0, 5, 6, 5, 6);
        new Rig("a third after the first is taken").set(0, 5).op(Words.SEND, 0, 0, 0).set(0, 6).op(Words.SEND, 0, 0, 0)
            .op(Words.RECEIVE, 1, 0, 0).set(0, 7).op(Words.SEND, 0, 0, 0).op(Words.RECEIVE, 2, 0, 0)
            .op(Words.RECEIVE, 3, 0, 0).run(9).registers(0, 7, 5, 6, 7).object(0, Words.INTS, 0);
        new Rig("a third").op(Words.SEND, 0, 0, 0).op(Words.SEND, 0, 0, 0).op(Words.SEND, 0, 0, 0).run(3)
            .object(0, Words.INTS, 2);
    }

    private static void fullBlocks() {
        new Rig("a full channel").op(Words.SEND, 0, 0, 1).op(Words.SEND, 0, 0, 1).op(Words.SEND, 0, 0, 1).run(2)
            .state(0, Words.AT_HAND).object(1, Words.SENDERS, 0).run(1).state(0, Words.BLOCKED)
            .object(1, Words.INTS, 2).object(1, Words.SENDERS, 1).object(1, Words.RECEIVERS, 0)
            .object(0, Words.SENDERS, 0).count(10, -1).count(20, 0).stuck(1);
        // All six come to the one channel; two ints fit.
        Rig all = new Rig("six senders");
        for (int i = 0; i < 5; i++) {
            all.op(Words.SPAWN, 0, 1, 6);
        }
        all.op(Words.SEND, 0, 0, 2).op(Words.SEND, 0, 0, 2).op(Words.GO_IF_ZERO, 1, 0, 6).stuck(60)
            .object(2, Words.INTS, 2).object(2, Words.SENDERS, 6).object(2, Words.RECEIVERS, 0);
        for (int g = 0; g < 6; g++) {
            all.state(g, Words.BLOCKED);
        }
    }

    private static void emptyBlocks() {
        new Rig("an empty channel").op(Words.RECEIVE, 0, 0, 1).run(1).state(0, Words.BLOCKED)
            .object(1, Words.RECEIVERS, 1).object(1, Words.SENDERS, 0).object(1, Words.INTS, 0)
            .object(0, Words.RECEIVERS, 0).count(10, -1).count(20, 0).stuck(1);
        new Rig("empty again").op(Words.SEND, 0, 0, 1).op(Words.RECEIVE, 0, 0, 1).op(Words.RECEIVE, 0, 0, 1).run(2)
            .state(0, Words.AT_HAND).run(1).state(0, Words.BLOCKED).object(1, Words.RECEIVERS, 1);
        Rig all = new Rig("six receivers");
        for (int i = 0; i < 5; i++) {
            all.op(Words.SPAWN, 0, 1, 6);
        }
        all.yield().op(Words.RECEIVE, 0, 0, 2).stuck(60).object(2, Words.RECEIVERS, 6).object(2, Words.SENDERS, 0);
        for (int g = 0; g < 6; g++) {
            all.state(g, Words.BLOCKED);
        }
    }

    private static void comesToReceivers() {
        // Guest 0 waits, guest 1 sends twice: the first int goes to 0 and is not held, the second is.
        new Rig("an int for one that waits").set(0, 7).op(Words.SPAWN, 0, 3, 16).op(Words.RECEIVE, 2, 0, 3).at(16)
            .set(1, 1).set(1, 2).op(Words.SEND, 0, 0, 3).op(Words.SEND, 1, 0, 3).run(3).object(3, Words.RECEIVERS, 1)
            .object(3, Words.INTS, 0).run(1).register(0, 2, 7).object(3, Words.RECEIVERS, 0).object(3, Words.INTS, 0)
            .run(1).object(3, Words.INTS, 1).register(0, 2, 7);
        new Rig("an int when nobody waits").set(0, 7).op(Words.SEND, 0, 0, 3).run(2).object(3, Words.INTS, 1);
    }

    private static void receiversInOrder() {
        // Guests 1 and 2 wait in this order; each gets one int, into the register of its own instruction.
        Rig rig = new Rig("two receivers");
        rig.op(Words.SPAWN, 0, 3, 16).op(Words.SPAWN, 0, 3, 18).yield().set(0, 31).set(1, 32)
            .op(Words.SEND, 0, 0, 0).op(Words.SEND, 1, 0, 0).op(Words.SEND, 1, 0, 0)
            .at(16).op(Words.RECEIVE, 2, 0, 0).rest().op(Words.RECEIVE, 3, 0, 0).rest();
        rig.run(6).object(0, Words.RECEIVERS, 2).state(1, Words.BLOCKED).state(2, Words.BLOCKED).run(1)
            .object(0, Words.RECEIVERS, 1).register(1, 2, 31).register(2, 3, 0).run(1).object(0, Words.RECEIVERS, 0)
            .register(2, 3, 32).object(0, Words.INTS, 0).run(2).object(0, Words.INTS, 1).register(1, 2, 31);
        // Guest 1 does three instructions first, so that 2 waits before it.
        Rig late = new Rig("the lesser number comes later");
        late.op(Words.SPAWN, 0, 3, 16).op(Words.SPAWN, 0, 3, 19).yield().yield().set(0, 31).set(1, 32)
            .op(Words.SEND, 0, 0, 0).op(Words.SEND, 1, 0, 0).rest().at(16).set(1, 1).set(1, 1).set(1, 1)
            .op(Words.RECEIVE, 2, 0, 0).rest().stuck(60).register(2, 2, 31).register(1, 2, 32);
    }

    private static void takenFromFull() {
        // Guest 1 fills the channel with 0 and 8 and blocks with 9; guest 0 takes them one by one.
        Rig rig = new Rig("taken from a full channel");
        rig.op(Words.SPAWN, 0, 3, 16).yield().yield().yield().yield().op(Words.RECEIVE, 1, 0, 0)
            .op(Words.RECEIVE, 2, 0, 0).op(Words.RECEIVE, 3, 0, 0).at(16).op(Words.SEND, 0, 0, 0)
            .op(Words.ADD_NUMBER, 1, 1, 8).op(Words.SEND, 1, 0, 0).set(2, 9).op(Words.SEND, 2, 0, 0)
            .op(Words.GO_IF_ZERO, 3, 0, 21);
        rig.run(5).object(0, Words.INTS, 2).object(0, Words.SENDERS, 1).run(1).register(0, 1, 0)
            .object(0, Words.INTS, 2).object(0, Words.SENDERS, 0).run(1).object(0, Words.INTS, 1).run(1)
            .registers(0, 1, 0, 8, 9).object(0, Words.INTS, 0);
    }

    private static void sendersInOrder() {
        // Guest 1 does three instructions first, so that 2, 1 and 3 come to the full channel in this order.
        Rig rig = new Rig("senders in order");
        rig.op(Words.SEND, 3, 0, 0).op(Words.SEND, 3, 0, 0).set(0, 100).op(Words.SPAWN, 0, 3, 13)
            .op(Words.ADD_NUMBER, 0, 0, 100).op(Words.SPAWN, 0, 3, 16).op(Words.ADD_NUMBER, 0, 0, 100)
            .op(Words.SPAWN, 0, 3, 16).op(Words.RECEIVE, 1, 0, 0).op(Words.RECEIVE, 1, 0, 0)
            .op(Words.RECEIVE, 1, 0, 0).op(Words.RECEIVE, 2, 0, 0).op(Words.RECEIVE, 3, 0, 0)
            .set(1, 0).set(1, 0).set(1, 0).op(Words.SEND, 0, 0, 0);
        rig.run(9).object(0, Words.SENDERS, 3).object(0, Words.INTS, 2);
        rig.run(1).object(0, Words.SENDERS, 2).object(0, Words.INTS, 2).state(2, Words.READY)
            .state(1, Words.BLOCKED).state(3, Words.BLOCKED).run(2).object(0, Words.SENDERS, 1)
            .state(1, Words.DEAD).state(3, Words.BLOCKED).run(1).register(0, 1, 101).object(0, Words.SENDERS, 0)
            .object(0, Words.INTS, 2).run(2).register(0, 2, 100).register(0, 3, 102).object(0, Words.INTS, 0);
    }

    private static void wokenAreReadyAndDone() {
        // The receiver 0 goes on behind its RECEIVE, which it does not do again.
        new Rig("a receiver").set(0, 7).op(Words.SPAWN, 0, 3, 16).op(Words.RECEIVE, 2, 0, 1).set(1, 5).at(16).set(1, 1)
            .set(1, 2).op(Words.SEND, 0, 0, 1).rest().run(3).state(0, Words.BLOCKED).told(0, Words.PLACE, 3).run(1)
            .state(0, Words.READY).count(20, 1).told(0, Words.PLACE, 3).count(Words.INSTRUCTIONS, 6).run(1)
            .register(0, 1, 5).register(0, 2, 7).object(1, Words.RECEIVERS, 0);
        // The sender 1 is at hand on processor 1 in the tick in which 0 takes an int, and goes on behind its SEND.
        new Rig("a sender").op(Words.SPAWN, 0, 3, 16).yield().yield().yield().op(Words.RECEIVE, 1, 0, 0).rest().at(16)
            .op(Words.SEND, 0, 0, 0).op(Words.SEND, 0, 0, 0).op(Words.SEND, 0, 0, 0).set(2, 5).rest().run(4)
            .state(1, Words.BLOCKED).told(1, Words.PLACE, 19).run(1).state(1, Words.AT_HAND).told(1, Words.PLACE, 20)
            .register(1, 2, 5).object(0, Words.INTS, 2).object(0, Words.SENDERS, 0);
        Rig in = new Rig("a receiver whose code is written anew");
        in.set(0, 7).op(Words.SPAWN, 0, 3, 16).op(Words.RECEIVE, 2, 0, 3).at(16).set(1, 1).set(1, 2)
            .op(Words.SEND, 0, 0, 3).run(3).at(2).op(Words.RECEIVE, 1, 0, 2).run(1).register(0, 2, 7)
            .register(0, 1, 0).object(2, Words.RECEIVERS, 0).state(0, Words.READY);
        Rig out = new Rig("a sender whose code is written anew");
        out.op(Words.SEND, 0, 0, 0).op(Words.SEND, 0, 0, 0).op(Words.SPAWN, 0, 3, 16).op(Words.RECEIVE, 0, 0, 1)
            .at(16).set(1, 41).op(Words.SEND, 1, 0, 0).at(20).op(Words.RECEIVE, 2, 0, 0)
            .op(Words.RECEIVE, 2, 0, 0).op(Words.RECEIVE, 2, 0, 0);
        out.run(3).at(3).op(Words.GO_IF_ZERO, 3, 0, 20).run(1).state(1, Words.BLOCKED)
            .at(17).op(Words.SEND, 2, 0, 2).run(3).register(0, 2, 41).object(2, Words.INTS, 0)
            .object(0, Words.INTS, 0);
    }
}
