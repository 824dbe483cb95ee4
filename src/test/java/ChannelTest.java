/** Promise 8: CHANNELS and their ROWS (OPs 16 and 17). */
public final class ChannelTest {
    public static void main(String[] args) {
        holdsTwoInOrder();
        channelsAreApart();
        fullChannelBlocks();
        takenFromAFullOne();
        sendersInOrder();
        emptyChannelBlocks();
        receiversInOrder();
        codeWrittenWhileBlocked();
        Check.end();
    }

    private static void holdsTwoInOrder() {
        new Rig("two ints").set(0, 5).set(1, 6).op(Words.SEND, 0, 0, 2).op(Words.SEND, 1, 0, 2)
            .op(Words.RECEIVE, 2, 0, 2).op(Words.RECEIVE, 3, 0, 2).run(3).object(2, Words.INTS, 1).run(1)
            .object(2, Words.INTS, 2).object(2, Words.SENDERS, 0).run(1).register(0, 2, 5).object(2, Words.INTS, 1)
            .run(1).register(0, 3, 6).object(2, Words.INTS, 0).object(2, Words.RECEIVERS, 0)
            .register(0, 0, 5).register(0, 1, 6);
        new Rig("a ring of ints").set(0, 5).op(Words.SEND, 0, 0, 0).set(0, 6).op(Words.SEND, 0, 0, 0)
            .op(Words.RECEIVE, 1, 0, 0).set(0, 7).op(Words.SEND, 0, 0, 0).op(Words.RECEIVE, 2, 0, 0)
            .op(Words.RECEIVE, 3, 0, 0).run(9).register(0, 1, 5).register(0, 2, 6).register(0, 3, 7);
    }

    private static void channelsAreApart() {
        Rig rig = new Rig("four channels");
        for (int k = 0; k < 4; k++) {
            rig.set(0, 10 + k).op(Words.SEND, 0, 0, k);
        }
        for (int k = 0; k < 4; k++) {
            rig.op(Words.RECEIVE, k, 0, 3 - k);
        }
        rig.run(8);
        for (int k = 0; k < 4; k++) {
            rig.object(k, Words.INTS, 1);
        }
        rig.run(4);
        for (int k = 0; k < 4; k++) {
            rig.register(0, k, 13 - k).object(k, Words.INTS, 0);
        }
    }

    private static void fullChannelBlocks() {
        new Rig("a full channel").op(Words.SEND, 0, 0, 1).op(Words.SEND, 0, 0, 1).op(Words.SEND, 0, 0, 1).run(3)
            .told(0, Words.STATE, Words.BLOCKED).told(0, Words.PLACE, 3).object(1, Words.INTS, 2)
            .object(1, Words.SENDERS, 1).object(1, Words.RECEIVERS, 0).count(10, -1).count(20, 0).stuck(1);
    }

    private static void takenFromAFullOne() {
        // Guest 1 fills the channel and blocks with a third int; guest 0 takes one.
        Rig rig = new Rig("taken from a full channel");
        rig.op(Words.SPAWN, 0, 3, 16).op(Words.YIELD, 0, 0, 0).op(Words.YIELD, 0, 0, 0)
            .op(Words.YIELD, 0, 0, 0).op(Words.YIELD, 0, 0, 0).op(Words.RECEIVE, 1, 0, 0).op(Words.RECEIVE, 2, 0, 0)
            .op(Words.RECEIVE, 3, 0, 0)
            .at(16).op(Words.SEND, 0, 0, 0).op(Words.ADD_NUMBER, 1, 1, 8).op(Words.SEND, 1, 0, 0).set(2, 9)
            .op(Words.SEND, 2, 0, 0).op(Words.GO_IF_ZERO, 3, 0, 21);
        rig.run(5).object(0, Words.INTS, 2).object(0, Words.SENDERS, 1).told(1, Words.STATE, Words.BLOCKED)
            .told(1, Words.PLACE, 21).count(11, -1).count(21, 0);
        // Ready at once, it's at hand on processor 1 within the same tick.
        rig.run(1).register(0, 1, 0).object(0, Words.INTS, 2).object(0, Words.SENDERS, 0).count(11, 1)
            .told(1, Words.PLACE, 21).run(2).register(0, 2, 8).register(0, 3, 9).object(0, Words.INTS, 0);
    }

    private static void sendersInOrder() {
        // Guest 1 does three instructions first, so that 2, 1 and 3 come to the full channel in this order.
        Rig rig = new Rig("senders in order");
        rig.op(Words.SEND, 3, 0, 0).op(Words.SEND, 3, 0, 0).set(0, 100).op(Words.SPAWN, 0, 3, 13)
            .op(Words.ADD_NUMBER, 0, 0, 100).op(Words.SPAWN, 0, 3, 16).op(Words.ADD_NUMBER, 0, 0, 100)
            .op(Words.SPAWN, 0, 3, 16).op(Words.RECEIVE, 1, 0, 0).op(Words.RECEIVE, 1, 0, 0)
            .op(Words.RECEIVE, 1, 0, 0).op(Words.RECEIVE, 2, 0, 0).op(Words.RECEIVE, 3, 0, 0)
            .set(1, 0).set(1, 0).set(1, 0).op(Words.SEND, 0, 0, 0);
        rig.run(9).object(0, Words.SENDERS, 3).object(0, Words.INTS, 2);
        rig.run(1).object(0, Words.SENDERS, 2).object(0, Words.INTS, 2).told(2, Words.STATE, Words.READY)
            .told(1, Words.STATE, Words.BLOCKED).told(3, Words.STATE, Words.BLOCKED).run(2)
            .object(0, Words.SENDERS, 1).told(1, Words.STATE, Words.DEAD).told(3, Words.STATE, Words.BLOCKED)
            .run(1).register(0, 1, 101).object(0, Words.SENDERS, 0).object(0, Words.INTS, 2).run(2)
            .register(0, 2, 100).register(0, 3, 102).object(0, Words.INTS, 0);
    }

    private static void emptyChannelBlocks() {
        // Guest 0 waits, guest 1 sends: 0 is ready at once, its instruction done, and nothing stays behind.
        Rig rig = new Rig("an empty channel");
        rig.set(0, 7).op(Words.SPAWN, 0, 3, 16).op(Words.RECEIVE, 2, 0, 3).at(16).set(1, 1).set(1, 2)
            .op(Words.SEND, 0, 0, 3).op(Words.SEND, 1, 0, 3);
        rig.run(3).told(0, Words.STATE, Words.BLOCKED).told(0, Words.PLACE, 3).object(3, Words.RECEIVERS, 1)
            .object(3, Words.INTS, 0).run(1).told(0, Words.STATE, Words.READY).register(0, 2, 7)
            .object(3, Words.RECEIVERS, 0).object(3, Words.INTS, 0).count(20, 1).told(0, Words.PLACE, 3).run(1)
            .object(3, Words.INTS, 1).told(0, Words.STATE, Words.DEAD);
    }

    private static void receiversInOrder() {
        // Guests 1 and 2 wait in this order; each gets one int, into the register of its own instruction.
        Rig rig = new Rig("receivers in order");
        rig.op(Words.SPAWN, 0, 3, 16).op(Words.SPAWN, 0, 3, 18).op(Words.YIELD, 0, 0, 0).set(0, 31).set(1, 32)
            .op(Words.SEND, 0, 0, 0).op(Words.SEND, 1, 0, 0).op(Words.SEND, 1, 0, 0)
            .at(16).op(Words.RECEIVE, 2, 0, 0).op(Words.RECEIVE, 0, 0, 3).op(Words.RECEIVE, 3, 0, 0)
            .op(Words.RECEIVE, 0, 0, 3);
        rig.run(6).object(0, Words.RECEIVERS, 2).told(1, Words.STATE, Words.BLOCKED)
            .told(2, Words.STATE, Words.BLOCKED).run(1).object(0, Words.RECEIVERS, 1).register(1, 2, 31)
            .register(2, 3, 0).run(1).object(0, Words.RECEIVERS, 0).register(2, 3, 32).told(2, Words.STATE, Words.READY)
            .object(0, Words.INTS, 0).run(2).object(0, Words.INTS, 1).register(1, 2, 31);
    }

    private static void codeWrittenWhileBlocked() {
        Rig in = new Rig("a receiver whose code is written anew");
        in.set(0, 7).op(Words.SPAWN, 0, 3, 16).op(Words.RECEIVE, 2, 0, 3).at(16).set(1, 1).set(1, 2)
            .op(Words.SEND, 0, 0, 3).run(3).at(2).op(Words.RECEIVE, 1, 0, 2).run(1).register(0, 2, 7)
            .register(0, 1, 0).object(2, Words.RECEIVERS, 0).told(0, Words.STATE, Words.READY);
        Rig out = new Rig("a sender whose code is written anew");
        out.op(Words.SEND, 0, 0, 0).op(Words.SEND, 0, 0, 0).op(Words.SPAWN, 0, 3, 16).op(Words.RECEIVE, 0, 0, 1)
            .at(16).set(1, 41).op(Words.SEND, 1, 0, 0).at(20).op(Words.RECEIVE, 2, 0, 0)
            .op(Words.RECEIVE, 2, 0, 0).op(Words.RECEIVE, 2, 0, 0);
        out.run(3).at(3).op(Words.GO_IF_ZERO, 3, 0, 20).run(1).told(1, Words.STATE, Words.BLOCKED)
            .at(17).op(Words.SEND, 2, 0, 2).run(3).register(0, 2, 41).object(2, Words.INTS, 0)
            .object(0, Words.INTS, 0);
    }
}
