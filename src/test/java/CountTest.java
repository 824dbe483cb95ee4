/** Promise 10: what is counted, and -2 for all else. */
public final class CountTest {
    public static void main(String[] args) {
        Check.sentence("TICKS (0)", CountTest::ticks);
        Check.sentence("INSTRUCTIONS done, with those that trapped and BLOCKED (1)", CountTest::instructions);
        Check.sentence("IDLE PROCESSORS in TICKS (6)", CountTest::idle);
        Check.sentence("times a GUEST was taken from its ROW to be at hand (7)", CountTest::takenFromTheRow);
        Check.sentence("the GUEST at hand on PROCESSOR what - 10 (10, 11), -1 for none", CountTest::atHand);
        Check.sentence("GUESTS in its READY ROW (20, 21)", CountTest::readyRows);
        Check.sentence("else -2", CountTest::elseMinusTwo);
        Check.end();
    }

    private static void ticks() {
        new Rig("ticks").set(0, 1).halt().count(Words.TICKS, 0).run(1).count(Words.TICKS, 1).runs(300, 1)
            .count(Words.TICKS, 2).runs(300, 0).count(Words.TICKS, 2).badRun(301).count(Words.TICKS, 2);
        new Rig("ticks before one that is stuck").set(0, 1).rest().stuck(300).count(Words.TICKS, 2).stuck(1)
            .count(Words.TICKS, 2);
    }

    private static void instructions() {
        new Rig("trapped").op(Words.HANDLE, 0, 0, 4).op(Words.LOAD, 0, 0, -1).at(4).op(Words.MAP, 0, 0, 4).run(1)
            .count(Words.INSTRUCTIONS, 1).run(1).count(Words.INSTRUCTIONS, 2).runs(9, 1).count(Words.INSTRUCTIONS, 3);
        new Rig("blocked").rest().run(1).count(Words.INSTRUCTIONS, 1).stuck(5).count(Words.INSTRUCTIONS, 1);
        // Guest 0's RECEIVE is counted once, though it is done only when 1 sends.
        new Rig("blocked and woken").op(Words.SPAWN, 1, 3, 16).op(Words.RECEIVE, 0, 0, 0).halt().at(16).set(2, 1)
            .op(Words.SEND, 2, 0, 0).halt().runs(9, 3).count(Words.INSTRUCTIONS, 6);
        new Rig("dead").halt().run(1).count(Words.INSTRUCTIONS, 1);
    }

    private static void idle() {
        Rig rig = new Rig("idle processors");
        rig.set(0, 1).op(Words.SPAWN, 1, 3, 16).op(Words.RECEIVE, 0, 0, 0).at(16).set(0, 1).set(0, 1).set(0, 1)
            .set(0, 1).op(Words.SEND, 0, 0, 0).halt();
        rig.run(1).count(Words.IDLE, 1).run(1).count(Words.IDLE, 1).run(1).count(Words.IDLE, 1).run(3)
            .count(Words.TICKS, 6).count(Words.IDLE, 4).count(Words.INSTRUCTIONS, 8).runs(300, 1)
            .count(Words.TICKS, 7).count(Words.IDLE, 4).count(Words.INSTRUCTIONS, 10);
    }

    private static void takenFromTheRow() {
        new Rig("taken").set(0, 1).set(0, 1).set(0, 1).yield().yield().halt().count(Words.TAKEN, 0)
            .run(3).count(Words.TAKEN, 1).run(1).count(Words.TAKEN, 2).run(1).count(Words.TAKEN, 3).run(1)
            .count(Words.TAKEN, 4).runs(5, 0).count(Words.TAKEN, 4);
        new Rig("taken on both").op(Words.SPAWN, 1, 3, 16).yield().at(16).yield().run(1).count(Words.TAKEN, 2).run(1)
            .count(Words.TAKEN, 3);
    }

    private static void atHand() {
        new Rig("at hand").count(10, -1).count(11, -1).op(Words.SPAWN, 1, 3, 16).yield().at(16).set(2, 1).set(2, 1).rest()
            .run(1).count(10, 0).count(11, 1).run(1).count(10, -1).count(11, 1).run(1).count(11, -1);
    }

    private static void readyRows() {
        new Rig("ready rows").count(20, 1).count(21, 0).op(Words.SPAWN, 1, 3, 16).op(Words.SPAWN, 1, 3, 16)
            .op(Words.SPAWN, 1, 3, 16).at(16).yield().op(Words.GO_IF_ZERO, 3, 0, 16).run(1).count(20, 0)
            .count(21, 1).run(1).count(20, 1).count(21, 0).run(1).count(20, 2).count(21, 2);
    }

    private static void elseMinusTwo() {
        Rig rig = new Rig("else");
        int[] others = {-1, -2, 8, 9, 12, 13, 18, 19, 22, 23, 30, 100, Integer.MIN_VALUE, Integer.MAX_VALUE};
        for (int what : others) {
            rig.count(what, -2);
        }
        rig.run(1);
        for (int what : others) {
            rig.count(what, -2);
        }
    }
}
