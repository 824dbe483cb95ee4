/** Promise 10: what is counted, and -2 for all else. */
public final class CountTest {
    public static void main(String[] args) {
        elseMinusTwo();
        ticksAndIdle();
        trappedAndBlockedInstructions();
        takenFromTheRow();
        spawnedAndReaped();
        freeFrames();
        Check.end();
    }

    private static void elseMinusTwo() {
        Rig rig = new Rig("else");
        int[] others = {-1, -2, 8, 9, 12, 13, 19, 22, 30, 100, Integer.MIN_VALUE, Integer.MAX_VALUE};
        for (int what : others) {
            rig.count(what, -2);
        }
    }

    private static void ticksAndIdle() {
        Rig rig = new Rig("ticks and idle processors");
        rig.set(0, 1).op(Words.SPAWN, 1, 3, 16).op(Words.RECEIVE, 0, 0, 0).at(16).set(0, 1).set(0, 1).set(0, 1)
            .set(0, 1).op(Words.SEND, 0, 0, 0).halt();
        rig.run(1).count(Words.TICKS, 1).count(Words.IDLE, 1).run(1).count(Words.IDLE, 1).run(1)
            .count(Words.IDLE, 1).run(3).count(Words.TICKS, 6).count(Words.IDLE, 4).count(Words.INSTRUCTIONS, 8)
            .runs(300, 1).count(Words.TICKS, 7).count(Words.IDLE, 4).count(Words.INSTRUCTIONS, 10);
    }

    private static void trappedAndBlockedInstructions() {
        new Rig("trapped").op(Words.HANDLE, 0, 0, 4).op(Words.LOAD, 0, 0, -1).at(4).op(Words.MAP, 0, 0, 4).runs(9, 3)
            .count(Words.INSTRUCTIONS, 3).count(Words.TRAPS, 2);
        new Rig("blocked").op(Words.RECEIVE, 0, 0, 0).run(1).count(Words.INSTRUCTIONS, 1).count(Words.TRAPS, 0)
            .stuck(5).count(Words.INSTRUCTIONS, 1).count(Words.TICKS, 1);
    }

    private static void takenFromTheRow() {
        new Rig("taken").set(0, 1).set(0, 1).set(0, 1).op(Words.YIELD, 0, 0, 0).op(Words.YIELD, 0, 0, 0).halt()
            .run(3).count(Words.TAKEN, 1).run(1).count(Words.TAKEN, 2).run(1).count(Words.TAKEN, 3).run(1)
            .count(Words.TAKEN, 4).runs(5, 0).count(Words.TAKEN, 4);
    }

    private static void spawnedAndReaped() {
        // Four times: a child comes, ends in the same tick and is reaped; a second reap finds none.
        Rig rig = new Rig("spawned and reaped");
        rig.set(1, 4).set(2, 1).op(Words.SPAWN, 0, 3, 16).op(Words.REAP, 0, 3, 0).op(Words.REAP, 0, 3, 0)
            .op(Words.SUBTRACT, 1, 2, 0).op(Words.GO_IF_BELOW, 3, 1, 2).halt().at(16).halt();
        rig.runs(300, 23).count(Words.SPAWNED, 4).count(Words.REAPED, 4).missing(1).told(0, Words.QUOTA, 12)
            .count(Words.TRAPS, 0);
    }

    private static void freeFrames() {
        // Three guests with four pages each use every frame; two of them then end.
        Rig rig = new Rig("no frame free");
        rig.set(3, 4).op(Words.SPAWN, 0, 3, 16).op(Words.SPAWN, 0, 3, 16).op(Words.GO_IF_BELOW, 2, 3, 16)
            .at(16).op(Words.MAP, 1, 0, 0).op(Words.MAP, 1, 0, 1).op(Words.MAP, 1, 0, 2).op(Words.MAP, 1, 0, 3)
            .op(Words.LOCK, 0, 0, 0).op(Words.RECEIVE, 0, 0, 0);
        rig.stuck(40).count(Words.FREE, 0).told(0, Words.USED, 4).told(1, Words.USED, 4).told(2, Words.USED, 4);
    }
}
