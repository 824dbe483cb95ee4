/** A TICK: who is at hand, for how long, and how the READY ROWS are kept. */
public final class ScheduleTest {
    public static void main(String[] args) {
        threeInstructionsOfTime();
        yieldGivesUpTheRest();
        newTimeAfterBlocking();
        takesTurns();
        spawnedBeforeTheOneThatSpawns();
        wokenBeforeTheOneThatWakes();
        processorZeroIsFirst();
        numberTellsTheProcessor();
        Check.end();
    }

    private static void threeInstructionsOfTime() {
        Rig rig = new Rig("three instructions");
        rig.set(0, 1).set(0, 2).set(0, 3).set(0, 4);
        rig.run(1).count(10, 0).told(0, Words.STATE, Words.AT_HAND).count(20, 0).count(Words.TAKEN, 1).run(1)
            .count(10, 0).count(Words.TAKEN, 1).run(1).count(10, -1).told(0, Words.STATE, Words.READY).count(20, 1)
            .count(Words.TAKEN, 1).run(1).count(10, 0).count(Words.TAKEN, 2).register(0, 0, 4);
    }

    private static void yieldGivesUpTheRest() {
        new Rig("yield").op(Words.YIELD, 0, 0, 0).set(0, 2).op(Words.YIELD, 0, 0, 0).set(0, 3).set(0, 4).set(0, 5)
            .run(1).count(10, -1).count(20, 1).told(0, Words.PLACE, 1).count(Words.TAKEN, 1).run(2)
            .count(10, -1).count(Words.TAKEN, 2).run(2).count(10, 0).run(1).count(10, -1).count(Words.TAKEN, 3)
            .told(0, Words.PLACE, 6);
    }

    private static void newTimeAfterBlocking() {
        // Guest 0 blocks with its second instruction and has three anew when it's taken again.
        Rig rig = new Rig("new time");
        rig.op(Words.SPAWN, 0, 3, 16).op(Words.RECEIVE, 0, 0, 0).set(1, 1).set(1, 2).set(1, 3).set(1, 4)
            .at(16).set(1, 1).op(Words.SEND, 0, 0, 0);
        rig.run(2).count(10, -1).told(0, Words.STATE, Words.READY).run(2).count(10, 0).run(1).count(10, -1)
            .register(0, 1, 3).count(20, 1);
    }

    private static void takesTurns() {
        // Guests 0, 2 and 4 count on processor 0, three instructions each in turn.
        Rig rig = new Rig("turns");
        rig.op(Words.SPAWN, 1, 3, 28).op(Words.SPAWN, 1, 3, 16).op(Words.SPAWN, 1, 3, 28).op(Words.SPAWN, 1, 3, 16)
            .op(Words.GO_IF_ZERO, 3, 0, 16).at(16).op(Words.ADD_NUMBER, 2, 2, 1).op(Words.GO_IF_ZERO, 3, 0, 16)
            .at(28).op(Words.RECEIVE, 0, 0, 0);
        rig.run(3).count(20, 2).run(1).count(10, 2).run(2).register(2, 2, 2).count(10, -1).count(20, 2).run(1)
            .count(10, 0).told(4, Words.STATE, Words.READY).run(2).register(0, 2, 1).count(20, 3).run(1)
            .count(10, 2).run(2).register(2, 2, 3).run(3).register(4, 2, 2).run(1).count(10, 0).count(20, 2);
    }

    private static void spawnedBeforeTheOneThatSpawns() {
        new Rig("the spawned one is first in the row").op(Words.SPAWN, 1, 3, 28).set(2, 1)
            .op(Words.SPAWN, 1, 3, 16).set(2, 7).at(16).set(2, 5).at(28).op(Words.RECEIVE, 0, 0, 0).run(3)
            .count(10, -1).count(20, 2).run(1).count(10, 2).register(2, 2, 5).register(0, 2, 1);
    }

    private static void wokenBeforeTheOneThatWakes() {
        // Guest 2 waits for 0's lock; 0 unlocks it with the last instruction of its time.
        Rig rig = new Rig("the woken one is first in the row");
        rig.op(Words.LOCK, 0, 0, 0).op(Words.SPAWN, 1, 3, 28).op(Words.SPAWN, 1, 3, 16).set(2, 1).set(2, 2)
            .op(Words.UNLOCK, 0, 0, 0).set(2, 3).at(16).op(Words.LOCK, 0, 0, 0).set(2, 5)
            .at(28).op(Words.RECEIVE, 0, 0, 0);
        rig.run(7).count(10, -1).count(20, 2).run(1).count(10, 2).register(2, 2, 5).register(0, 2, 2);
    }

    private static void processorZeroIsFirst() {
        // Both come to the lock in one tick: guest 0 gets it.
        Rig rig = new Rig("processor 0 first");
        rig.op(Words.SPAWN, 1, 3, 16).set(2, 1).op(Words.LOCK, 0, 0, 0).at(16).set(2, 1).set(2, 1)
            .op(Words.LOCK, 0, 0, 0);
        rig.run(3).object(0, Words.HOLDER, 0).told(1, Words.STATE, Words.BLOCKED).count(Words.INSTRUCTIONS, 6);
        // What processor 1 makes ready for processor 0 waits for the next tick.
        Rig late = new Rig("processor 1 second");
        late.op(Words.SPAWN, 1, 3, 16).op(Words.RECEIVE, 2, 0, 0).at(16).set(2, 1).op(Words.SEND, 2, 0, 0)
            .run(2).told(0, Words.STATE, Words.READY).count(Words.INSTRUCTIONS, 4).count(Words.TAKEN, 2).run(1)
            .count(Words.TAKEN, 3);
    }

    private static void numberTellsTheProcessor() {
        Rig rig = new Rig("processors");
        for (int i = 0; i < 5; i++) {
            rig.op(Words.SPAWN, 1, 3, 16);
        }
        rig.op(Words.GO_IF_ZERO, 3, 0, 5).at(16).op(Words.GO_IF_ZERO, 3, 0, 16);
        rig.run(13).count(Words.SPAWNED, 5);
        int even = rig.kernel.count(20) + (rig.kernel.count(10) < 0 ? 0 : 1);
        int odd = rig.kernel.count(21) + (rig.kernel.count(11) < 0 ? 0 : 1);
        Check.due("guests on processor 0", 3, even);
        Check.due("guests on processor 1", 3, odd);
        for (int i = 0; i < 30; i++) {
            rig.run(1);
            Check.due("parity at hand on 0", 0, Math.max(0, rig.kernel.count(10)) % 2);
            Check.due("parity at hand on 1", 1, Math.abs(rig.kernel.count(11)) % 2);
        }
    }
}
