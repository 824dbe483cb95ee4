/** A TICK: who is at hand, for how long, and how the READY ROWS are kept. */
public final class ScheduleTest {
    public static void main(String[] args) {
        Check.sentence("A TICK: PROCESSOR 0, then 1", ScheduleTest::processorZeroIsFirst);
        Check.sentence("a PROCESSOR (its number modulo 2)", ScheduleTest::numberTellsTheProcessor);
        Check.sentence("if no GUEST is at hand, the first of its READY ROW is", ScheduleTest::takesTurns);
        Check.sentence("with 3 INSTRUCTIONS of TIME", ScheduleTest::threeInstructionsOfTime);
        Check.sentence("of TIME; none: IDLE.", ScheduleTest::idle);
        Check.sentence("It does one INSTRUCTION (then PLACE + 1, if nothing else is said", ScheduleTest::placeMovesOn);
        Check.sentence("that of one that it BLOCKED", ScheduleTest::placeOfTheBlocked);
        Check.sentence("or that came to be DEAD by 0 or 20, too", ScheduleTest::placeOfTheDead);
        Check.sentence("if it's still to go on, with no TIME left", ScheduleTest::noTimeLeft);
        Check.sentence("or by YIELD", ScheduleTest::yieldGivesUpTheRest);
        Check.sentence("it's the last of the READY ROW, and none is at hand", ScheduleTest::lastOfTheRow);
        Check.sentence("READY ones come to the end of their PROCESSOR's ROW as they become so.",
            ScheduleTest::readyOnesComeToTheEnd);
        Check.end();
    }

    private static void processorZeroIsFirst() {
        // Both come to the lock in one tick: guest 0 gets it.
        new Rig("one lock for both").op(Words.SPAWN, 1, 3, 16).set(2, 1).op(Words.LOCK, 0, 0, 0).at(16).set(2, 1).set(2, 1)
            .op(Words.LOCK, 0, 0, 0).run(3).object(0, Words.HOLDER, 0).state(1, Words.BLOCKED)
            .count(Words.INSTRUCTIONS, 6);
        // What processor 0 makes ready for processor 1 is at hand there in the same tick.
        new Rig("for processor 1").op(Words.SPAWN, 1, 3, 16).run(1).state(1, Words.DEAD).count(Words.TAKEN, 2);
        // What processor 1 makes ready for processor 0 waits for the next tick.
        new Rig("for processor 0").op(Words.SPAWN, 1, 3, 16).op(Words.RECEIVE, 2, 0, 0).at(16).set(2, 1)
            .op(Words.SEND, 2, 0, 0).run(2).state(0, Words.READY).count(Words.INSTRUCTIONS, 4).count(Words.TAKEN, 2)
            .run(1).count(Words.TAKEN, 3);
    }

    private static void numberTellsTheProcessor() {
        Rig rig = new Rig("six guests");
        for (int i = 0; i < 5; i++) {
            rig.op(Words.SPAWN, 1, 3, 16);
        }
        rig.op(Words.GO_IF_ZERO, 3, 0, 5).at(16).op(Words.GO_IF_ZERO, 3, 0, 16).run(13).count(Words.SPAWNED, 5);
        Check.due("guests on processor 0", 3, rig.counted(20) + (rig.counted(10) < 0 ? 0 : 1));
        Check.due("guests on processor 1", 3, rig.counted(21) + (rig.counted(11) < 0 ? 0 : 1));
        for (int i = 0; i < 30; i++) {
            rig.run(1);
            Check.due("parity at hand on 0", 0, Math.max(0, rig.counted(10)) % 2);
            Check.due("parity at hand on 1", 1, Math.abs(rig.counted(11)) % 2);
        }
        new Rig("guest 5").op(Words.SPAWN, 1, 3, 16).op(Words.SPAWN, 1, 3, 17).op(Words.SPAWN, 1, 3, 16)
            .op(Words.SPAWN, 1, 3, 17).op(Words.SPAWN, 1, 3, 20).op(Words.GO_IF_ZERO, 3, 0, 5).at(16).rest().rest()
            .at(20).op(Words.GO_IF_ZERO, 3, 0, 20).run(19).count(10, 0).state(5, Words.AT_HAND).count(11, 5);
    }

    private static void takesTurns() {
        // Guests 0, 2 and 4 count on processor 0, three instructions each in turn.
        Rig rig = new Rig("turns");
        rig.op(Words.SPAWN, 1, 3, 28).op(Words.SPAWN, 1, 3, 16).op(Words.SPAWN, 1, 3, 28).op(Words.SPAWN, 1, 3, 16)
            .op(Words.GO_IF_ZERO, 3, 0, 16).at(16).op(Words.ADD_NUMBER, 2, 2, 1).op(Words.GO_IF_ZERO, 3, 0, 16)
            .at(28).rest();
        rig.run(3).count(20, 2).run(1).count(10, 2).run(2).register(2, 2, 2).count(10, -1).count(20, 2).run(1)
            .count(10, 0).state(4, Words.READY).run(2).register(0, 2, 1).count(20, 3).run(1)
            .count(10, 2).run(2).register(2, 2, 3).run(3).register(4, 2, 2).run(1).count(10, 0).count(20, 2);
        // One that is at hand stays so, though another is ready.
        new Rig("one at hand").op(Words.SPAWN, 1, 3, 28).op(Words.SPAWN, 1, 3, 16).set(2, 1).at(16).rest().at(28).rest()
            .run(2).count(10, 0).state(2, Words.READY).run(1).register(0, 2, 1).state(2, Words.READY);
    }

    private static void threeInstructionsOfTime() {
        new Rig("three instructions").set(0, 1).set(0, 2).set(0, 3).set(0, 4).run(1).count(10, 0)
            .state(0, Words.AT_HAND).count(20, 0).count(Words.TAKEN, 1).run(1).count(10, 0).count(Words.TAKEN, 1).run(1)
            .count(10, -1).state(0, Words.READY).count(20, 1).count(Words.TAKEN, 1).run(1).count(10, 0)
            .count(Words.TAKEN, 2).register(0, 0, 4);
        // Guest 0 blocks with its second instruction and has three anew when it's taken again.
        new Rig("new time after blocking").op(Words.SPAWN, 0, 3, 16).op(Words.RECEIVE, 0, 0, 0).set(1, 1).set(1, 2)
            .set(1, 3).set(1, 4).at(16).set(1, 1).op(Words.SEND, 0, 0, 0).run(2).count(10, -1).state(0, Words.READY)
            .run(2).count(10, 0).run(1).count(10, -1).register(0, 1, 3).count(20, 1);
        new Rig("new time after a yield").set(1, 1).yield().set(1, 2).set(1, 3).set(1, 4).run(4).count(10, 0).run(1)
            .count(10, -1).count(Words.TAKEN, 2);
    }

    private static void idle() {
        new Rig("guest 0 alone").set(0, 1).set(0, 1).halt().run(2).count(Words.IDLE, 2).run(1).count(Words.IDLE, 3)
            .count(11, -1).runs(5, 0).count(Words.IDLE, 3);
        // Guest 0 is blocked: processor 0 is idle while 1 goes on.
        new Rig("guest 1 alone").op(Words.SPAWN, 1, 3, 16).rest().at(16).op(Words.GO_IF_ZERO, 3, 0, 16).run(2)
            .count(Words.IDLE, 0).run(1).count(Words.IDLE, 1).count(10, -1).run(5).count(Words.IDLE, 6)
            .count(Words.TICKS, 8).count(Words.INSTRUCTIONS, 10);
        // Where the one at hand ends, its processor was not idle in that tick, though another is ready.
        new Rig("an end").op(Words.SPAWN, 1, 3, 16).op(Words.SPAWN, 1, 3, 17).halt().at(16).rest().rest().run(3)
            .count(Words.IDLE, 2).state(2, Words.READY).run(1).count(Words.IDLE, 3).state(2, Words.BLOCKED);
    }

    private static void placeMovesOn() {
        new Rig("one place after another").set(0, 1).op(Words.MAP, 1, 0, 0).op(Words.SEND, 0, 0, 0).yield().run(1)
            .told(0, Words.PLACE, 1).run(1).told(0, Words.PLACE, 2).run(1).told(0, Words.PLACE, 3).run(1)
            .told(0, Words.PLACE, 4);
        new Rig("a target").op(Words.GO_IF_ZERO, 0, 0, 20).run(1).told(0, Words.PLACE, 20);
        new Rig("a target that is itself").op(Words.GO_IF_ZERO, 0, 0, 0).run(2).told(0, Words.PLACE, 0);
        new Rig("a target not taken").set(0, 1).op(Words.GO_IF_ZERO, 0, 0, 20).run(2).told(0, Words.PLACE, 2);
    }

    private static void placeOfTheBlocked() {
        new Rig("a receiver").rest().run(1).state(0, Words.BLOCKED).told(0, Words.PLACE, 1);
        new Rig("a sender").op(Words.SEND, 0, 0, 0).op(Words.SEND, 0, 0, 0).op(Words.SEND, 0, 0, 0).run(3)
            .state(0, Words.BLOCKED).told(0, Words.PLACE, 3);
        new Rig("a locker").op(Words.LOCK, 0, 0, 0).op(Words.LOCK, 0, 0, 0).run(2).state(0, Words.BLOCKED)
            .told(0, Words.PLACE, 2);
    }

    private static void placeOfTheDead() {
        new Rig("halt").set(0, 1).halt().run(2).state(0, Words.DEAD).told(0, Words.PLACE, 2);
        new Rig("exit").set(0, 1).op(Words.EXIT, 0, 0, 9).run(2).state(0, Words.DEAD).told(0, Words.PLACE, 2);
        new Rig("halt at place 31").op(Words.GO_IF_ZERO, 0, 0, 31).run(2).state(0, Words.DEAD).told(0, Words.PLACE, 0);
    }

    private static void noTimeLeft() {
        new Rig("blocked as the third").set(0, 1).set(0, 1).rest().run(3).state(0, Words.BLOCKED).count(10, -1)
            .count(20, 0);
        new Rig("dead as the third").set(0, 1).set(0, 1).halt().run(3).state(0, Words.DEAD).count(10, -1).count(20, 0);
        new Rig("dead by a trap as the third").set(0, 1).set(0, 1).op(Words.UNLOCK, 0, 0, 0).run(3).state(0, Words.DEAD)
            .count(10, -1).count(20, 0);
        new Rig("a jump as the third").set(1, 1).set(1, 1).op(Words.GO_IF_ZERO, 0, 0, 9).run(3).state(0, Words.READY)
            .count(10, -1).count(20, 1).told(0, Words.PLACE, 9);
        new Rig("a yield as the third").set(1, 1).set(1, 1).yield().run(3).state(0, Words.READY).count(10, -1)
            .count(20, 1).count(Words.TAKEN, 1);
    }

    private static void yieldGivesUpTheRest() {
        new Rig("yield").yield().set(0, 2).yield().set(0, 3).set(0, 4).set(0, 5)
            .run(1).count(10, -1).count(20, 1).state(0, Words.READY).told(0, Words.PLACE, 1).count(Words.TAKEN, 1).run(2)
            .count(10, -1).count(Words.TAKEN, 2).run(2).count(10, 0).run(1).count(10, -1).count(Words.TAKEN, 3)
            .told(0, Words.PLACE, 6);
    }

    private static void lastOfTheRow() {
        // Guest 0 yields, 2 and 4 are ready before it.
        Rig rig = new Rig("behind two others");
        rig.op(Words.SPAWN, 1, 3, 28).op(Words.SPAWN, 1, 3, 16).yield().op(Words.SPAWN, 1, 3, 28)
            .op(Words.SPAWN, 1, 3, 16).yield().set(2, 9).at(16).yield().op(Words.GO_IF_ZERO, 3, 0, 16).at(28).rest();
        rig.run(3).count(20, 2).count(10, -1).run(1).count(10, -1).count(20, 2).told(2, Words.PLACE, 17).run(2)
            .count(10, 0).count(20, 2).run(1).count(10, -1).count(20, 3).told(0, Words.PLACE, 6).run(1).count(10, 2).run(1)
            .count(10, -1).run(1).told(4, Words.PLACE, 17).register(0, 2, 0).run(1).count(10, 0).register(0, 2, 9);
    }

    private static void readyOnesComeToTheEnd() {
        new Rig("the spawned one is before the one that spawns").op(Words.SPAWN, 1, 3, 28).set(2, 1)
            .op(Words.SPAWN, 1, 3, 16).set(2, 7).at(16).set(2, 5).at(28).rest().run(3)
            .count(10, -1).count(20, 2).run(1).count(10, 2).register(2, 2, 5).register(0, 2, 1);
        // Guest 2 waits for 0's lock; 0 unlocks it with the last instruction of its time.
        new Rig("the woken one is before the one that wakes").op(Words.LOCK, 0, 0, 0).op(Words.SPAWN, 1, 3, 28)
            .op(Words.SPAWN, 1, 3, 16).set(2, 1).set(2, 2).op(Words.UNLOCK, 0, 0, 0).set(2, 3)
            .at(16).op(Words.LOCK, 0, 0, 0).set(2, 5).at(28).rest()
            .run(7).count(10, -1).count(20, 2).run(1).count(10, 2).register(2, 2, 5).register(0, 2, 2);
        // 4 is ready already when 0 unlocks for 2: 2 comes behind 4.
        new Rig("the woken one is behind one that was ready").op(Words.LOCK, 0, 0, 0).op(Words.SPAWN, 1, 3, 28)
            .op(Words.SPAWN, 1, 3, 16).op(Words.SPAWN, 1, 3, 28).op(Words.SPAWN, 1, 3, 20).op(Words.UNLOCK, 0, 0, 0)
            .rest().at(16).op(Words.LOCK, 0, 0, 0).rest().at(20).set(2, 5).rest().at(28).rest()
            .run(7).count(20, 3).count(10, -1).run(1).count(10, 4).register(4, 2, 5).state(2, Words.READY);
    }
}
