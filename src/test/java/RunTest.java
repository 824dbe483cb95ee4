/** Promise 3: how many TICKS are run, and when they end. */
public final class RunTest {
    private static final int[] BAD = {0, -1, 301, Integer.MIN_VALUE, Integer.MAX_VALUE};

    public static void main(String[] args) {
        Check.sentence("n TICKS (1 .. 300)", RunTest::mostAndLeast);
        Check.sentence("`int run(int n) throws IllegalArgumentException, IllegalStateException`", RunTest::badNumbers);
        Check.sentence("until all GUESTS are DEAD or ABSENT", RunTest::endsWhenAllAreDead);
        Check.sentence("STUCK is thrown when a TICK would begin so.", RunTest::stuckAtTheBeginOnly);
        Check.sentence("STUCK is IllegalStateException: no GUEST is READY or at hand, but one is BLOCKED.",
            RunTest::stuckBesideOthers);
        Check.sentence("Answers how many.", RunTest::answersHowMany);
        Check.end();
    }

    private static void mostAndLeast() {
        new Rig("an endless loop").op(Words.GO_IF_ZERO, 0, 0, 0).runs(1, 1).count(Words.TICKS, 1).runs(300, 300)
            .count(Words.TICKS, 301).count(Words.INSTRUCTIONS, 301).state(0, Words.AT_HAND).badRun(0).badRun(301)
            .count(Words.TICKS, 301);
    }

    private static void badNumbers() {
        Rig fresh = new Rig("a new object");
        Rig dead = new Rig("all are dead");
        dead.run(1);
        Rig stuck = new Rig("stuck");
        stuck.rest().run(1);
        for (int n : BAD) {
            fresh.badRun(n);
            dead.badRun(n);
            stuck.badRun(n);
        }
        fresh.count(Words.TICKS, 0).count(Words.INSTRUCTIONS, 0).state(0, Words.READY);
        stuck.count(Words.TICKS, 1).state(0, Words.BLOCKED);
    }

    private static void endsWhenAllAreDead() {
        new Rig("the end").set(0, 1).set(0, 2).halt().runs(300, 3).count(Words.TICKS, 3).runs(1, 0).runs(300, 0)
            .count(Words.TICKS, 3).count(Words.IDLE, 3).count(Words.INSTRUCTIONS, 3);
        new Rig("the end in the last tick").set(0, 1).halt().runs(2, 2).runs(2, 0);
        new Rig("the last of two").op(Words.SPAWN, 1, 0, 8).halt().at(8).set(0, 1).set(0, 1).set(0, 1).halt()
            .runs(300, 4).state(0, Words.DEAD).state(1, Words.DEAD).runs(300, 0);
        new Rig("one that is reaped is absent").op(Words.SPAWN, 1, 0, 8).op(Words.REAP, 2, 3, 0).halt().at(8).halt()
            .runs(300, 3).missing(1).runs(300, 0);
    }

    private static void stuckAtTheBeginOnly() {
        new Rig("stuck after the last tick").rest().runs(1, 1).state(0, Words.BLOCKED).stuck(1).stuck(300)
            .count(Words.TICKS, 1).count(Words.IDLE, 1).state(0, Words.BLOCKED);
        new Rig("stuck after some ticks").set(0, 4).set(1, 5).op(Words.RECEIVE, 0, 0, 3).stuck(10)
            .count(Words.TICKS, 3).count(Words.INSTRUCTIONS, 3).registers(0, 4, 5, 0, 0).object(3, Words.RECEIVERS, 1)
            .told(0, Words.PLACE, 3);
        // 0 blocks first in the tick, and 1 then sends what it waits for: the next tick does not begin stuck.
        new Rig("not stuck, as one comes to be ready").op(Words.SPAWN, 1, 3, 16).op(Words.RECEIVE, 2, 0, 0).halt()
            .at(16).set(2, 1).op(Words.SEND, 2, 0, 0).halt().runs(9, 3).state(0, Words.DEAD).state(1, Words.DEAD);
    }

    private static void stuckBesideOthers() {
        new Rig("one dead, one blocked").op(Words.SPAWN, 1, 0, 8).halt().at(8).rest().stuck(9).state(0, Words.DEAD)
            .state(1, Words.BLOCKED).count(Words.TICKS, 2);
        new Rig("one blocked, one that goes on").op(Words.SPAWN, 1, 0, 8).op(Words.GO_IF_ZERO, 0, 0, 1).at(8).rest()
            .runs(40, 40).state(1, Words.BLOCKED);
        new Rig("one blocked, one ready").op(Words.SPAWN, 1, 0, 8).yield().yield().at(8).rest().run(2)
            .state(0, Words.READY).state(1, Words.BLOCKED).runs(1, 1);
        new Rig("blocked by a full channel").op(Words.SEND, 0, 0, 0).op(Words.SEND, 0, 0, 0).op(Words.SEND, 0, 0, 0)
            .stuck(9).count(Words.TICKS, 3);
        new Rig("blocked by a lock").op(Words.LOCK, 0, 0, 0).op(Words.LOCK, 0, 0, 0).stuck(9).count(Words.TICKS, 2);
        new Rig("two that block each other").op(Words.LOCK, 0, 0, 0).op(Words.SPAWN, 1, 2, 8).yield()
            .op(Words.LOCK, 0, 0, 1).at(8).op(Words.LOCK, 0, 0, 1).op(Words.LOCK, 0, 0, 0).stuck(9)
            .object(0, Words.LOCK_ROW, 1).object(1, Words.LOCK_ROW, 1).count(Words.TICKS, 4);
    }

    private static void answersHowMany() {
        Rig rig = new Rig("seven ticks").set(0, 1).set(0, 1).set(0, 1).set(0, 1).set(0, 1).set(0, 1).halt();
        rig.runs(2, 2).runs(1, 1).runs(3, 3).runs(300, 1).runs(300, 0).count(Words.TICKS, 7);
    }
}
