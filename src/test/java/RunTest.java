/** Promise 3: how many TICKS are run, and when they end. */
public final class RunTest {
    public static void main(String[] args) {
        badNumbers();
        endsWhenAllAreDead();
        runsAllTicks();
        stuckAtTheBeginOnly();
        stuckMidway();
        stuckBesideTheDead();
        blockedBesideOneThatGoesOn();
        Check.end();
    }

    private static void badNumbers() {
        Rig rig = new Rig("bad numbers");
        int[] bad = {0, -1, 301, Integer.MIN_VALUE, Integer.MAX_VALUE};
        for (int n : bad) {
            Check.bad("run(" + n + ")", () -> rig.kernel.run(n));
        }
        rig.count(Words.TICKS, 0).told(0, Words.STATE, Words.READY);
        rig.runs(1, 1);
        for (int n : bad) {
            Check.bad("run(" + n + ") after the end", () -> rig.kernel.run(n));
        }
        Rig stuck = new Rig("bad numbers, stuck");
        stuck.op(Words.RECEIVE, 0, 0, 0).run(1);
        for (int n : bad) {
            Check.bad("run(" + n + ") when stuck", () -> stuck.kernel.run(n));
        }
    }

    private static void endsWhenAllAreDead() {
        new Rig("the end").set(0, 1).set(0, 2).halt().runs(300, 3).count(Words.TICKS, 3).runs(1, 0).runs(300, 0)
            .count(Words.TICKS, 3).count(Words.IDLE, 3);
        new Rig("the end in the last tick").set(0, 1).halt().runs(2, 2).runs(2, 0);
    }

    private static void runsAllTicks() {
        Rig rig = new Rig("an endless loop");
        rig.op(Words.GO_IF_ZERO, 0, 0, 0);
        rig.runs(300, 300).count(Words.TICKS, 300).runs(1, 1).count(Words.TICKS, 301)
            .count(Words.INSTRUCTIONS, 301).count(Words.IDLE, 301).told(0, Words.PLACE, 0);
    }

    private static void stuckAtTheBeginOnly() {
        new Rig("stuck").op(Words.RECEIVE, 0, 0, 0).runs(1, 1).told(0, Words.STATE, Words.BLOCKED)
            .stuck(1).stuck(300).count(Words.TICKS, 1).count(Words.IDLE, 1).told(0, Words.STATE, Words.BLOCKED);
    }

    private static void stuckMidway() {
        new Rig("stuck midway").set(0, 4).set(1, 5).op(Words.RECEIVE, 0, 0, 3).stuck(10).count(Words.TICKS, 3)
            .register(0, 0, 4).register(0, 1, 5).object(3, Words.RECEIVERS, 1).told(0, Words.PLACE, 3);
    }

    private static void stuckBesideTheDead() {
        new Rig("one dead, one blocked").op(Words.SPAWN, 1, 0, 8).halt().at(8).op(Words.RECEIVE, 0, 0, 0)
            .stuck(9).told(0, Words.STATE, Words.DEAD).told(1, Words.STATE, Words.BLOCKED).count(Words.TICKS, 2);
    }

    private static void blockedBesideOneThatGoesOn() {
        new Rig("one blocked, one going on").op(Words.SPAWN, 1, 0, 8).op(Words.GO_IF_ZERO, 0, 0, 1)
            .at(8).op(Words.RECEIVE, 0, 0, 0).runs(40, 40).told(1, Words.STATE, Words.BLOCKED);
    }
}
