/** SPAWN, REAP, QUOTAS and what becomes of the CHILDREN of the DEAD (OPs 15 and 21). */
public final class FamilyTest {
    public static void main(String[] args) {
        childBeginsAnew();
        childOnTheOtherProcessorRunsAtOnce();
        quotaEdges();
        noneAbsent();
        leastAbsentNumber();
        reapAnswers();
        reapTakesOnlyOwnDeadChildren();
        reapedNumbersBeginAnew();
        childrenOfTheDead();
        deadChildrenOfTheDead();
        orphans();
        Check.end();
    }

    private static void childBeginsAnew() {
        new Rig("a child").set(2, 42).set(1, 5).op(Words.HANDLE, 0, 0, 7).op(Words.SPAWN, 3, 1, 20)
            .op(Words.SPAWN, 2, 1, 21).run(4).register(0, 3, 1).told(1, Words.PARENT, 0).told(1, Words.QUOTA, 5)
            .run(1).register(0, 2, 2).register(2, 0, 42).register(2, 1, 0).register(2, 2, 0).register(2, 3, 0)
            .told(2, Words.STATE, Words.READY).told(2, Words.PLACE, 21).told(2, Words.HANDLER, -1)
            .told(2, Words.QUOTA, 5).told(2, Words.USED, 0).told(2, Words.GIVEN, 0).told(2, Words.PARENT, 0)
            .told(2, Words.OUTCOME, 0).told(2, Words.GUEST_TRAPS, 0).page(2, 0, -1).page(2, 3, -1)
            .told(0, Words.GIVEN, 10).told(0, Words.QUOTA, 12).count(Words.SPAWNED, 2);
    }

    private static void childOnTheOtherProcessorRunsAtOnce() {
        new Rig("the other processor").op(Words.SPAWN, 0, 0, 9).at(9).set(3, 5).run(1).register(1, 3, 5)
            .told(1, Words.STATE, Words.AT_HAND).told(1, Words.PLACE, 10).count(11, 1).count(Words.IDLE, 0);
    }

    private static void quotaEdges() {
        spawnWith(0, 1, 0);
        spawnWith(11, 1, 11);
        spawnWith(12, -1, 0);
        spawnWith(-1, -1, 0);
        spawnWith(Integer.MAX_VALUE, -1, 0);
        spawnWith(Integer.MIN_VALUE, -1, 0);
        new Rig("all that is left after a child").set(1, 7).op(Words.SPAWN, 0, 1, 16).set(1, 6)
            .op(Words.SPAWN, 2, 1, 16).set(1, 5).op(Words.SPAWN, 3, 1, 16).at(16).op(Words.RECEIVE, 0, 0, 0)
            .run(7).register(0, 2, -1).register(0, 3, 2).told(0, Words.GIVEN, 12).count(Words.SPAWNED, 2);
        new Rig("a and b the same").set(1, 4).op(Words.SPAWN, 1, 1, 16).at(16).op(Words.RECEIVE, 1, 0, 0).run(2)
            .register(0, 1, 1).register(1, 0, 4).told(1, Words.QUOTA, 4);
    }

    private static void spawnWith(int quota, int number, int given) {
        Rig rig = new Rig("quota " + quota + " with one frame used");
        rig.op(Words.MAP, 3, 0, 0).set(1, quota).op(Words.SPAWN, 2, 1, 9).at(9).op(Words.RECEIVE, 0, 0, 0).run(3)
            .register(0, 2, number).told(0, Words.GIVEN, given).told(0, Words.PLACE, 3).register(0, 1, quota)
            .count(Words.SPAWNED, number < 0 ? 0 : 1).count(Words.TRAPS, 0);
        if (number < 0) {
            rig.missing(1);
        } else {
            rig.told(1, Words.QUOTA, quota);
        }
    }

    private static void noneAbsent() {
        Rig rig = new Rig("six guests");
        for (int i = 0; i < 6; i++) {
            rig.op(Words.SPAWN, 0, 1, 20);
        }
        rig.at(20).op(Words.RECEIVE, 0, 0, 0).run(1).register(0, 0, 1).run(5).register(0, 0, 5).run(1)
            .register(0, 0, -1).stuck(9).count(Words.SPAWNED, 5).told(5, Words.STATE, Words.BLOCKED)
            .told(0, Words.STATE, Words.DEAD);
    }

    private static void leastAbsentNumber() {
        // Guests 1 and 2 come, 1 ends and is reaped: its number is the least that is absent.
        new Rig("least absent").op(Words.SPAWN, 0, 3, 20).op(Words.SPAWN, 0, 3, 24).op(Words.REAP, 1, 2, 0)
            .op(Words.SPAWN, 0, 3, 24).op(Words.SPAWN, 2, 3, 24).at(20).halt().at(24).op(Words.RECEIVE, 0, 0, 0)
            .run(3).register(0, 1, 1).run(3).register(0, 0, 1).register(0, 2, 3).told(3, Words.PARENT, 0)
            .count(Words.SPAWNED, 4).count(Words.REAPED, 1);
    }

    private static void reapAnswers() {
        new Rig("nothing to reap").set(1, 8).set(2, 9).op(Words.REAP, 1, 2, 0).run(3).register(0, 1, -1)
            .register(0, 2, 9).count(Words.REAPED, 0).count(Words.TRAPS, 0);
        new Rig("nothing to reap, a is b").set(1, 8).op(Words.REAP, 1, 1, 0).run(2).register(0, 1, -1);
        new Rig("reap").set(1, 3).set(0, 55).op(Words.SPAWN, 0, 1, 20).op(Words.YIELD, 0, 0, 0)
            .op(Words.REAP, 2, 3, 0).at(20).op(Words.EXIT, 0, 0, 0).run(4).told(0, Words.GIVEN, 3)
            .told(1, Words.OUTCOME, 55).told(1, Words.STATE, Words.DEAD).run(1).register(0, 2, 1)
            .register(0, 3, 55).told(0, Words.GIVEN, 0).missing(1).count(Words.REAPED, 1).count(Words.SPAWNED, 1);
        new Rig("reap, a is b").set(0, 55).op(Words.SPAWN, 0, 1, 20).op(Words.YIELD, 0, 0, 0)
            .op(Words.REAP, 2, 2, 0).at(20).op(Words.EXIT, 0, 0, 0).run(4).register(0, 2, 55).missing(1);
    }

    private static void reapTakesOnlyOwnDeadChildren() {
        // Guest 1 ends later than 3; guest 2 is a child of 0 that tries to reap its brother.
        Rig rig = new Rig("own dead children");
        rig.op(Words.SPAWN, 0, 3, 16).op(Words.SPAWN, 0, 3, 20).op(Words.SPAWN, 0, 3, 24)
            .op(Words.REAP, 1, 2, 0).at(16).op(Words.RECEIVE, 0, 0, 0)
            .at(20).op(Words.REAP, 1, 2, 0).op(Words.RECEIVE, 0, 0, 0).at(24).halt();
        rig.run(3).told(3, Words.STATE, Words.DEAD).run(2).register(2, 1, -1).told(3, Words.STATE, Words.DEAD)
            .run(1).register(0, 1, 3).missing(3).told(1, Words.STATE, Words.BLOCKED);
        // Two dead children: the lesser number first, whichever ended first.
        Rig two = new Rig("the least dead child");
        two.op(Words.SPAWN, 0, 3, 16).op(Words.SPAWN, 0, 3, 20).op(Words.YIELD, 0, 0, 0)
            .op(Words.YIELD, 0, 0, 0).op(Words.REAP, 1, 3, 0).op(Words.REAP, 2, 3, 0).at(16).set(1, 0).set(1, 0).set(1, 0).set(1, 0).halt()
            .at(20).halt();
        two.run(4).told(2, Words.STATE, Words.DEAD).told(1, Words.STATE, Words.AT_HAND).run(3)
            .register(0, 1, 1).register(0, 2, 2).missing(1).missing(2).count(Words.REAPED, 2);
    }

    private static void reapedNumbersBeginAnew() {
        Rig rig = new Rig("a number used again");
        rig.set(1, 2).set(0, 31).op(Words.SPAWN, 0, 1, 20).op(Words.YIELD, 0, 0, 0).op(Words.YIELD, 0, 0, 0)
            .op(Words.YIELD, 0, 0, 0).op(Words.YIELD, 0, 0, 0).op(Words.REAP, 2, 3, 0).op(Words.SPAWN, 3, 1, 28)
            .at(20).op(Words.HANDLE, 0, 0, 22).op(Words.UNLOCK, 0, 0, 1).op(Words.MAP, 1, 0, 2)
            .op(Words.HANDLE, 0, 0, 9).op(Words.EXIT, 0, 0, 0).at(28).op(Words.RECEIVE, 0, 0, 0);
        rig.run(5).told(1, Words.GUEST_TRAPS, 1).register(1, 0, 31).register(1, 1, 1).register(1, 3, 5)
            .page(1, 2, 0).run(2).told(1, Words.STATE, Words.DEAD).told(1, Words.HANDLER, 9)
            .told(1, Words.OUTCOME, 31).run(1).missing(1).register(0, 3, 31).run(1).register(0, 3, 1)
            .register(1, 0, 31).register(1, 1, 0).register(1, 3, 0).told(1, Words.GUEST_TRAPS, 0)
            .told(1, Words.PLACE, 29).told(1, Words.HANDLER, -1).told(1, Words.OUTCOME, 0).page(1, 2, -1)
            .told(1, Words.USED, 0).told(1, Words.QUOTA, 2).told(0, Words.GIVEN, 2);
    }

    private static void childrenOfTheDead() {
        // 0 gives 6 to 1, 1 gives 4 to 2 and ends: 2 is 0's then, and 1 keeps 2 of its quota.
        Rig rig = new Rig("a grandchild");
        rig.set(1, 6).op(Words.SPAWN, 0, 1, 16).op(Words.RECEIVE, 0, 0, 0).op(Words.REAP, 2, 3, 0)
            .op(Words.REAP, 2, 3, 0).at(16).set(1, 4).op(Words.SPAWN, 0, 1, 24).op(Words.MAP, 2, 0, 0)
            .op(Words.EXIT, 1, 0, 0).at(24).op(Words.YIELD, 0, 0, 0).op(Words.YIELD, 0, 0, 0)
            .op(Words.SEND, 0, 0, 0).op(Words.RECEIVE, 0, 0, 1);
        rig.run(4).told(1, Words.GIVEN, 4).told(1, Words.QUOTA, 6).told(1, Words.USED, 1)
            .told(2, Words.PARENT, 1).told(0, Words.GIVEN, 6);
        rig.run(1).told(1, Words.STATE, Words.DEAD).told(1, Words.OUTCOME, 4).told(1, Words.GIVEN, 0)
            .told(1, Words.QUOTA, 2).told(1, Words.USED, 0).told(1, Words.PARENT, 0).told(2, Words.PARENT, 0)
            .told(2, Words.QUOTA, 4).told(0, Words.GIVEN, 6).told(0, Words.QUOTA, 12);
        rig.run(3).told(0, Words.GIVEN, 4).missing(1).register(0, 2, 1).register(0, 3, 4);
        rig.run(1).register(0, 2, -1).told(2, Words.STATE, Words.BLOCKED);
    }

    private static void deadChildrenOfTheDead() {
        // 2 ends before its parent 1 does: 0 then reaps both, and all of the quota comes back.
        Rig rig = new Rig("a dead grandchild");
        rig.set(1, 6).op(Words.SPAWN, 0, 1, 16).op(Words.RECEIVE, 0, 0, 0).op(Words.REAP, 0, 2, 0)
            .op(Words.REAP, 1, 3, 0).at(16).set(1, 4).op(Words.SPAWN, 0, 1, 24).op(Words.YIELD, 0, 0, 0)
            .op(Words.SEND, 0, 0, 0).halt().at(24).op(Words.EXIT, 2, 0, 0);
        rig.run(4).told(2, Words.STATE, Words.DEAD).told(2, Words.PARENT, 1).told(1, Words.GIVEN, 4).run(1)
            .run(1).told(2, Words.PARENT, 0).told(1, Words.QUOTA, 2).told(1, Words.GIVEN, 0)
            .told(0, Words.GIVEN, 6).register(0, 0, -1).run(1).register(0, 1, 1).told(0, Words.GIVEN, 4);
        rig.at(5).op(Words.REAP, 1, 3, 0).run(1).register(0, 1, 2).told(0, Words.GIVEN, 0).missing(2)
            .count(Words.REAPED, 2);
    }

    private static void orphans() {
        Rig rig = new Rig("the children of guest 0");
        rig.set(1, 5).op(Words.SPAWN, 0, 1, 16).halt().at(16).op(Words.YIELD, 0, 0, 0).op(Words.MAP, 1, 0, 0)
            .set(1, 2).op(Words.SPAWN, 0, 1, 24).op(Words.REAP, 2, 3, 0).halt().at(24).halt();
        rig.run(3).told(0, Words.STATE, Words.DEAD).told(0, Words.QUOTA, 7).told(0, Words.GIVEN, 0)
            .told(1, Words.PARENT, -1).told(1, Words.QUOTA, 5).run(2).told(2, Words.PARENT, 1).run(1)
            .register(1, 2, 2).missing(2).told(1, Words.GIVEN, 0).runs(9, 1).told(1, Words.PARENT, -1);
    }
}
