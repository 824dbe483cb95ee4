/** SPAWN, REAP, QUOTAS and what a GUEST that comes to be DEAD leaves (OPs 15 and 21). */
public final class FamilyTest {
    private static final int MIN = Integer.MIN_VALUE;
    private static final int MAX = Integer.MAX_VALUE;

    public static void main(String[] args) {
        spawnSentences();
        reapSentences();
        deathSentences();
        Check.end();
    }

    private static void spawnSentences() {
        Check.sentence("is a GUEST, READY, at the TARGET, a CHILD of this one", FamilyTest::childBeginsAnew);
        Check.sentence("15 SPAWN: the least number that's ABSENT is a GUEST", FamilyTest::leastAbsentNumber);
        Check.sentence("with a QUOTA given from this one's", FamilyTest::quotaIsGiven);
        Check.sentence("(REGISTER b; below 0, or", FamilyTest::quotaBelowZero);
        Check.sentence("or more than is neither used nor given: a is -1)", FamilyTest::quotaBeyondWhatIsLeft);
        Check.sentence("its REGISTER 0 being this one's a", FamilyTest::childGetsRegisterA);
        Check.sentence("then a is its number, or -1 if none is ABSENT.", FamilyTest::noneAbsent);
        Check.sentence("(how many FRAMES it may use, and give to its CHILDREN as their QUOTAS)",
            FamilyTest::quotaForUseAndForChildren);
        Check.sentence("GUESTS SPAWNED (3)", FamilyTest::countsSpawned);
    }

    private static void reapSentences() {
        Check.sentence("21 REAP: the least CHILD that is DEAD becomes ABSENT", FamilyTest::reapsTheLeastDeadChild);
        Check.sentence("REAP: the least CHILD that is DEAD", FamilyTest::reapsOnlyItsOwn);
        Check.sentence("its QUOTA isn't given any more", FamilyTest::reapedQuotaIsBack);
        Check.sentence("a is its number and b its OUTCOME", FamilyTest::reapAnswers);
        Check.sentence("none: a is -1", FamilyTest::nothingToReap);
        Check.sentence("(if a and b are the same REGISTER, it's the OUTCOME)", FamilyTest::reapIntoOneRegister);
        Check.sentence("REAPED (4)", FamilyTest::countsReaped);
        Check.sentence("\"missing\", a GUEST that is ABSENT, is java.util.NoSuchElementException",
            FamilyTest::missingBeforeAndAfter);
        Check.sentence("QUOTA (3), FRAMES used (4), QUOTA given to CHILDREN (5), PARENT (6)",
            FamilyTest::reapedNumbersBeginAnew);
    }

    private static void deathSentences() {
        Check.sentence("A GUEST that comes to be DEAD has no PAGES any more (its FRAMES are free)",
            FamilyTest::theDeadHaveNoPages);
        Check.sentence("and its CHILDREN are its PARENT's", FamilyTest::grandchildren);
        Check.sentence("its PARENT's (-1 if it has none)", FamilyTest::orphans);
        Check.sentence("its own QUOTA being less by theirs", FamilyTest::quotaOfTheDead);
        Check.sentence("of which it has given none any more", FamilyTest::theDeadHaveGivenNone);
    }

    private static void childBeginsAnew() {
        new Rig("a child").set(2, 42).set(1, 5).op(Words.HANDLE, 0, 0, 7).op(Words.SPAWN, 3, 1, 20)
            .op(Words.SPAWN, 2, 1, 21).run(4).register(0, 3, 1).told(1, Words.PARENT, 0).told(1, Words.QUOTA, 5)
            .run(1).registers(0, 0, 5, 2, 1).registers(2, 42, 0, 0, 0).state(2, Words.READY)
            .told(2, Words.PLACE, 21).told(2, Words.HANDLER, -1).told(2, Words.QUOTA, 5).told(2, Words.USED, 0)
            .told(2, Words.GIVEN, 0).told(2, Words.PARENT, 0).told(2, Words.OUTCOME, 0).told(2, Words.GUEST_TRAPS, 0)
            .pages(2, -1, -1, -1, -1).told(0, Words.PLACE, 5);
        new Rig("a child on the other processor runs at once").op(Words.SPAWN, 0, 0, 9).at(9).set(3, 5).run(1)
            .register(1, 3, 5).state(1, Words.AT_HAND).told(1, Words.PLACE, 10).count(11, 1);
        new Rig("a child of a child").op(Words.SPAWN, 0, 1, 8).rest().at(8).op(Words.SPAWN, 0, 1, 16).rest().at(16).rest()
            .stuck(9).told(1, Words.PARENT, 0).told(2, Words.PARENT, 1);
    }

    private static void leastAbsentNumber() {
        // Guests 1 and 2 come, 1 ends and is reaped: its number is the least that is absent.
        new Rig("least absent").op(Words.SPAWN, 0, 3, 20).op(Words.SPAWN, 0, 3, 24).op(Words.REAP, 1, 2, 0)
            .op(Words.SPAWN, 0, 3, 24).op(Words.SPAWN, 2, 3, 24).at(20).halt().at(24).rest()
            .run(3).register(0, 1, 1).run(3).register(0, 0, 1).register(0, 2, 3).told(3, Words.PARENT, 0)
            .missing(4).missing(5);
        // Guest 0 is dead, and no one can reap it: its number is never absent.
        new Rig("guest 0 is dead").op(Words.SPAWN, 0, 1, 8).halt().at(8).yield().yield().op(Words.SPAWN, 2, 1, 16)
            .rest().at(16).rest().run(3).register(1, 2, 2).state(0, Words.DEAD);
    }

    private static void quotaIsGiven() {
        new Rig("two children").set(1, 5).op(Words.SPAWN, 0, 1, 16).set(1, 3).op(Words.SPAWN, 0, 1, 16).rest().at(16).rest()
            .run(2).told(1, Words.QUOTA, 5).told(0, Words.GIVEN, 5).told(0, Words.QUOTA, 12).run(2)
            .told(2, Words.QUOTA, 3).told(0, Words.GIVEN, 8).told(0, Words.QUOTA, 12).told(0, Words.USED, 0)
            .count(Words.FREE, 12);
        new Rig("quota 0").op(Words.SPAWN, 0, 1, 16).at(16).rest().run(1).told(1, Words.QUOTA, 0)
            .told(0, Words.GIVEN, 0).register(0, 0, 1);
    }

    private static void quotaBelowZero() {
        refused(new Rig("quota -1"), -1);
        refused(new Rig("the least quota"), MIN);
        refused(new Rig("quota -1, all used and given").set(1, 12).op(Words.SPAWN, 3, 1, 20).at(20).rest().at(2)
            .run(2), 2, -1);
    }

    private static void quotaBeyondWhatIsLeft() {
        refused(new Rig("quota 13"), 13);
        refused(new Rig("the greatest quota"), MAX);
        refused(new Rig("quota 12 with one used").op(Words.MAP, 3, 0, 0).run(1), 1, 12);
        refused(new Rig("quota 6 with 7 given").set(1, 7).op(Words.SPAWN, 3, 1, 20).at(20).rest().at(2).run(2), 2, 6);
        refused(new Rig("quota 5 with 7 given and one used").set(1, 7).op(Words.SPAWN, 3, 1, 20).op(Words.MAP, 3, 0, 0)
            .at(20).rest().at(3).run(3), 3, 5);
        taken(new Rig("quota 12"), 0, 12, 1);
        taken(new Rig("quota 11 with one used").op(Words.MAP, 3, 0, 0).run(1), 1, 11, 1);
        taken(new Rig("quota 5 with 7 given").set(1, 7).op(Words.SPAWN, 3, 1, 20).at(20).rest().at(2).run(2), 2, 5, 2);
        taken(new Rig("quota 4 with 7 given and one used").set(1, 7).op(Words.SPAWN, 3, 1, 20).op(Words.MAP, 3, 0, 0)
            .at(20).rest().at(3).run(3), 3, 4, 2);
    }

    private static void refused(Rig rig, int quota) {
        refused(rig, 0, quota);
    }

    /** GUEST 0 is at this PLACE; it asks for too much, and all stays as it was. */
    private static void refused(Rig rig, int place, int quota) {
        int spawned = rig.counted(Words.SPAWNED);
        int given = rig.toldOf(0, Words.GIVEN);
        rig.at(20).rest().at(place).set(1, quota).op(Words.SPAWN, 2, 1, 20).run(2).register(0, 2, -1)
            .register(0, 1, quota).told(0, Words.PLACE, place + 2).count(Words.SPAWNED, spawned).count(Words.TRAPS, 0)
            .missing(spawned + 1).told(0, Words.QUOTA, 12).told(0, Words.GIVEN, given);
    }

    private static void taken(Rig rig, int place, int quota, int number) {
        int used = rig.toldOf(0, Words.USED);
        rig.at(20).rest().at(place).set(1, quota).op(Words.SPAWN, 2, 1, 20).run(2).register(0, 2, number)
            .told(number, Words.QUOTA, quota).told(0, Words.GIVEN, 12 - used).told(0, Words.QUOTA, 12);
    }

    private static void childGetsRegisterA() {
        int[] values = {MIN, -1, 0, MAX};
        for (int a = 0; a < 4; a++) {
            int b = (a + 1) % 4;
            for (int value : values) {
                new Rig("register " + a + " is " + value).set(a, value).op(Words.SPAWN, a, b, 8).at(8).rest().run(2)
                    .registers(1, value, 0, 0, 0).register(0, a, 1);
            }
        }
        new Rig("a and b the same").set(1, 4).op(Words.SPAWN, 1, 1, 8).at(8).rest().run(2).register(0, 1, 1)
            .register(1, 0, 4).told(1, Words.QUOTA, 4);
    }

    private static void noneAbsent() {
        Rig rig = new Rig("six guests");
        for (int i = 0; i < 6; i++) {
            rig.op(Words.SPAWN, 0, 1, 20);
        }
        rig.at(20).rest().run(1).register(0, 0, 1).run(5).register(0, 0, 5).run(1).register(0, 0, -1)
            .count(Words.SPAWNED, 5).state(5, Words.BLOCKED).count(Words.TRAPS, 0).told(0, Words.PLACE, 6);
        // All five children are dead, and still not absent, until one is reaped.
        Rig dead = new Rig("five dead children");
        for (int i = 0; i < 5; i++) {
            dead.op(Words.SPAWN, 0, 1, 20);
        }
        dead.yield().yield().set(2, 1).op(Words.SPAWN, 0, 2, 21).op(Words.REAP, 3, 1, 0).op(Words.SPAWN, 1, 2, 21).at(20)
            .halt().rest().run(7).state(5, Words.DEAD).run(4).state(4, Words.DEAD).register(0, 0, -1)
            .told(0, Words.GIVEN, 0).run(2).register(0, 3, 1).register(0, 1, 1).told(0, Words.GIVEN, 1);
    }

    private static void quotaForUseAndForChildren() {
        // Four used, eight given: nothing is left; what is unmapped can be given.
        Rig rig = new Rig("used and given");
        for (int p = 0; p < 4; p++) {
            rig.op(Words.MAP, 0, 0, p);
        }
        rig.set(1, 8).op(Words.SPAWN, 0, 1, 24).set(1, 1).op(Words.SPAWN, 2, 1, 24).op(Words.UNMAP, 0, 0, 3)
            .op(Words.SPAWN, 3, 1, 24).op(Words.MAP, 0, 0, 3).at(24).rest().run(8).register(0, 2, -1)
            .told(0, Words.USED, 4).told(0, Words.GIVEN, 8).runs(3, 3).register(0, 3, 2).told(0, Words.GIVEN, 9)
            .told(0, Words.USED, 3).runs(2, 2).register(0, 0, 0).page(0, 3, -1);
    }

    private static void countsSpawned() {
        new Rig("spawned").set(1, 13).op(Words.SPAWN, 0, 1, 20).op(Words.SPAWN, 0, 2, 20).op(Words.REAP, 0, 3, 0)
            .op(Words.SPAWN, 0, 2, 20).count(Words.SPAWNED, 0).run(2).count(Words.SPAWNED, 0).run(1)
            .count(Words.SPAWNED, 1).run(1).missing(1).count(Words.SPAWNED, 1).run(1).count(Words.SPAWNED, 2);
    }

    private static void reapsTheLeastDeadChild() {
        // Guest 2 ends before 1 does; 1 is reaped first.
        Rig two = new Rig("the least dead child");
        two.op(Words.SPAWN, 0, 3, 16).op(Words.SPAWN, 0, 3, 20).yield().yield().op(Words.REAP, 1, 3, 0)
            .op(Words.REAP, 2, 3, 0).at(16).set(1, 0).set(1, 0).set(1, 0).set(1, 0).halt().at(20).halt();
        two.run(4).state(2, Words.DEAD).state(1, Words.AT_HAND).run(2).register(0, 1, 1).missing(1)
            .state(2, Words.DEAD).run(1).register(0, 2, 2).missing(2);
        // Guest 1 lives: 3 is the least that is dead.
        Rig rig = new Rig("the least is not dead");
        rig.op(Words.SPAWN, 0, 3, 16).op(Words.SPAWN, 0, 3, 16).op(Words.SPAWN, 0, 3, 24).op(Words.REAP, 1, 2, 0)
            .at(16).rest().at(24).halt().run(5).register(0, 1, 3).missing(3).state(1, Words.BLOCKED)
            .state(2, Words.BLOCKED);
    }

    private static void reapsOnlyItsOwn() {
        // Guest 2 finds its brother 3 dead, which is not its child.
        new Rig("a brother").op(Words.SPAWN, 0, 3, 16).op(Words.SPAWN, 0, 3, 20).op(Words.SPAWN, 0, 3, 24).rest()
            .at(16).rest().at(20).op(Words.REAP, 1, 2, 0).rest().at(24).halt().run(3).state(3, Words.DEAD).run(1)
            .register(2, 1, -1).state(3, Words.DEAD);
        // Guest 2 is dead, a child of 1, which lives: 0 can't reap it.
        new Rig("a grandchild").op(Words.SPAWN, 0, 3, 16).yield().yield().op(Words.REAP, 1, 2, 0).rest()
            .at(16).op(Words.SPAWN, 0, 3, 24).rest().at(24).halt().stuck(20).state(2, Words.DEAD).register(0, 1, -1)
            .told(2, Words.PARENT, 1);
        // Guest 1 finds its parent dead.
        new Rig("a parent").op(Words.SPAWN, 0, 3, 16).halt().at(16).yield().yield().op(Words.REAP, 1, 2, 0).rest()
            .stuck(20).state(0, Words.DEAD).register(1, 1, -1);
    }

    private static void reapedQuotaIsBack() {
        new Rig("quota given twice").set(1, 12).op(Words.SPAWN, 0, 1, 20).op(Words.REAP, 2, 3, 0)
            .op(Words.SPAWN, 0, 1, 24).at(20).halt().at(24).rest().run(2).told(0, Words.GIVEN, 12)
            .state(1, Words.DEAD).told(1, Words.QUOTA, 12).run(1).told(0, Words.GIVEN, 0).told(0, Words.QUOTA, 12).run(1)
            .register(0, 0, 1).told(0, Words.GIVEN, 12);
        new Rig("one of two").set(1, 5).op(Words.SPAWN, 0, 1, 24).set(1, 3).op(Words.SPAWN, 0, 1, 20).yield()
            .op(Words.REAP, 2, 3, 0).at(20).halt().at(24).rest().run(5).told(0, Words.GIVEN, 8).run(2)
            .register(0, 2, 2).told(0, Words.GIVEN, 5);
    }

    private static void reapAnswers() {
        int[] outcomes = {0, 55, MIN, MAX};
        for (int outcome : outcomes) {
            new Rig("outcome " + outcome).set(0, outcome).set(2, 9).op(Words.SPAWN, 0, 1, 20).op(Words.REAP, 2, 3, 0)
                .at(20).op(Words.EXIT, 0, 0, 0).run(4).registers(0, 1, 0, 1, outcome).told(0, Words.PLACE, 4);
        }
        new Rig("a child that a trap ended").op(Words.SPAWN, 0, 1, 20).op(Words.REAP, 3, 2, 0).at(20)
            .op(Words.DIVIDE, 0, 0, 0).run(2).registers(0, 1, 0, -101, 1);
    }

    private static void nothingToReap() {
        new Rig("no child").set(1, 8).set(2, 9).op(Words.REAP, 1, 2, 0).run(3).registers(0, 0, -1, 9, 0)
            .count(Words.REAPED, 0).count(Words.TRAPS, 0).told(0, Words.PLACE, 3);
        new Rig("no dead child").set(2, 9).op(Words.SPAWN, 0, 1, 20).op(Words.REAP, 1, 2, 0).at(20).rest().run(3)
            .registers(0, 1, -1, 9, 0).count(Words.REAPED, 0).state(1, Words.BLOCKED);
        new Rig("no child any more").op(Words.SPAWN, 0, 1, 20).op(Words.REAP, 1, 2, 0).set(2, 9)
            .op(Words.REAP, 1, 2, 0).at(20).halt().run(4).registers(0, 1, -1, 9, 0).count(Words.REAPED, 1);
        new Rig("no child, one register").set(1, 8).op(Words.REAP, 1, 1, 0).run(2).register(0, 1, -1);
    }

    private static void reapIntoOneRegister() {
        new Rig("a is b").set(0, 55).op(Words.SPAWN, 0, 1, 20).op(Words.REAP, 2, 2, 0).at(20).op(Words.EXIT, 0, 0, 0)
            .run(3).register(0, 2, 55).missing(1);
        new Rig("a is b, outcome 0").set(2, 9).op(Words.SPAWN, 0, 1, 20).op(Words.REAP, 2, 2, 0).at(20).halt()
            .run(3).register(0, 2, 0).missing(1);
    }

    private static void countsReaped() {
        // Four times: a child comes, ends in the same tick and is reaped; a second reap finds none.
        Rig rig = new Rig("reaped");
        rig.set(1, 4).set(2, 1).op(Words.SPAWN, 0, 3, 16).op(Words.REAP, 0, 3, 0).op(Words.REAP, 0, 3, 0)
            .op(Words.SUBTRACT, 1, 2, 0).op(Words.GO_IF_BELOW, 3, 1, 2).halt().at(16).halt();
        rig.run(3).count(Words.REAPED, 0).run(1).count(Words.REAPED, 1).run(1).count(Words.REAPED, 1)
            .runs(300, 18).count(Words.SPAWNED, 4).count(Words.REAPED, 4).count(Words.TRAPS, 0);
    }

    private static void missingBeforeAndAfter() {
        new Rig("missing").missing(1).op(Words.SPAWN, 0, 1, 20).op(Words.REAP, 2, 3, 0).run(1).state(1, Words.DEAD)
            .register(1, 0, 0).page(1, 0, -1).missing(2).run(1).missing(1).missing(5);
        new Rig("bad comes before missing").badRegister(3, 4).badTold(3, 9).badPage(3, -1).badRegister(6, 0);
    }

    private static void reapedNumbersBeginAnew() {
        Rig rig = new Rig("a number used again");
        rig.set(1, 2).set(0, 31).op(Words.SPAWN, 0, 1, 20).yield().yield().yield().yield()
            .op(Words.REAP, 2, 3, 0).op(Words.SPAWN, 3, 1, 28).at(20).op(Words.HANDLE, 0, 0, 22)
            .op(Words.UNLOCK, 0, 0, 1).op(Words.MAP, 1, 0, 2).op(Words.HANDLE, 0, 0, 9).op(Words.EXIT, 0, 0, 0)
            .at(28).rest();
        rig.run(5).registers(1, 31, 1, 0, 5).page(1, 2, 0).told(1, Words.USED, 1).told(1, Words.QUOTA, 2).run(2)
            .state(1, Words.DEAD).told(1, Words.HANDLER, 9).told(1, Words.USED, 0).told(1, Words.QUOTA, 2).run(1)
            .missing(1).register(0, 3, 31).run(1).register(0, 3, 1).registers(1, 31, 0, 0, 0)
            .told(1, Words.PLACE, 29).told(1, Words.HANDLER, -1).pages(1, -1, -1, -1, -1).told(1, Words.USED, 0)
            .told(1, Words.QUOTA, 2).told(1, Words.GIVEN, 0).told(1, Words.PARENT, 0).told(0, Words.GIVEN, 2);
    }

    private static void theDeadHaveNoPages() {
        int[][] ends = {{Words.HALT, 0}, {Words.EXIT, 0}, {Words.MAP, 9}};
        for (int[] end : ends) {
            Rig rig = new Rig("four pages, then op " + end[0]);
            for (int p = 0; p < 4; p++) {
                rig.op(Words.MAP, 0, 0, p);
            }
            rig.op(Words.STORE, 0, 1, 5).op(end[0], 0, 0, end[1]).run(5).told(0, Words.USED, 4).count(Words.FREE, 8)
                .run(1).state(0, Words.DEAD).pages(0, -1, -1, -1, -1).told(0, Words.USED, 0).count(Words.FREE, 12)
                .memory(0, 5, 1).told(0, Words.QUOTA, 12);
        }
        // Guest 1 gets the frame that guest 0 had, in the tick in which 0 ends.
        new Rig("a frame of the dead").op(Words.MAP, 0, 0, 0).set(1, 2).op(Words.SPAWN, 0, 1, 16).halt()
            .at(16).set(0, 1).op(Words.MAP, 0, 0, 3).rest().run(4).page(1, 3, 0).page(0, 0, -1).count(Words.FREE, 11);
    }

    private static void grandchildren() {
        // 0 has 1, 1 has 2 (which is dead by then) and 3; when 1 ends, both are 0's, and 0 can reap them.
        Rig rig = new Rig("grandchildren");
        rig.op(Words.SPAWN, 0, 3, 8).op(Words.RECEIVE, 0, 0, 0).yield().op(Words.REAP, 0, 2, 0)
            .op(Words.REAP, 1, 2, 0).op(Words.REAP, 2, 3, 0).rest().at(8).op(Words.SPAWN, 0, 3, 16)
            .op(Words.SPAWN, 0, 3, 20).yield().op(Words.SEND, 0, 0, 0).halt().at(16).halt().at(20).rest();
        rig.run(5).told(2, Words.PARENT, 1).told(3, Words.PARENT, 1).state(2, Words.DEAD).stuck(20)
            .state(3, Words.BLOCKED).told(3, Words.PARENT, 0).missing(1).missing(2).registers(0, 1, 2, -1, 0);
        // A chain: 0 has 1, 1 has 2, 2 has 3; 2 ends, then 1.
        Rig chain = new Rig("a chain");
        chain.op(Words.SPAWN, 0, 3, 8).rest().at(8).op(Words.SPAWN, 0, 3, 16).op(Words.RECEIVE, 0, 0, 0).halt()
            .at(16).op(Words.SPAWN, 0, 3, 24).op(Words.SEND, 0, 0, 0).halt().at(24).rest();
        chain.run(3).told(3, Words.PARENT, 2).told(2, Words.PARENT, 1).stuck(20).state(2, Words.DEAD)
            .state(1, Words.DEAD).told(3, Words.PARENT, 0).told(2, Words.PARENT, 0).told(1, Words.PARENT, 0);
    }

    private static void orphans() {
        // The orphan 1 spawns and reaps as before; nobody reaps it.
        Rig rig = new Rig("the children of guest 0");
        rig.set(1, 5).op(Words.SPAWN, 0, 1, 16).halt().at(16).yield().op(Words.MAP, 1, 0, 0)
            .set(1, 2).op(Words.SPAWN, 0, 1, 24).op(Words.REAP, 2, 3, 0).halt().at(24).halt();
        rig.run(2).told(1, Words.PARENT, 0).run(1).state(0, Words.DEAD).told(1, Words.PARENT, -1)
            .told(1, Words.QUOTA, 5).run(2).told(2, Words.PARENT, 1).run(1).register(1, 2, 2).missing(2)
            .told(1, Words.GIVEN, 0).runs(9, 1).told(1, Words.PARENT, -1).state(1, Words.DEAD);
        // The child of an orphan has no parent either, once the orphan ends.
        new Rig("the child of an orphan").op(Words.SPAWN, 0, 3, 8).halt().at(8).op(Words.SPAWN, 0, 3, 16).yield().halt()
            .at(16).rest().stuck(9).told(1, Words.PARENT, -1).told(2, Words.PARENT, -1).state(1, Words.DEAD);
        new Rig("two orphans, one of them dead").op(Words.SPAWN, 0, 3, 8).op(Words.SPAWN, 0, 3, 9).halt().at(8).halt()
            .rest().stuck(9).told(1, Words.PARENT, -1).told(2, Words.PARENT, -1).state(1, Words.DEAD);
    }

    private static void quotaOfTheDead() {
        // 0 gives 6 to 1, 1 gives 4 to 2 and ends: 1 keeps 2 of its quota, and 0 gets back no more when it reaps.
        Rig rig = new Rig("a child's quota");
        rig.set(1, 6).op(Words.SPAWN, 0, 1, 8).op(Words.RECEIVE, 0, 0, 0).op(Words.REAP, 2, 3, 0).rest()
            .at(8).set(1, 4).op(Words.SPAWN, 0, 1, 16).op(Words.MAP, 2, 0, 0).op(Words.EXIT, 1, 0, 0)
            .at(16).yield().yield().op(Words.SEND, 0, 0, 0).rest();
        rig.run(4).told(1, Words.QUOTA, 6).told(0, Words.GIVEN, 6).run(1).state(1, Words.DEAD).told(1, Words.QUOTA, 2)
            .told(2, Words.QUOTA, 4).told(0, Words.GIVEN, 6).told(0, Words.QUOTA, 12).stuck(20).missing(1)
            .register(0, 2, 1).told(0, Words.GIVEN, 4).told(2, Words.QUOTA, 4);
        new Rig("all of it given").set(1, 12).op(Words.SPAWN, 0, 1, 8).halt().at(8).rest().run(3)
            .told(0, Words.QUOTA, 0).told(1, Words.QUOTA, 12);
        new Rig("two children").set(1, 5).op(Words.SPAWN, 0, 1, 8).set(1, 3).op(Words.SPAWN, 0, 1, 8).halt().at(8)
            .rest().run(5).told(0, Words.QUOTA, 4);
        new Rig("no children").op(Words.MAP, 0, 0, 0).halt().run(2).told(0, Words.QUOTA, 12);
    }

    private static void theDeadHaveGivenNone() {
        new Rig("guest 0").set(1, 5).op(Words.SPAWN, 0, 1, 8).halt().at(8).rest().run(2).told(0, Words.GIVEN, 5).run(1)
            .told(0, Words.GIVEN, 0).told(0, Words.QUOTA, 7);
        // 2 ends before its parent 1 does: 0 reaps both, and all of the quota comes back.
        Rig rig = new Rig("a dead grandchild");
        rig.set(1, 6).op(Words.SPAWN, 0, 1, 8).op(Words.RECEIVE, 0, 0, 0).op(Words.REAP, 0, 2, 0)
            .op(Words.REAP, 1, 3, 0).op(Words.REAP, 1, 3, 0).rest().at(8).set(1, 4).op(Words.SPAWN, 0, 1, 16).yield()
            .op(Words.SEND, 0, 0, 0).halt().at(16).op(Words.EXIT, 2, 0, 0);
        rig.run(4).state(2, Words.DEAD).told(1, Words.GIVEN, 4).run(2).state(1, Words.DEAD).told(1, Words.GIVEN, 0)
            .told(1, Words.QUOTA, 2).told(0, Words.GIVEN, 6).register(0, 0, -1).run(1).register(0, 1, 1)
            .told(0, Words.GIVEN, 4).run(1).register(0, 1, 2).told(0, Words.GIVEN, 0);
    }
}
