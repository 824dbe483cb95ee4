/** Promises 6 and 7: FRAMES, PAGES, and OPs 7, 8, 13 and 14. */
public final class PageTest {
    private static final int MIN = Integer.MIN_VALUE;
    private static final int MAX = Integer.MAX_VALUE;
    private static final int[] WRONG_PAGES = {-1, 4, 8, MIN, MAX};

    public static void main(String[] args) {
        Check.sentence("7 a = the int at the ADDRESS, 8 that int = a.", PageTest::storesAndLoads);
        Check.sentence("ADDRESS: REGISTER b + n (wrapping)", PageTest::addressesWrap);
        Check.sentence("not 0 .. 31: TRAP 2", PageTest::wrongAddressesTrap);
        Check.sentence("its PAGE, ADDRESS / 8, has no FRAME: TRAP 3.", PageTest::missingPagesTrap);
        Check.sentence("13 MAP: PAGE n gets the least free FRAME", PageTest::leastFreeFrame);
        Check.sentence("FRAME, all 0, if it has none", PageTest::mappedFramesAreZero);
        Check.sentence("a is 1, or 0 if it has one", PageTest::mapOfOneThatIsThere);
        Check.sentence("or the QUOTA is used and given up", PageTest::mapBeyondTheQuota);
        Check.sentence("or no FRAME is free", PageTest::mapWithNoFrameFree);
        Check.sentence("n not 0 .. 3: TRAP 4.", PageTest::mapOfWrongPages);
        Check.sentence("14 UNMAP PAGE n: its FRAME is free", PageTest::unmappedFramesAreFree);
        Check.sentence("a is 1, or 0 if it had none", PageTest::unmapAnswers);
        Check.sentence("n likewise", PageTest::unmapOfWrongPages);
        Check.sentence("The FRAME of PAGE p of GUEST g, -1 for none.", PageTest::pageBounds);
        Check.sentence("Int i (0 .. 7) of FRAME f (0 .. 11).", PageTest::memoryBounds);
        Check.sentence("FRAMES free (5)", PageTest::freeFrames);
        Check.end();
    }

    private static void storesAndLoads() {
        new Rig("store and load").op(Words.MAP, 0, 0, 0).op(Words.MAP, 0, 0, 3).set(0, 77).set(1, 30)
            .op(Words.STORE, 0, 1, 1).op(Words.STORE, 1, 2, 0).op(Words.LOAD, 2, 1, 1).op(Words.LOAD, 3, 1, -30).run(8)
            .memory(1, 7, 77).memory(0, 0, 30).memory(1, 6, 0).memory(0, 1, 0).registers(0, 77, 30, 77, 30);
        new Rig("a and b the same").op(Words.MAP, 0, 0, 0).set(1, 4).op(Words.STORE, 1, 1, 0)
            .op(Words.LOAD, 1, 1, 1).run(4).memory(0, 4, 4).register(0, 1, 0);
    }

    private static void addressesWrap() {
        wrapped(MIN, MIN + 8, 8);
        wrapped(MAX, MIN + 1, 0);
        wrapped(MIN, MIN + 31, 31);
        wrapped(-1, 32, 31);
        wrapped(40, -40, 0);
        for (int op = Words.LOAD; op <= Words.STORE; op++) {
            new Rig("op " + op + " past the greatest int").op(Words.MAP, 0, 0, 0).set(1, MAX).op(op, 0, 1, 1).run(3)
                .told(0, Words.OUTCOME, -102);
            new Rig("op " + op + " below the least int").op(Words.MAP, 0, 0, 0).set(1, MIN).op(op, 0, 1, -1).run(3)
                .told(0, Words.OUTCOME, -102);
        }
    }

    private static void wrapped(int b, int n, int address) {
        new Rig(b + " + " + n).op(Words.MAP, 0, 0, address / 8).set(1, b).set(2, 5).op(Words.STORE, 2, 1, n)
            .op(Words.LOAD, 3, 1, n).run(5).memory(0, address % 8, 5).register(0, 3, 5).count(Words.TRAPS, 0);
    }

    private static void wrongAddressesTrap() {
        int[] wrong = {-1, -8, 32, 33, 40, MIN, MAX};
        for (int n : wrong) {
            wrongAddress(Words.LOAD, n);
            wrongAddress(Words.STORE, n);
        }
        for (int op = Words.LOAD; op <= Words.STORE; op++) {
            new Rig("op " + op + " at the ends").op(Words.MAP, 0, 0, 0).op(Words.MAP, 0, 0, 3).op(op, 0, 1, 0)
                .op(op, 0, 1, 31).run(4).count(Words.TRAPS, 0);
            // Out of range is told first, though there is no page at all.
            new Rig("op " + op + " with no page").op(op, 0, 1, 32).run(1).told(0, Words.OUTCOME, -102);
            new Rig("op " + op + " with n in range").set(1, 40).op(op, 0, 1, -8).run(2).told(0, Words.OUTCOME, -102);
        }
    }

    private static void wrongAddress(int op, int n) {
        Rig rig = new Rig("op " + op + " at " + n);
        for (int p = 0; p < 4; p++) {
            rig.op(Words.MAP, 0, 0, p);
        }
        rig.set(0, 9).op(op, 0, 1, n).run(6).told(0, Words.OUTCOME, -102).register(0, 0, 9).told(0, Words.PLACE, 5);
        for (int f = 0; f < 4; f++) {
            for (int i = 0; i < 8; i++) {
                rig.memory(f, i, 0);
            }
        }
    }

    /** With one PAGE alone: its first and last ADDRESS are good, those beside them are not. */
    private static void missingPagesTrap() {
        for (int p = 0; p < 4; p++) {
            for (int op = Words.LOAD; op <= Words.STORE; op++) {
                new Rig("op " + op + ", page " + p + " is there").op(Words.MAP, 0, 0, p).op(op, 0, 1, p * 8)
                    .op(op, 0, 1, p * 8 + 7).run(3).count(Words.TRAPS, 0);
                for (int address = 0; address < 32; address++) {
                    if (address / 8 != p) {
                        new Rig("op " + op + ", page " + p + " alone, at " + address).op(Words.MAP, 0, 0, p).set(0, 9)
                            .op(op, 0, 1, address).run(3).told(0, Words.OUTCOME, -103).register(0, 0, 9)
                            .memory(0, address % 8, 0);
                    }
                }
            }
        }
        new Rig("unmapped again").op(Words.MAP, 0, 0, 1).op(Words.UNMAP, 0, 0, 1).op(Words.LOAD, 0, 1, 8).run(3)
            .told(0, Words.OUTCOME, -103);
    }

    private static void leastFreeFrame() {
        new Rig("least free frame").op(Words.MAP, 0, 0, 3).op(Words.MAP, 0, 0, 1).op(Words.MAP, 0, 0, 0)
            .op(Words.UNMAP, 0, 0, 3).op(Words.UNMAP, 0, 0, 1).op(Words.MAP, 0, 0, 2).op(Words.MAP, 0, 0, 3).run(3)
            .pages(0, 2, 1, -1, 0).told(0, Words.USED, 3).run(2).pages(0, 2, -1, -1, -1).told(0, Words.USED, 1)
            .run(1).pages(0, 2, -1, 0, -1).run(1).pages(0, 2, -1, 0, 1).told(0, Words.USED, 3);
        new Rig("frames are shared out to all").set(3, 2).op(Words.MAP, 0, 0, 0).op(Words.SPAWN, 0, 3, 16)
            .op(Words.MAP, 1, 0, 1).rest().at(16).op(Words.MAP, 1, 0, 2).op(Words.MAP, 1, 0, 0).rest().stuck(9)
            .pages(0, 0, 2, -1, -1).pages(1, 3, -1, 1, -1);
    }

    private static void mappedFramesAreZero() {
        Rig rig = new Rig("a frame mapped again");
        rig.set(0, 6).op(Words.MAP, 1, 0, 0).set(1, 0);
        for (int i = 0; i < 8; i++) {
            rig.op(Words.STORE, 0, 1, i);
        }
        rig.op(Words.UNMAP, 2, 0, 0).op(Words.MAP, 2, 0, 1).op(Words.LOAD, 3, 1, 8).run(11);
        for (int i = 0; i < 8; i++) {
            rig.memory(0, i, 6);
        }
        rig.run(2).page(0, 1, 0);
        for (int i = 0; i < 8; i++) {
            rig.memory(0, i, 0);
        }
        rig.run(1).register(0, 3, 0);
        new Rig("the frames beside one mapped anew").op(Words.MAP, 0, 0, 0).op(Words.MAP, 0, 0, 1)
            .op(Words.MAP, 0, 0, 2).set(0, 6).op(Words.STORE, 0, 1, 7).op(Words.STORE, 0, 1, 16)
            .op(Words.UNMAP, 0, 0, 1).op(Words.MAP, 0, 0, 1).run(8).memory(0, 7, 6).memory(2, 0, 6);
        // Guest 0 reads nothing of what the dead guest 1 left.
        new Rig("a frame of one that is dead").set(3, 1).op(Words.SPAWN, 0, 3, 16).yield().yield().yield()
            .op(Words.MAP, 1, 0, 0).op(Words.LOAD, 2, 2, 4).at(16).op(Words.MAP, 0, 0, 0)
            .op(Words.STORE, 0, 3, 4).halt().run(4).state(1, Words.DEAD).memory(0, 4, 1).run(3).page(0, 0, 0)
            .memory(0, 4, 0).register(0, 2, 0);
    }

    private static void mapOfOneThatIsThere() {
        for (int p = 0; p < 4; p++) {
            new Rig("page " + p + " mapped twice").set(0, 9).set(1, 9).op(Words.MAP, 0, 0, p).op(Words.STORE, 1, 2, p * 8)
                .op(Words.MAP, 1, 0, p).run(5).registers(0, 1, 0, 0, 0).page(0, p, 0).memory(0, 0, 9)
                .told(0, Words.USED, 1).count(Words.FREE, 11).count(Words.TRAPS, 0).told(0, Words.PLACE, 5);
        }
    }

    private static void mapBeyondTheQuota() {
        new Rig("all used").set(1, 2).op(Words.SPAWN, 0, 1, 8).halt()
            .at(8).op(Words.MAP, 0, 0, 0).op(Words.MAP, 1, 0, 1).set(2, 9).op(Words.MAP, 2, 0, 2)
            .op(Words.UNMAP, 3, 0, 0).op(Words.MAP, 3, 0, 2).run(5)
            .registers(1, 1, 1, 0, 0).page(1, 2, -1).told(1, Words.USED, 2).count(Words.TRAPS, 0)
            .run(2).register(1, 3, 1).page(1, 2, 0).told(1, Words.USED, 2);
        new Rig("nothing to use").op(Words.SPAWN, 0, 1, 8).halt().at(8).set(0, 9).op(Words.MAP, 0, 0, 0).run(2)
            .register(1, 0, 0).page(1, 0, -1).count(Words.FREE, 12).count(Words.TRAPS, 0);
        new Rig("all given").set(1, 12).op(Words.SPAWN, 0, 1, 8).set(2, 9).op(Words.MAP, 2, 0, 0).at(8).rest().run(4)
            .register(0, 2, 0).page(0, 0, -1).told(0, Words.GIVEN, 12).count(Words.FREE, 12);
        new Rig("one left").set(1, 11).op(Words.SPAWN, 0, 1, 8).set(3, 9).op(Words.MAP, 2, 0, 0).op(Words.MAP, 3, 0, 1)
            .at(8).rest().run(5).register(0, 2, 1).register(0, 3, 0).pages(0, 0, -1, -1, -1)
            .told(0, Words.GIVEN, 11).told(0, Words.USED, 1).count(Words.FREE, 11);
    }

    /**
     * QUOTAS 4, 4, 3 and 1 for GUESTS 0 to 3, which map all that they get and ask for PAGE 3 again and again. As no
     * more than 12 is ever given out, no GUEST can have QUOTA left then.
     */
    private static void mapWithNoFrameFree() {
        Rig rig = new Rig("no frame free");
        rig.set(3, 4).op(Words.SPAWN, 0, 3, 16).set(3, 3).op(Words.SPAWN, 0, 3, 16).set(3, 1).op(Words.SPAWN, 0, 3, 16)
            .op(Words.GO_IF_ZERO, 2, 0, 16).at(16).op(Words.MAP, 1, 0, 0).op(Words.MAP, 1, 0, 1).op(Words.MAP, 1, 0, 2)
            .op(Words.MAP, 1, 0, 3).op(Words.GO_IF_ZERO, 2, 0, 19).run(80).count(Words.FREE, 0).told(0, Words.USED, 4)
            .told(1, Words.USED, 4).told(2, Words.USED, 3).told(3, Words.USED, 1).register(0, 1, 0).register(1, 1, 0)
            .register(2, 1, 0).register(3, 1, 0).page(2, 3, -1).page(3, 1, -1).count(Words.TRAPS, 0);
    }

    private static void mapOfWrongPages() {
        for (int n : WRONG_PAGES) {
            new Rig("map " + n).set(0, 9).op(Words.MAP, 0, 0, n).run(2).told(0, Words.OUTCOME, -104)
                .register(0, 0, 9).count(Words.FREE, 12).count(Words.TRAPS, 1);
            new Rig("map " + n + " with quota 0").op(Words.SPAWN, 0, 1, 8).rest().at(8).op(Words.MAP, 0, 0, n).run(1)
                .told(1, Words.OUTCOME, -104);
        }
        new Rig("map 0 and 3").op(Words.MAP, 0, 0, 0).op(Words.MAP, 1, 0, 3).run(2).registers(0, 1, 1, 0, 0)
            .pages(0, 0, -1, -1, 1).count(Words.TRAPS, 0);
    }

    private static void unmappedFramesAreFree() {
        new Rig("a frame goes from one guest to another").set(3, 1).op(Words.SPAWN, 0, 3, 16).yield()
            .op(Words.MAP, 1, 0, 2).at(16).op(Words.MAP, 0, 0, 0).op(Words.UNMAP, 0, 0, 0).rest().run(2)
            .page(1, 0, 0).count(Words.FREE, 11).run(1).page(1, 0, -1).count(Words.FREE, 12).told(1, Words.USED, 0)
            .run(1).page(0, 2, 0).count(Words.FREE, 11);
    }

    private static void unmapAnswers() {
        for (int p = 0; p < 4; p++) {
            new Rig("unmap " + p).set(0, 9).set(1, 9).op(Words.MAP, 2, 0, p).op(Words.UNMAP, 0, 0, p)
                .op(Words.UNMAP, 1, 0, p).run(5).registers(0, 1, 0, 1, 0).page(0, p, -1).told(0, Words.USED, 0)
                .count(Words.FREE, 12).count(Words.TRAPS, 0);
        }
        new Rig("unmap of one never mapped").set(0, 9).op(Words.UNMAP, 0, 0, 1).run(2).register(0, 0, 0)
            .told(0, Words.USED, 0).count(Words.FREE, 12).told(0, Words.PLACE, 2);
    }

    private static void unmapOfWrongPages() {
        for (int n : WRONG_PAGES) {
            new Rig("unmap " + n).set(0, 9).op(Words.MAP, 1, 0, 0).op(Words.UNMAP, 0, 0, n).run(3)
                .told(0, Words.OUTCOME, -104).register(0, 0, 9).count(Words.TRAPS, 1);
        }
        new Rig("unmap 0 and 3").op(Words.MAP, 0, 0, 0).op(Words.MAP, 0, 0, 3).op(Words.UNMAP, 1, 0, 0)
            .op(Words.UNMAP, 2, 0, 3).run(4).registers(0, 1, 1, 1, 0).count(Words.TRAPS, 0);
    }

    private static void pageBounds() {
        int[] far = {-1, MIN, MAX};
        Rig rig = new Rig("page");
        rig.op(Words.MAP, 0, 0, 3).page(0, 3, -1).run(1).page(0, 3, 0).page(0, 0, -1).badPage(6, 0).badPage(0, 4);
        for (int x : far) {
            rig.badPage(x, 0).badPage(0, x);
        }
        rig.missing(5);
    }

    private static void memoryBounds() {
        int[] far = {-1, MIN, MAX};
        Rig rig = new Rig("memory");
        rig.memory(0, 0, 0).memory(11, 7, 0).badMemory(12, 0).badMemory(0, 8).badMemory(11, 8).badMemory(12, 7);
        for (int x : far) {
            rig.badMemory(x, 0).badMemory(0, x);
        }
        new Rig("a free frame keeps its ints").op(Words.MAP, 0, 0, 0).set(0, 6).op(Words.STORE, 0, 1, 2)
            .op(Words.UNMAP, 0, 0, 0).run(4).memory(0, 2, 6);
    }

    private static void freeFrames() {
        new Rig("free frames").count(Words.FREE, 12).op(Words.MAP, 0, 0, 0).op(Words.MAP, 0, 0, 0)
            .op(Words.MAP, 0, 0, 1).op(Words.UNMAP, 0, 0, 1).op(Words.UNMAP, 0, 0, 1).halt().run(1)
            .count(Words.FREE, 11).run(1).count(Words.FREE, 11).run(1).count(Words.FREE, 10).run(1)
            .count(Words.FREE, 11).run(1).count(Words.FREE, 11).run(1).count(Words.FREE, 12);
    }
}
