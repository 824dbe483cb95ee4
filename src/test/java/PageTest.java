/** Promises 6 and 7: FRAMES, PAGES, and OPs 7, 8, 13 and 14. */
public final class PageTest {
    public static void main(String[] args) {
        leastFreeFrame();
        mapAnswers();
        unmapAnswers();
        quotaIsTheLimit();
        givenQuotaIsNotThere();
        wrongPagesTrap();
        storesAndLoads();
        wrongAddressesTrap();
        missingPagesTrap();
        freedFramesKeepTheirInts();
        mappedFramesAreZero();
        framesOfTheDeadAreFree();
        Check.end();
    }

    private static void leastFreeFrame() {
        new Rig("least free frame").op(Words.MAP, 0, 0, 3).op(Words.MAP, 0, 0, 1).op(Words.MAP, 0, 0, 0)
            .op(Words.UNMAP, 0, 0, 3).op(Words.UNMAP, 0, 0, 1).op(Words.MAP, 0, 0, 2).run(3)
            .page(0, 3, 0).page(0, 1, 1).page(0, 0, 2).page(0, 2, -1).told(0, Words.USED, 3).count(Words.FREE, 9)
            .run(2).page(0, 3, -1).page(0, 1, -1).count(Words.FREE, 11).told(0, Words.USED, 1)
            .run(1).page(0, 2, 0).page(0, 0, 2).count(Words.FREE, 10);
    }

    private static void mapAnswers() {
        new Rig("map").set(0, 9).set(1, 9).op(Words.MAP, 0, 0, 2).op(Words.MAP, 1, 0, 2).run(4).register(0, 0, 1)
            .register(0, 1, 0).page(0, 2, 0).told(0, Words.USED, 1).count(Words.FREE, 11).count(Words.TRAPS, 0);
    }

    private static void unmapAnswers() {
        new Rig("unmap").set(0, 9).set(1, 9).op(Words.MAP, 2, 0, 3).op(Words.UNMAP, 0, 0, 3)
            .op(Words.UNMAP, 1, 0, 3).run(5).register(0, 0, 1).register(0, 1, 0).page(0, 3, -1)
            .told(0, Words.USED, 0).count(Words.FREE, 12).count(Words.TRAPS, 0);
    }

    private static void quotaIsTheLimit() {
        new Rig("quota 2").set(1, 2).op(Words.SPAWN, 0, 1, 8).halt()
            .at(8).op(Words.MAP, 0, 0, 0).op(Words.MAP, 1, 0, 1).set(2, 9).op(Words.MAP, 2, 0, 2)
            .op(Words.UNMAP, 3, 0, 0).op(Words.MAP, 3, 0, 2).run(5)
            .register(1, 0, 1).register(1, 1, 1).register(1, 2, 0).page(1, 2, -1).told(1, Words.USED, 2)
            .run(2).register(1, 3, 1).page(1, 2, 0).told(1, Words.USED, 2);
        new Rig("quota 0").op(Words.SPAWN, 0, 1, 8).halt().at(8).set(0, 9).op(Words.MAP, 0, 0, 0).run(2)
            .register(1, 0, 0).page(1, 0, -1).count(Words.FREE, 12);
    }

    private static void givenQuotaIsNotThere() {
        new Rig("quota given").set(1, 11).op(Words.SPAWN, 0, 1, 8).op(Words.MAP, 2, 0, 0).op(Words.MAP, 3, 0, 1)
            .at(8).op(Words.RECEIVE, 0, 0, 0).run(4).register(0, 2, 1).register(0, 3, 0).page(0, 0, 0)
            .page(0, 1, -1).told(0, Words.GIVEN, 11).told(0, Words.USED, 1).count(Words.FREE, 11);
    }

    private static void wrongPagesTrap() {
        int[] wrong = {-1, 4, Integer.MIN_VALUE, Integer.MAX_VALUE};
        for (int n : wrong) {
            new Rig("map " + n).set(0, 9).op(Words.MAP, 0, 0, n).run(2).told(0, Words.OUTCOME, -104)
                .register(0, 0, 9).count(Words.FREE, 12).count(Words.TRAPS, 1);
            new Rig("unmap " + n).set(0, 9).op(Words.UNMAP, 0, 0, n).run(2).told(0, Words.OUTCOME, -104)
                .register(0, 0, 9).count(Words.TRAPS, 1);
        }
    }

    private static void storesAndLoads() {
        Rig rig = new Rig("store and load");
        rig.op(Words.MAP, 0, 0, 0).op(Words.MAP, 0, 0, 3).set(0, 77).set(1, 30).op(Words.STORE, 0, 1, 1)
            .op(Words.STORE, 1, 2, 0).op(Words.LOAD, 2, 1, 1).op(Words.LOAD, 3, 1, -30).run(8)
            .memory(1, 7, 77).memory(0, 0, 30).memory(1, 6, 0).memory(0, 1, 0).register(0, 2, 77).register(0, 3, 30);
        new Rig("an address that wraps").op(Words.MAP, 0, 0, 1).set(1, Integer.MIN_VALUE).set(2, 5)
            .op(Words.STORE, 2, 1, Integer.MIN_VALUE + 8).run(4).memory(0, 0, 5).count(Words.TRAPS, 0);
        new Rig("a and b the same").op(Words.MAP, 0, 0, 0).set(1, 4).op(Words.STORE, 1, 1, 0)
            .op(Words.LOAD, 1, 1, 1).run(4).memory(0, 4, 4).register(0, 1, 0);
    }

    private static void wrongAddressesTrap() {
        int[] wrong = {-1, 32, Integer.MIN_VALUE, Integer.MAX_VALUE};
        for (int n : wrong) {
            new Rig("load " + n).op(Words.MAP, 0, 0, 0).op(Words.MAP, 0, 0, 3).set(0, 9).op(Words.LOAD, 0, 1, n)
                .run(4).told(0, Words.OUTCOME, -102).register(0, 0, 9).told(0, Words.PLACE, 3);
            new Rig("store " + n).op(Words.MAP, 0, 0, 0).op(Words.MAP, 0, 0, 3).set(0, 9)
                .op(Words.STORE, 0, 1, n).run(4).told(0, Words.OUTCOME, -102).memory(0, 0, 0).memory(1, 7, 0);
        }
        new Rig("register b out of range").set(1, 40).op(Words.LOAD, 0, 1, -8).run(2).told(0, Words.OUTCOME, -102);
    }

    private static void missingPagesTrap() {
        int[] addresses = {0, 7, 16, 31};
        for (int n : addresses) {
            new Rig("no page at " + n).op(Words.MAP, 0, 0, 1).set(0, 9).op(Words.LOAD, 0, 1, n).run(3)
                .told(0, Words.OUTCOME, -103).register(0, 0, 9);
            new Rig("no page to store at " + n).op(Words.MAP, 0, 0, 1).set(0, 9).op(Words.STORE, 0, 1, n).run(3)
                .told(0, Words.OUTCOME, -103).memory(0, n % 8, 0);
        }
    }

    private static void freedFramesKeepTheirInts() {
        new Rig("a freed frame").op(Words.MAP, 0, 0, 0).set(0, 6).op(Words.STORE, 0, 1, 2)
            .op(Words.UNMAP, 0, 0, 0).run(4).memory(0, 2, 6);
    }

    private static void mappedFramesAreZero() {
        Rig rig = new Rig("a frame mapped again");
        rig.op(Words.MAP, 0, 0, 0).set(0, 6).op(Words.STORE, 0, 1, 0).op(Words.STORE, 0, 1, 7)
            .op(Words.UNMAP, 0, 0, 0).op(Words.MAP, 0, 0, 1).op(Words.LOAD, 2, 1, 8).run(7).register(0, 2, 0);
        for (int i = 0; i < 8; i++) {
            rig.memory(0, i, 0);
        }
        new Rig("the frames beside one mapped anew").op(Words.MAP, 0, 0, 0).op(Words.MAP, 0, 0, 1)
            .op(Words.MAP, 0, 0, 2).set(0, 6).op(Words.STORE, 0, 1, 7).op(Words.STORE, 0, 1, 16)
            .op(Words.UNMAP, 0, 0, 1).op(Words.MAP, 0, 0, 1).run(8).memory(0, 7, 6).memory(2, 0, 6);
    }

    private static void framesOfTheDeadAreFree() {
        new Rig("the dead have no pages").op(Words.MAP, 0, 0, 0).op(Words.MAP, 0, 0, 3).op(Words.STORE, 0, 1, 5)
            .halt().run(4).page(0, 0, -1).page(0, 3, -1).told(0, Words.USED, 0).count(Words.FREE, 12)
            .memory(0, 5, 1).told(0, Words.QUOTA, 12);
    }
}
