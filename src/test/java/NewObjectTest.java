/** Promise 1: what a new object answers. */
public final class NewObjectTest {
    public static void main(String[] args) {
        guestZero();
        theOthersAreAbsent();
        theRestIsEmpty();
        objectsShareNothing();
        Check.end();
    }

    private static void guestZero() {
        Rig rig = new Rig("guest 0 of a new object");
        rig.told(0, Words.STATE, Words.READY).told(0, Words.PLACE, 0).told(0, Words.HANDLER, -1)
            .told(0, Words.QUOTA, 12).told(0, Words.USED, 0).told(0, Words.GIVEN, 0)
            .told(0, Words.PARENT, -1).told(0, Words.OUTCOME, 0).told(0, Words.GUEST_TRAPS, 0);
        for (int i = 0; i < 4; i++) {
            rig.register(0, i, 0).page(0, i, -1);
        }
    }

    private static void theOthersAreAbsent() {
        Rig rig = new Rig("the other guests of a new object");
        for (int g = 1; g < 6; g++) {
            rig.missing(g);
        }
    }

    private static void theRestIsEmpty() {
        Rig rig = new Rig("a new object");
        for (int f = 0; f < 12; f++) {
            for (int i = 0; i < 8; i++) {
                rig.memory(f, i, 0);
            }
        }
        for (int i = 0; i < 32; i++) {
            rig.written(i, Words.HALT, 0, 0, 0);
        }
        for (int k = 0; k < 4; k++) {
            rig.object(k, Words.HOLDER, -1).object(k, Words.LOCK_ROW, 0).object(k, Words.INTS, 0)
                .object(k, Words.SENDERS, 0).object(k, Words.RECEIVERS, 0);
        }
        for (int what = 0; what < 8; what++) {
            rig.count(what, what == Words.FREE ? 12 : 0);
        }
        rig.count(10, -1).count(11, -1).count(20, 1).count(21, 0);
    }

    private static void objectsShareNothing() {
        Rig used = new Rig("a used object");
        used.set(0, 7).op(Words.MAP, 1, 0, 0).op(Words.STORE, 0, 2, 3).op(Words.LOCK, 0, 0, 1)
            .op(Words.SEND, 0, 0, 2).run(5).memory(0, 3, 7);
        Rig fresh = new Rig("an object beside a used one");
        fresh.register(0, 0, 0).memory(0, 3, 0).object(1, Words.HOLDER, -1).object(2, Words.INTS, 0)
            .written(0, 0, 0, 0, 0).count(Words.TICKS, 0).count(Words.FREE, 12);
    }
}
