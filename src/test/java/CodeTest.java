/** Promises 2 and 9: what is written to a PLACE, and what is answered of it. */
public final class CodeTest {
    public static void main(String[] args) {
        writes();
        writesAgain();
        badNumbersWriteNothing();
        badQuestions();
        placeThirtyOneIsFollowedByZero();
        runningGuestsSeeNewCode();
        Check.end();
    }

    private static void writes() {
        Rig rig = new Rig("code");
        rig.at(0).op(21, 3, 2, Integer.MIN_VALUE).at(31).op(20, 0, 3, Integer.MAX_VALUE).at(7).op(5, 1, 1, -1);
        rig.written(0, 21, 3, 2, Integer.MIN_VALUE).written(31, 20, 0, 3, Integer.MAX_VALUE)
            .written(7, 5, 1, 1, -1).written(1, 0, 0, 0, 0).written(30, 0, 0, 0, 0);
        for (int op = 0; op <= 21; op++) {
            rig.at(4).op(op, 1, 2, 100 + op).written(4, op, 1, 2, 100 + op);
        }
    }

    private static void writesAgain() {
        new Rig("code written again").at(5).op(3, 1, 2, 9).at(5).op(0, 0, 0, 0).written(5, 0, 0, 0, 0)
            .at(5).op(9, 2, 3, 4).written(5, 9, 2, 3, 4);
    }

    private static void badNumbersWriteNothing() {
        Rig rig = new Rig("code after bad numbers");
        rig.at(3).op(8, 1, 2, 5);
        GuestKernel k = rig.kernel;
        int[] far = {-1, Integer.MIN_VALUE, Integer.MAX_VALUE};
        for (int x : far) {
            Check.bad("code with i " + x, () -> k.code(x, 1, 0, 0, 0));
            Check.bad("code with op " + x, () -> k.code(3, x, 0, 0, 0));
            Check.bad("code with a " + x, () -> k.code(3, 1, x, 0, 0));
            Check.bad("code with b " + x, () -> k.code(3, 1, 0, x, 0));
        }
        Check.bad("code(32, 1, 0, 0, 0)", () -> k.code(32, 1, 0, 0, 0));
        Check.bad("code(3, 22, 0, 0, 0)", () -> k.code(3, 22, 0, 0, 0));
        Check.bad("code(3, 1, 4, 0, 0)", () -> k.code(3, 1, 4, 0, 0));
        Check.bad("code(3, 1, 0, 4, 0)", () -> k.code(3, 1, 0, 4, 0));
        rig.written(3, 8, 1, 2, 5);
    }

    private static void badQuestions() {
        GuestKernel k = new GuestKernel();
        Check.bad("written(-1, 0)", () -> k.written(-1, 0));
        Check.bad("written(32, 0)", () -> k.written(32, 0));
        Check.bad("written(0, -1)", () -> k.written(0, -1));
        Check.bad("written(0, 4)", () -> k.written(0, 4));
        Check.bad("written(MIN, MAX)", () -> k.written(Integer.MIN_VALUE, Integer.MAX_VALUE));
    }

    private static void placeThirtyOneIsFollowedByZero() {
        new Rig("place 31").op(Words.GO_IF_ZERO, 1, 0, 31).at(31).set(1, 8).run(2).told(0, Words.PLACE, 0)
            .register(0, 1, 8);
    }

    private static void runningGuestsSeeNewCode() {
        new Rig("new code ahead").set(0, 1).set(1, 1).run(1).at(1).set(1, 9).run(1).register(0, 1, 9);
    }
}
