/** Promises 4 to 8: the questions' bounds, and which of two wrong things is told. */
public final class QuestionTest {
    private static final int[] FAR = {-1, Integer.MIN_VALUE, Integer.MAX_VALUE};

    public static void main(String[] args) {
        badRegister();
        badTold();
        badPage();
        badMemory();
        badObject();
        badComesBeforeMissing();
        allStates();
        Check.end();
    }

    private static void badRegister() {
        GuestKernel k = new GuestKernel();
        for (int x : FAR) {
            Check.bad("register(" + x + ", 0)", () -> k.register(x, 0));
            Check.bad("register(0, " + x + ")", () -> k.register(0, x));
        }
        Check.bad("register(6, 0)", () -> k.register(6, 0));
        Check.bad("register(0, 4)", () -> k.register(0, 4));
        Check.missing("register(1, 0)", () -> k.register(1, 0));
        Check.missing("register(5, 3)", () -> k.register(5, 3));
    }

    private static void badTold() {
        GuestKernel k = new GuestKernel();
        for (int x : FAR) {
            Check.bad("told(" + x + ", 0)", () -> k.told(x, 0));
            Check.bad("told(0, " + x + ")", () -> k.told(0, x));
        }
        Check.bad("told(6, 0)", () -> k.told(6, 0));
        Check.bad("told(0, 9)", () -> k.told(0, 9));
        Check.missing("told(1, 0)", () -> k.told(1, 0));
        Check.missing("told(5, 8)", () -> k.told(5, 8));
    }

    private static void badPage() {
        GuestKernel k = new GuestKernel();
        for (int x : FAR) {
            Check.bad("page(" + x + ", 0)", () -> k.page(x, 0));
            Check.bad("page(0, " + x + ")", () -> k.page(0, x));
        }
        Check.bad("page(6, 0)", () -> k.page(6, 0));
        Check.bad("page(0, 4)", () -> k.page(0, 4));
        Check.missing("page(1, 0)", () -> k.page(1, 0));
        Check.missing("page(5, 3)", () -> k.page(5, 3));
    }

    private static void badMemory() {
        GuestKernel k = new GuestKernel();
        for (int x : FAR) {
            Check.bad("memory(" + x + ", 0)", () -> k.memory(x, 0));
            Check.bad("memory(0, " + x + ")", () -> k.memory(0, x));
        }
        Check.bad("memory(12, 0)", () -> k.memory(12, 0));
        Check.bad("memory(0, 8)", () -> k.memory(0, 8));
    }

    private static void badObject() {
        GuestKernel k = new GuestKernel();
        for (int x : FAR) {
            Check.bad("object(" + x + ", 0)", () -> k.object(x, 0));
            Check.bad("object(0, " + x + ")", () -> k.object(0, x));
        }
        Check.bad("object(4, 0)", () -> k.object(4, 0));
        Check.bad("object(4, 2)", () -> k.object(4, 2));
        Check.bad("object(0, 5)", () -> k.object(0, 5));
    }

    private static void badComesBeforeMissing() {
        GuestKernel k = new GuestKernel();
        Check.bad("register(3, 4) of one that is absent", () -> k.register(3, 4));
        Check.bad("told(3, 9) of one that is absent", () -> k.told(3, 9));
        Check.bad("page(3, -1) of one that is absent", () -> k.page(3, -1));
    }

    private static void allStates() {
        Rig rig = new Rig("all four states");
        rig.op(Words.SPAWN, 1, 0, 8).op(Words.SPAWN, 1, 0, 12).op(Words.SPAWN, 1, 0, 16)
            .at(8).op(Words.RECEIVE, 0, 0, 0).at(12).op(Words.YIELD, 0, 0, 0).at(16).halt();
        rig.run(3).told(0, Words.STATE, Words.READY).told(1, Words.STATE, Words.BLOCKED)
            .told(2, Words.STATE, Words.READY).told(3, Words.STATE, Words.DEAD);
        rig.at(12).op(Words.ADD_NUMBER, 0, 0, 1).run(1).told(2, Words.STATE, Words.AT_HAND).count(10, 2)
            .count(11, -1).count(20, 1).count(21, 0);
    }
}
