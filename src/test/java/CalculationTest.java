/** OPs 1 to 6 and 9 to 11: what they do to REGISTERS, PLACE and HANDLER. */
public final class CalculationTest {
    private static final int MIN = Integer.MIN_VALUE;
    private static final int MAX = Integer.MAX_VALUE;

    public static void main(String[] args) {
        setsAndAdds();
        results();
        sameRegister();
        divisionByZeroTraps();
        jumps();
        targets();
        handlers();
        Check.end();
    }

    private static void setsAndAdds() {
        new Rig("1 and 2").set(3, MIN).set(0, MAX).op(Words.ADD_NUMBER, 1, 0, 1).op(Words.ADD_NUMBER, 2, 3, -1)
            .run(4).register(0, 3, MIN).register(0, 0, MAX).register(0, 1, MIN).register(0, 2, MAX)
            .told(0, Words.PLACE, 4);
    }

    private static void results() {
        result(Words.ADD, 5, 7, 12);
        result(Words.ADD, MAX, 1, MIN);
        result(Words.SUBTRACT, 5, 7, -2);
        result(Words.SUBTRACT, MIN, 1, MAX);
        result(Words.MULTIPLY, -6, 7, -42);
        result(Words.MULTIPLY, 65536, 65536, 0);
        result(Words.MULTIPLY, MIN, -1, MIN);
        result(Words.DIVIDE, 7, 2, 3);
        result(Words.DIVIDE, -7, 2, -3);
        result(Words.DIVIDE, 7, -2, -3);
        result(Words.DIVIDE, -7, -2, 3);
        result(Words.DIVIDE, 0, 5, 0);
        result(Words.DIVIDE, MIN, -1, MIN);
    }

    private static void result(int op, int a, int b, int want) {
        new Rig("op " + op + " of " + a + " and " + b).set(1, a).set(2, b).op(op, 1, 2, 77).run(3)
            .register(0, 1, want).register(0, 2, b).register(0, 0, 0).register(0, 3, 0).told(0, Words.PLACE, 3)
            .told(0, Words.HANDLER, -1);
    }

    private static void sameRegister() {
        new Rig("a is b").set(0, 9).op(Words.ADD, 0, 0, 0).op(Words.MULTIPLY, 0, 0, 0).run(3).register(0, 0, 324)
            .op(Words.DIVIDE, 0, 0, 0).run(1).register(0, 0, 1).op(Words.SUBTRACT, 0, 0, 0).run(1).register(0, 0, 0);
    }

    private static void divisionByZeroTraps() {
        new Rig("by zero").set(1, 8).op(Words.DIVIDE, 1, 2, 5).runs(9, 2).told(0, Words.STATE, Words.DEAD)
            .told(0, Words.OUTCOME, -101).told(0, Words.PLACE, 1).register(0, 1, 8).register(0, 3, 0);
    }

    private static void jumps() {
        jump(Words.GO_IF_BELOW, 1, 2, true);
        jump(Words.GO_IF_BELOW, 2, 2, false);
        jump(Words.GO_IF_BELOW, 3, 2, false);
        jump(Words.GO_IF_BELOW, MIN, MAX, true);
        jump(Words.GO_IF_BELOW, MAX, MIN, false);
        jump(Words.GO_IF_ZERO, 0, 7, true);
        jump(Words.GO_IF_ZERO, 1, 0, false);
        jump(Words.GO_IF_ZERO, -1, 0, false);
    }

    private static void jump(int op, int a, int b, boolean goes) {
        new Rig("jump " + op + " with " + a + ", " + b).set(0, a).set(3, b).op(op, 0, 3, 20).run(3)
            .told(0, Words.PLACE, goes ? 20 : 3).register(0, 0, a).register(0, 3, b).told(0, Words.HANDLER, -1);
    }

    private static void targets() {
        int[] numbers = {0, 31, 32, 33, -1, -32, -33, MAX, MIN};
        int[] places = {0, 31, 0, 1, 31, 0, 31, 31, 0};
        for (int i = 0; i < numbers.length; i++) {
            int n = numbers[i];
            new Rig("10 to " + n).set(1, 5).op(Words.GO_IF_ZERO, 0, 0, n).run(2).told(0, Words.PLACE, places[i]);
            new Rig("9 to " + n).set(1, 5).op(Words.GO_IF_BELOW, 0, 1, n).run(2).told(0, Words.PLACE, places[i]);
            new Rig("15 to " + n).op(Words.GO_IF_ZERO, 0, 0, 10).at(10).op(Words.SPAWN, 3, 0, 12)
                .op(Words.SPAWN, 3, 0, n).op(Words.RECEIVE, 0, 0, 0).run(3).told(2, Words.PLACE, places[i]);
        }
    }

    private static void handlers() {
        int[] numbers = {0, 31, 32, 65, MAX, -1, -2, MIN};
        int[] places = {0, 31, 0, 1, 31, -1, -1, -1};
        for (int i = 0; i < numbers.length; i++) {
            new Rig("handler " + numbers[i]).op(Words.HANDLE, 0, 0, 7).op(Words.HANDLE, 0, 0, numbers[i]).run(1)
                .told(0, Words.HANDLER, 7).run(1).told(0, Words.HANDLER, places[i]).told(0, Words.PLACE, 2);
        }
    }
}
