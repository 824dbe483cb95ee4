/** OPs 1 to 6 and 9 to 11: what they do to REGISTERS, PLACE and HANDLER. */
public final class CalculationTest {
    private static final int MIN = Integer.MIN_VALUE;
    private static final int MAX = Integer.MAX_VALUE;

    public static void main(String[] args) {
        Check.sentence("1 a = n.", CalculationTest::sets);
        Check.sentence("2 a = b + n.", CalculationTest::addsNumbers);
        Check.sentence("3 a = a + b, 4 a - b, 5 a * b (wrapping)", CalculationTest::wraps);
        Check.sentence("6 a / b towards zero", CalculationTest::divides);
        Check.sentence("by 0: TRAP 1.", CalculationTest::divisionByZeroTraps);
        Check.sentence("a, b (0 .. 3, REGISTERS)", CalculationTest::everyRegister);
        Check.sentence("9 TARGET, if a is below b.", CalculationTest::jumpsIfBelow);
        Check.sentence("10 TARGET, if a is 0.", CalculationTest::jumpsIfZero);
        Check.sentence("11 HANDLER is n modulo 32 (or -1, if n is below 0).", CalculationTest::handlers);
        Check.sentence("a HANDLER (a PLACE, or -1)", CalculationTest::handlerIsAPlaceOrNone);
        Check.end();
    }

    private static void sets() {
        new Rig("set").set(0, MAX).set(1, MIN).set(2, -1).set(3, 9).set(3, 0).run(5).registers(0, MAX, MIN, -1, 0)
            .told(0, Words.PLACE, 5);
    }

    private static void addsNumbers() {
        new Rig("a number added").set(0, MAX).set(3, MIN).op(Words.ADD_NUMBER, 1, 0, 1).op(Words.ADD_NUMBER, 2, 3, -1)
            .run(4).registers(0, MAX, MIN, MAX, MIN).told(0, Words.PLACE, 4);
        new Rig("a number added to itself").set(2, 40).op(Words.ADD_NUMBER, 2, 2, 2).op(Words.ADD_NUMBER, 2, 2, MAX)
            .run(2).register(0, 2, 42).run(1).register(0, 2, MIN + 41);
    }

    private static void wraps() {
        result(Words.ADD, 5, 7, 12);
        result(Words.ADD, MAX, 1, MIN);
        result(Words.ADD, MIN, -1, MAX);
        result(Words.ADD, MIN, MIN, 0);
        result(Words.SUBTRACT, 5, 7, -2);
        result(Words.SUBTRACT, MIN, 1, MAX);
        result(Words.SUBTRACT, 0, MIN, MIN);
        result(Words.MULTIPLY, -6, 7, -42);
        result(Words.MULTIPLY, 65536, 65536, 0);
        result(Words.MULTIPLY, MAX, MAX, 1);
        result(Words.MULTIPLY, MIN, -1, MIN);
    }

    private static void divides() {
        result(Words.DIVIDE, 7, 2, 3);
        result(Words.DIVIDE, -7, 2, -3);
        result(Words.DIVIDE, 7, -2, -3);
        result(Words.DIVIDE, -7, -2, 3);
        result(Words.DIVIDE, 1, 2, 0);
        result(Words.DIVIDE, -1, 2, 0);
        result(Words.DIVIDE, 0, 5, 0);
        result(Words.DIVIDE, MIN, 1, MIN);
        result(Words.DIVIDE, MIN, -1, MIN);
        result(Words.DIVIDE, MIN, MAX, -1);
    }

    private static void result(int op, int a, int b, int want) {
        new Rig("op " + op + " of " + a + " and " + b).set(1, a).set(2, b).op(op, 1, 2, 77).run(3)
            .registers(0, 0, want, b, 0).told(0, Words.PLACE, 3).told(0, Words.HANDLER, -1).count(Words.TRAPS, 0);
    }

    private static void divisionByZeroTraps() {
        int[] dividends = {8, 0, -8, MIN, MAX};
        for (int a : dividends) {
            new Rig(a + " by zero").set(1, a).op(Words.DIVIDE, 1, 2, 5).runs(9, 2).state(0, Words.DEAD)
                .told(0, Words.OUTCOME, -101).told(0, Words.PLACE, 1).registers(0, 0, a, 0, 0).count(Words.TRAPS, 1);
        }
        new Rig("zero by itself").op(Words.DIVIDE, 0, 0, 5).runs(9, 1).told(0, Words.OUTCOME, -101);
    }

    private static void everyRegister() {
        for (int a = 0; a <= 3; a++) {
            int b = 3 - a;
            new Rig("registers " + a + " and " + b).set(a, 20).set(b, 3).op(Words.SUBTRACT, a, b, 0).run(3)
                .register(0, a, 17).register(0, b, 3);
            new Rig("register " + a + " twice").set(a, 9).op(Words.ADD, a, a, 0).op(Words.MULTIPLY, a, a, 0).run(3)
                .register(0, a, 324).op(Words.DIVIDE, a, a, 0).run(1).register(0, a, 1)
                .op(Words.SUBTRACT, a, a, 0).run(1).register(0, a, 0);
        }
    }

    private static void jumpsIfBelow() {
        jump(Words.GO_IF_BELOW, 1, 2, true);
        jump(Words.GO_IF_BELOW, 2, 2, false);
        jump(Words.GO_IF_BELOW, 3, 2, false);
        jump(Words.GO_IF_BELOW, -1, 0, true);
        jump(Words.GO_IF_BELOW, MIN, MAX, true);
        jump(Words.GO_IF_BELOW, MAX, MIN, false);
        jump(Words.GO_IF_BELOW, MIN, MIN, false);
        new Rig("below itself").op(Words.GO_IF_BELOW, 2, 2, 20).run(1).told(0, Words.PLACE, 1);
    }

    private static void jumpsIfZero() {
        jump(Words.GO_IF_ZERO, 0, 7, true);
        jump(Words.GO_IF_ZERO, 1, 0, false);
        jump(Words.GO_IF_ZERO, -1, 0, false);
        jump(Words.GO_IF_ZERO, MIN, 0, false);
    }

    private static void jump(int op, int a, int b, boolean goes) {
        new Rig("jump " + op + " with " + a + ", " + b).set(0, a).set(3, b).op(op, 0, 3, 20).run(3)
            .told(0, Words.PLACE, goes ? 20 : 3).registers(0, a, 0, 0, b).told(0, Words.HANDLER, -1);
    }

    private static void handlers() {
        int[] numbers = {0, 31, 32, 65, MAX, -1, -2, -32, MIN};
        int[] places = {0, 31, 0, 1, 31, -1, -1, -1, -1};
        for (int i = 0; i < numbers.length; i++) {
            new Rig("handler " + numbers[i]).op(Words.HANDLE, 0, 0, 7).op(Words.HANDLE, 0, 0, numbers[i]).run(1)
                .told(0, Words.HANDLER, 7).run(1).told(0, Words.HANDLER, places[i]).told(0, Words.PLACE, 2);
        }
    }

    private static void handlerIsAPlaceOrNone() {
        new Rig("the last place is a handler").op(Words.HANDLE, 0, 0, 31).op(Words.UNLOCK, 0, 0, 0).run(2)
            .told(0, Words.PLACE, 31).register(0, 3, 5);
        new Rig("the first place is a handler").op(Words.HANDLE, 0, 0, 0).op(Words.UNLOCK, 0, 0, 0).run(2)
            .told(0, Words.PLACE, 0).register(0, 3, 5).state(0, Words.AT_HAND);
        new Rig("a handler taken back").op(Words.HANDLE, 0, 0, 31).op(Words.HANDLE, 0, 0, -1)
            .op(Words.UNLOCK, 0, 0, 0).run(3).told(0, Words.PLACE, 2).state(0, Words.DEAD);
    }
}
