import java.util.function.IntSupplier;

/** A new kernel whose CODE is written place after place, and whose answers are checked with a name. */
final class Rig {
    /** What a kernel answers after so many calls is free. */
    private static final int MOST_CALLS = 512;

    private final GuestKernel kernel = new GuestKernel();
    private final String name;
    private int next = 0;
    private int calls = 0;

    Rig(String name) {
        this.name = name;
    }

    Rig at(int place) {
        next = place;
        return this;
    }

    Rig op(int op, int a, int b, int n) {
        called().code(next, op, a, b, n);
        next = (next + 1) % 32;
        return this;
    }

    Rig set(int a, int n) {
        return op(Words.SET, a, 0, n);
    }

    Rig halt() {
        return op(Words.HALT, 0, 0, 0);
    }

    Rig yield() {
        return op(Words.YIELD, 0, 0, 0);
    }

    /** An INSTRUCTION that BLOCKS whoever does it, as nothing is sent through CHANNEL 3. */
    Rig rest() {
        return op(Words.RECEIVE, 0, 0, 3);
    }

    Rig run(int n) {
        return runs(n, n);
    }

    Rig runs(int n, int want) {
        return due("run(" + n + ")", want, () -> called().run(n));
    }

    Rig stuck(int n) {
        Check.stuck(name + ": run(" + n + ")", () -> called().run(n));
        return this;
    }

    Rig badCode(int i, int op, int a, int b) {
        Check.bad(name + ": code(" + i + ", " + op + ", " + a + ", " + b + ", 0)", () -> called().code(i, op, a, b, 0));
        return this;
    }

    Rig badRun(int n) {
        Check.bad(name + ": run(" + n + ")", () -> called().run(n));
        return this;
    }

    Rig register(int g, int r, int want) {
        return due("register(" + g + ", " + r + ")", want, () -> called().register(g, r));
    }

    Rig registers(int g, int r0, int r1, int r2, int r3) {
        return register(g, 0, r0).register(g, 1, r1).register(g, 2, r2).register(g, 3, r3);
    }

    Rig badRegister(int g, int r) {
        Check.bad(name + ": register(" + g + ", " + r + ")", () -> called().register(g, r));
        return this;
    }

    Rig told(int g, int what, int want) {
        return due("told(" + g + ", " + what + ")", want, () -> called().told(g, what));
    }

    Rig state(int g, int want) {
        return told(g, Words.STATE, want);
    }

    Rig badTold(int g, int what) {
        Check.bad(name + ": told(" + g + ", " + what + ")", () -> called().told(g, what));
        return this;
    }

    Rig page(int g, int p, int want) {
        return due("page(" + g + ", " + p + ")", want, () -> called().page(g, p));
    }

    Rig pages(int g, int p0, int p1, int p2, int p3) {
        return page(g, 0, p0).page(g, 1, p1).page(g, 2, p2).page(g, 3, p3);
    }

    Rig badPage(int g, int p) {
        Check.bad(name + ": page(" + g + ", " + p + ")", () -> called().page(g, p));
        return this;
    }

    Rig memory(int f, int i, int want) {
        return due("memory(" + f + ", " + i + ")", want, () -> called().memory(f, i));
    }

    Rig badMemory(int f, int i) {
        Check.bad(name + ": memory(" + f + ", " + i + ")", () -> called().memory(f, i));
        return this;
    }

    Rig object(int k, int what, int want) {
        return due("object(" + k + ", " + what + ")", want, () -> called().object(k, what));
    }

    Rig badObject(int k, int what) {
        Check.bad(name + ": object(" + k + ", " + what + ")", () -> called().object(k, what));
        return this;
    }

    Rig written(int i, int op, int a, int b, int n) {
        return part(i, 0, op).part(i, 1, a).part(i, 2, b).part(i, 3, n);
    }

    Rig badWritten(int i, int what) {
        Check.bad(name + ": written(" + i + ", " + what + ")", () -> called().written(i, what));
        return this;
    }

    Rig count(int what, int want) {
        return due("count(" + what + ")", want, () -> called().count(what));
    }

    /** Every call that names the GUEST finds it missing. */
    Rig missing(int g) {
        Check.missing(name + ": told(" + g + ", 0)", () -> called().told(g, 0));
        Check.missing(name + ": register(" + g + ", 0)", () -> called().register(g, 0));
        Check.missing(name + ": page(" + g + ", 0)", () -> called().page(g, 0));
        return this;
    }

    /** For answers that a test puts together with others. */
    int pageOf(int g, int p) {
        return called().page(g, p);
    }

    int toldOf(int g, int what) {
        return called().told(g, what);
    }

    int counted(int what) {
        return called().count(what);
    }

    private Rig part(int i, int what, int want) {
        return due("written(" + i + ", " + what + ")", want, () -> called().written(i, what));
    }

    private GuestKernel called() {
        calls++;
        if (calls > MOST_CALLS) {
            Check.tell(name + ": the test makes more than " + MOST_CALLS + " calls");
        }
        return kernel;
    }

    private Rig due(String call, int want, IntSupplier answer) {
        int got;
        try {
            got = answer.getAsInt();
        } catch (RuntimeException e) {
            Check.tell(name + ": " + call + " threw " + e.getClass().getName() + ", due is " + want);
            return this;
        }
        Check.due(name + ": " + call, want, got);
        return this;
    }
}
