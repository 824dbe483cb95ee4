/** A new kernel whose CODE is written place after place, and whose answers are checked with a name. */
final class Rig {
    final GuestKernel kernel = new GuestKernel();
    private final String name;
    private int next = 0;

    Rig(String name) {
        this.name = name;
    }

    Rig at(int place) {
        next = place;
        return this;
    }

    Rig op(int op, int a, int b, int n) {
        kernel.code(next, op, a, b, n);
        next = (next + 1) % 32;
        return this;
    }

    Rig set(int a, int n) {
        return op(Words.SET, a, 0, n);
    }

    Rig halt() {
        return op(Words.HALT, 0, 0, 0);
    }

    Rig run(int n) {
        return runs(n, n);
    }

    Rig runs(int n, int want) {
        int got;
        try {
            got = kernel.run(n);
        } catch (RuntimeException e) {
            Check.tell(name + ": run(" + n + ") threw " + e.getClass().getName() + ", due is " + want);
            return this;
        }
        Check.due(name + ": run(" + n + ")", want, got);
        return this;
    }

    Rig stuck(int n) {
        Check.stuck(name + ": run(" + n + ")", () -> kernel.run(n));
        return this;
    }

    Rig register(int g, int r, int want) {
        return due("register(" + g + ", " + r + ")", want, () -> kernel.register(g, r));
    }

    Rig told(int g, int what, int want) {
        return due("told(" + g + ", " + what + ")", want, () -> kernel.told(g, what));
    }

    Rig page(int g, int p, int want) {
        return due("page(" + g + ", " + p + ")", want, () -> kernel.page(g, p));
    }

    Rig memory(int f, int i, int want) {
        return due("memory(" + f + ", " + i + ")", want, () -> kernel.memory(f, i));
    }

    Rig object(int k, int what, int want) {
        return due("object(" + k + ", " + what + ")", want, () -> kernel.object(k, what));
    }

    Rig written(int i, int op, int a, int b, int n) {
        due("written(" + i + ", 0)", op, () -> kernel.written(i, 0));
        due("written(" + i + ", 1)", a, () -> kernel.written(i, 1));
        due("written(" + i + ", 2)", b, () -> kernel.written(i, 2));
        return due("written(" + i + ", 3)", n, () -> kernel.written(i, 3));
    }

    Rig count(int what, int want) {
        return due("count(" + what + ")", want, () -> kernel.count(what));
    }

    Rig missing(int g) {
        Check.missing(name + ": told(" + g + ", 0)", () -> kernel.told(g, 0));
        return this;
    }

    private Rig due(String call, int want, java.util.function.IntSupplier answer) {
        int got;
        try {
            got = answer.getAsInt();
        } catch (RuntimeException e) {
            Check.tell(name + ": " + call + " threw " + e.getClass().getName() + ", due is " + want);
            return this;
        }
        Check.due(name + ": " + call, want, got);
        return this;
    }
}
