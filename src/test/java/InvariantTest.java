import java.util.NoSuchElementException;
import java.util.Random;

/** What the document says of every state, looked at now and then in runs of code drawn from fixed seeds. */
public final class InvariantTest {
    private static final int SEEDS = 20_000;
    /** No more, as a kernel's answers are free after 512 calls. */
    private static final int LOOKS = 3;
    private static final int ABSENT = -1;

    public static void main(String[] args) {
        for (int seed = 0; seed < SEEDS; seed++) {
            runOne(seed);
        }
        Check.end();
    }

    private static void runOne(int seed) {
        Random random = new Random(seed);
        GuestKernel kernel = new GuestKernel();
        for (int i = 0; i < 32; i++) {
            write(kernel, random, i);
        }
        for (int look = 0; look < LOOKS; look++) {
            String name = "seed " + seed + ", look " + look + ": ";
            goOn(kernel, random.nextInt(50));
            boolean ticked = tick(kernel, name);
            frames(kernel, name);
            quotas(kernel, name);
            rows(kernel, name);
            ints(kernel, name);
            if (!ticked) {
                return;
            }
            write(kernel, random, random.nextInt(32));
        }
    }

    /** Without a look at the answer: that the run ends when it should is looked at in the tick that follows. */
    private static void goOn(GuestKernel kernel, int ticks) {
        try {
            kernel.run(ticks + 1);
        } catch (IllegalStateException e) {
            return;
        }
    }

    private static void write(GuestKernel kernel, Random random, int place) {
        int[] likely = {1, 2, 3, 4, 6, 7, 8, 9, 10, 11, 12, 13, 13, 14, 15, 15, 16, 16, 17, 17, 18, 18, 19, 19, 20, 21, 21};
        int op = random.nextInt(40) == 0 ? 0 : likely[random.nextInt(likely.length)];
        int n = random.nextInt(12) == 0 ? random.nextInt() : random.nextInt(4);
        if (op == 7 || op == 8 || op == 9 || op == 10 || op == 11 || op == 15) {
            n = random.nextInt(36) - 2;
        }
        kernel.code(place, op, random.nextInt(4), random.nextInt(4), n);
    }

    /** Answers whether a tick was done; if not, that must be due. */
    private static boolean tick(GuestKernel kernel, String name) {
        int going = 0;
        int blocked = 0;
        for (int g = 0; g < 6; g++) {
            int state = state(kernel, g);
            going += state == Words.READY || state == Words.AT_HAND ? 1 : 0;
            blocked += state == Words.BLOCKED ? 1 : 0;
        }
        int before = kernel.count(Words.TICKS);
        int done = -1;
        try {
            done = kernel.run(1);
        } catch (IllegalStateException e) {
            Check.due(name + "going when stuck", 0, going);
            Check.due(name + "blocked when stuck", 1, Math.min(1, blocked));
        }
        int want = going > 0 ? 1 : blocked > 0 ? -1 : 0;
        Check.due(name + "run(1)", want, done);
        Check.due(name + "ticks", before + Math.max(0, want), kernel.count(Words.TICKS));
        Check.due(name + "instructions and idle turns", 2 * kernel.count(Words.TICKS),
            kernel.count(Words.INSTRUCTIONS) + kernel.count(Words.IDLE));
        return done == 1;
    }

    private static int state(GuestKernel kernel, int g) {
        try {
            return kernel.told(g, Words.STATE);
        } catch (NoSuchElementException e) {
            return ABSENT;
        }
    }

    private static void frames(GuestKernel kernel, String name) {
        int[] owners = new int[12];
        int all = 0;
        for (int g = 0; g < 6; g++) {
            if (state(kernel, g) == ABSENT) {
                continue;
            }
            int used = 0;
            for (int p = 0; p < 4; p++) {
                int frame = kernel.page(g, p);
                if (frame >= 0) {
                    owners[frame]++;
                    used++;
                }
            }
            Check.due(name + "frames used by " + g, used, kernel.told(g, Words.USED));
            all += used;
        }
        for (int f = 0; f < 12; f++) {
            Check.due(name + "pages of frame " + f, Math.min(1, owners[f]), owners[f]);
        }
        Check.due(name + "frames free", 12 - all, kernel.count(Words.FREE));
    }

    private static void quotas(GuestKernel kernel, String name) {
        int[] given = new int[6];
        int present = 0;
        int traps = 0;
        for (int g = 0; g < 6; g++) {
            int state = state(kernel, g);
            if (state == ABSENT) {
                continue;
            }
            present++;
            int parent = kernel.told(g, Words.PARENT);
            if (parent >= 0) {
                given[parent] += kernel.told(g, Words.QUOTA);
                Check.due(name + "parent of " + g + " lives", 0, state(kernel, parent) == Words.DEAD ? 1 : 0);
            }
        }
        for (int g = 0; g < 6; g++) {
            if (state(kernel, g) != ABSENT) {
                Check.due(name + "given by " + g, given[g], kernel.told(g, Words.GIVEN));
                int left = kernel.told(g, Words.QUOTA) - given[g] - kernel.told(g, Words.USED);
                Check.due(name + "quota of " + g + " overdrawn", 0, Math.min(0, left));
                traps += kernel.told(g, Words.GUEST_TRAPS);
            }
        }
        Check.due(name + "guests", 1 + kernel.count(Words.SPAWNED) - kernel.count(Words.REAPED), present);
        Check.due(name + "traps of those here beyond all", 0, Math.max(0, traps - kernel.count(Words.TRAPS)));
    }

    private static void rows(GuestKernel kernel, String name) {
        int[] ready = new int[2];
        int blocked = 0;
        for (int g = 0; g < 6; g++) {
            int state = state(kernel, g);
            ready[g % 2] += state == Words.READY ? 1 : 0;
            blocked += state == Words.BLOCKED ? 1 : 0;
            boolean atHand = kernel.count(10 + g % 2) == g;
            Check.due(name + "guest " + g + " at hand", state == Words.AT_HAND ? 1 : 0, atHand ? 1 : 0);
        }
        Check.due(name + "row 0", ready[0], kernel.count(20));
        Check.due(name + "row 1", ready[1], kernel.count(21));
        int waiting = 0;
        for (int k = 0; k < 4; k++) {
            waiting += kernel.object(k, Words.LOCK_ROW) + kernel.object(k, Words.SENDERS)
                + kernel.object(k, Words.RECEIVERS);
        }
        Check.due(name + "guests in the rows of objects", blocked, waiting);
    }

    private static void ints(GuestKernel kernel, String name) {
        for (int k = 0; k < 4; k++) {
            int ints = kernel.object(k, Words.INTS);
            if (kernel.object(k, Words.SENDERS) > 0) {
                Check.due(name + "ints where senders wait", 2, ints);
            }
            if (kernel.object(k, Words.RECEIVERS) > 0) {
                Check.due(name + "ints where receivers wait", 0, ints);
            }
            int holder = kernel.object(k, Words.HOLDER);
            if (holder < 0) {
                Check.due(name + "row of a free lock", 0, kernel.object(k, Words.LOCK_ROW));
            } else {
                int state = state(kernel, holder);
                Check.due(name + "holder lives", 0, state == ABSENT || state == Words.DEAD ? 1 : 0);
            }
        }
    }
}
