import java.util.Arrays;
import java.util.NoSuchElementException;

/**
 * A layered kernel that hosts guests on two processors. The words in capitals
 * (GUEST, FRAME, TICK, ...) are those of the document.
 */
public final class GuestKernel {
    private static final int NONE = -1;

    private static final int GUESTS = 6;
    private static final int PROCESSORS = 2;
    private static final int REGISTERS = 4;
    private static final int PAGES = 4;
    private static final int FRAMES = 12;
    private static final int FRAME_INTS = 8;
    private static final int ADDRESSES = PAGES * FRAME_INTS;
    private static final int PLACES = 32;
    // There are as many LOCKS as CHANNELS, and the face asks for both by one number.
    private static final int OBJECTS = 4;
    private static final int CHANNEL_INTS = 2;
    private static final int TIME = 3;
    private static final int MOST_TICKS = 300;

    private static final int GUEST_QUESTIONS = 9;
    private static final int OBJECT_QUESTIONS = 5;

    // The states that told answers have the document's numbers; ABSENT is never told.
    private static final int ABSENT = -1;
    private static final int READY = 0;
    private static final int AT_HAND = 1;
    private static final int BLOCKED = 2;
    private static final int DEAD = 3;

    private static final int NO_TRAP = 0;
    private static final int TRAP_DIVISOR = 1;
    private static final int TRAP_ADDRESS = 2;
    private static final int TRAP_PAGE = 3;
    private static final int TRAP_NUMBER = 4;
    private static final int TRAP_HOLDER = 5;
    private static final int TRAP_REGISTER = 3;
    private static final int TRAP_OUTCOME = -100;

    private static final int HALT = 0;
    private static final int SET = 1;
    private static final int ADD_NUMBER = 2;
    private static final int ADD = 3;
    private static final int SUBTRACT = 4;
    private static final int MULTIPLY = 5;
    private static final int DIVIDE = 6;
    private static final int LOAD = 7;
    private static final int STORE = 8;
    private static final int GO_IF_BELOW = 9;
    private static final int GO_IF_ZERO = 10;
    private static final int HANDLE = 11;
    private static final int YIELD = 12;
    private static final int MAP = 13;
    private static final int UNMAP = 14;
    private static final int SPAWN = 15;
    private static final int SEND = 16;
    private static final int RECEIVE = 17;
    private static final int LOCK = 18;
    private static final int UNLOCK = 19;
    private static final int EXIT = 20;
    private static final int REAP = 21;
    private static final int OPS = 22;

    private final Program program = new Program();
    private final Frames frames = new Frames();
    private final Guest[] guests = new Guest[GUESTS];
    private final Processor[] processors = new Processor[PROCESSORS];
    private final Lock[] locks = new Lock[OBJECTS];
    private final Channel[] channels = new Channel[OBJECTS];

    private int ticks;
    private int instructions;
    private int trapped;
    private int spawned;
    private int reaped;
    private int idle;
    private int taken;

    public GuestKernel() {
        for (int i = 0; i < GUESTS; i++) {
            guests[i] = new Guest(i);
        }
        for (int i = 0; i < PROCESSORS; i++) {
            processors[i] = new Processor();
        }
        for (int i = 0; i < OBJECTS; i++) {
            locks[i] = new Lock();
            channels[i] = new Channel();
        }
        guests[0].begin(0, FRAMES, NONE);
        makeReady(guests[0]);
    }

    public void code(int i, int op, int a, int b, int n) throws IllegalArgumentException {
        requireBelow(i, PLACES);
        requireBelow(op, OPS);
        requireBelow(a, REGISTERS);
        requireBelow(b, REGISTERS);
        program.write(i, op, a, b, n);
    }

    public int run(int n) throws IllegalArgumentException, IllegalStateException {
        if (n < 1 || n > MOST_TICKS) {
            throw new IllegalArgumentException("a number out of range");
        }
        for (int done = 0; done < n; done++) {
            if (processors[0].isEmpty() && processors[1].isEmpty()) {
                requireNoneBlocked();
                return done;
            }
            ticks++;
            takeTurn(processors[0]);
            takeTurn(processors[1]);
        }
        return n;
    }

    public int register(int g, int r) throws IllegalArgumentException, NoSuchElementException {
        requireBelow(g, GUESTS);
        requireBelow(r, REGISTERS);
        requirePresent(g);
        return guests[g].registers[r];
    }

    public int told(int g, int what) throws IllegalArgumentException, NoSuchElementException {
        requireBelow(g, GUESTS);
        requireBelow(what, GUEST_QUESTIONS);
        requirePresent(g);
        Guest guest = guests[g];
        switch (what) {
            case 0:
                return guest.state;
            case 1:
                return guest.place;
            case 2:
                return guest.handler;
            case 3:
                return guest.quota;
            case 4:
                return guest.used;
            case 5:
                return guest.given;
            case 6:
                return guest.parent;
            case 7:
                return guest.outcome;
            default:
                return guest.trapped;
        }
    }

    public int page(int g, int p) throws IllegalArgumentException, NoSuchElementException {
        requireBelow(g, GUESTS);
        requireBelow(p, PAGES);
        requirePresent(g);
        return guests[g].pages[p];
    }

    public int memory(int f, int i) throws IllegalArgumentException {
        requireBelow(f, FRAMES);
        requireBelow(i, FRAME_INTS);
        return frames.read(f, i);
    }

    public int object(int k, int what) throws IllegalArgumentException {
        requireBelow(k, OBJECTS);
        requireBelow(what, OBJECT_QUESTIONS);
        switch (what) {
            case 0:
                return locks[k].holder;
            case 1:
                return locks[k].waiting.size;
            case 2:
                return channels[k].size;
            case 3:
                return channels[k].senders.size;
            default:
                return channels[k].receivers.size;
        }
    }

    public int written(int i, int what) throws IllegalArgumentException {
        requireBelow(i, PLACES);
        requireBelow(what, Program.PARTS);
        return program.part(i, what);
    }

    public int count(int what) {
        switch (what) {
            case 0:
                return ticks;
            case 1:
                return instructions;
            case 2:
                return trapped;
            case 3:
                return spawned;
            case 4:
                return reaped;
            case 5:
                return frames.free;
            case 6:
                return idle;
            case 7:
                return taken;
            case 10:
                return processors[0].atHand;
            case 11:
                return processors[1].atHand;
            case 20:
                return processors[0].ready.size;
            case 21:
                return processors[1].ready.size;
            default:
                return -2;
        }
    }

    private static boolean isOutside(int value, int bound) {
        return value < 0 || value >= bound;
    }

    private static void requireBelow(int value, int bound) {
        if (isOutside(value, bound)) {
            throw new IllegalArgumentException("a number out of range");
        }
    }

    private void requirePresent(int g) {
        if (guests[g].state == ABSENT) {
            throw new NoSuchElementException("the guest is absent");
        }
    }

    private void requireNoneBlocked() {
        for (int i = 0; i < GUESTS; i++) {
            if (guests[i].state == BLOCKED) {
                throw new IllegalStateException("stuck: every guest that lives is blocked");
            }
        }
    }

    private void takeTurn(Processor processor) {
        int number = processor.atHand == NONE ? takeNext(processor) : processor.atHand;
        if (number == NONE) {
            idle++;
            return;
        }
        Guest guest = guests[number];
        int place = guest.place;
        int op = program.part(place, Program.OP);
        // Moved on before the INSTRUCTION is done, so that a jump or a TRAP has the last word.
        guest.goTo(place + 1);
        processor.time--;
        instructions++;
        int kind = perform(guest, op, place);
        if (kind != NO_TRAP) {
            trap(guest, kind, place);
        }
        if (guest.state != AT_HAND) {
            processor.atHand = NONE;
        } else if (processor.time <= 0 || op == YIELD) {
            processor.atHand = NONE;
            makeReady(guest);
        }
    }

    private int takeNext(Processor processor) {
        int number = processor.ready.takeFirst();
        if (number != NONE) {
            guests[number].state = AT_HAND;
            processor.atHand = number;
            processor.time = TIME;
            taken++;
        }
        return number;
    }

    /** Answers the kind of TRAP that the INSTRUCTION met; it has then done nothing. */
    private int perform(Guest guest, int op, int place) {
        int a = program.part(place, Program.A);
        int b = program.part(place, Program.B);
        int n = program.part(place, Program.N);
        switch (op) {
            case HALT:
                end(guest, 0);
                return NO_TRAP;
            case LOAD:
                return load(guest, a, guest.registers[b] + n);
            case STORE:
                return store(guest, a, guest.registers[b] + n);
            case MAP:
                return map(guest, a, n);
            case UNMAP:
                return unmap(guest, a, n);
            case SPAWN:
                guest.registers[a] = spawn(guest, guest.registers[a], guest.registers[b], n);
                return NO_TRAP;
            case SEND:
                return send(guest, a, n);
            case RECEIVE:
                return receive(guest, a, n);
            case LOCK:
                return lock(guest, a, n);
            case UNLOCK:
                return unlock(guest, n);
            case EXIT:
                end(guest, guest.registers[a]);
                return NO_TRAP;
            case REAP:
                reap(guest, a, b);
                return NO_TRAP;
            default:
                return guest.calculate(op, a, b, n);
        }
    }

    private void trap(Guest guest, int kind, int place) {
        trapped++;
        guest.trapped++;
        if (guest.handler == NONE) {
            guest.goTo(place);
            end(guest, TRAP_OUTCOME - kind);
        } else {
            guest.registers[TRAP_REGISTER] = kind;
            guest.goTo(guest.handler);
            guest.handler = NONE;
        }
    }

    private static int addressTrap(Guest guest, int address) {
        if (isOutside(address, ADDRESSES)) {
            return TRAP_ADDRESS;
        }
        return guest.pages[address / FRAME_INTS] == NONE ? TRAP_PAGE : NO_TRAP;
    }

    private int load(Guest guest, int a, int address) {
        int kind = addressTrap(guest, address);
        if (kind == NO_TRAP) {
            int frame = guest.pages[address / FRAME_INTS];
            guest.registers[a] = frames.read(frame, address % FRAME_INTS);
        }
        return kind;
    }

    private int store(Guest guest, int a, int address) {
        int kind = addressTrap(guest, address);
        if (kind == NO_TRAP) {
            int frame = guest.pages[address / FRAME_INTS];
            frames.write(frame, address % FRAME_INTS, guest.registers[a]);
        }
        return kind;
    }

    private int map(Guest guest, int a, int n) {
        if (isOutside(n, PAGES)) {
            return TRAP_NUMBER;
        }
        int frame = NONE;
        if (guest.pages[n] == NONE && guest.quotaLeft() > 0) {
            frame = frames.takeLeast();
        }
        if (frame != NONE) {
            guest.pages[n] = frame;
            guest.used++;
        }
        guest.registers[a] = frame == NONE ? 0 : 1;
        return NO_TRAP;
    }

    private int unmap(Guest guest, int a, int n) {
        if (isOutside(n, PAGES)) {
            return TRAP_NUMBER;
        }
        guest.registers[a] = dropPage(guest, n) ? 1 : 0;
        return NO_TRAP;
    }

    private boolean dropPage(Guest guest, int p) {
        int frame = guest.pages[p];
        if (frame == NONE) {
            return false;
        }
        guest.pages[p] = NONE;
        guest.used--;
        frames.giveBack(frame);
        return true;
    }

    /** Answers the new GUEST's number, or -1. */
    private int spawn(Guest parent, int message, int quota, int n) {
        if (quota < 0 || quota > parent.quotaLeft()) {
            return NONE;
        }
        for (int i = 0; i < GUESTS; i++) {
            Guest child = guests[i];
            if (child.state == ABSENT) {
                child.begin(n, quota, parent.number);
                child.registers[0] = message;
                parent.given += quota;
                makeReady(child);
                spawned++;
                return i;
            }
        }
        return NONE;
    }

    private void reap(Guest parent, int a, int b) {
        for (int i = 0; i < GUESTS; i++) {
            Guest child = guests[i];
            if (child.state == DEAD && child.parent == parent.number) {
                child.state = ABSENT;
                parent.given -= child.quota;
                parent.registers[a] = i;
                parent.registers[b] = child.outcome;
                reaped++;
                return;
            }
        }
        parent.registers[a] = NONE;
    }

    private int send(Guest guest, int a, int n) {
        if (isOutside(n, OBJECTS)) {
            return TRAP_NUMBER;
        }
        Channel channel = channels[n];
        if (channel.isFull()) {
            block(guest, a, channel.senders);
            return NO_TRAP;
        }
        int receiver = channel.receivers.takeFirst();
        if (receiver == NONE) {
            channel.put(guest.registers[a]);
        } else {
            guests[receiver].registers[guests[receiver].blockedRegister] = guest.registers[a];
            makeReady(guests[receiver]);
        }
        return NO_TRAP;
    }

    private int receive(Guest guest, int a, int n) {
        if (isOutside(n, OBJECTS)) {
            return TRAP_NUMBER;
        }
        Channel channel = channels[n];
        if (channel.size == 0) {
            block(guest, a, channel.receivers);
            return NO_TRAP;
        }
        guest.registers[a] = channel.takeFirst();
        int sender = channel.senders.takeFirst();
        if (sender != NONE) {
            channel.put(guests[sender].registers[guests[sender].blockedRegister]);
            makeReady(guests[sender]);
        }
        return NO_TRAP;
    }

    private int lock(Guest guest, int a, int n) {
        if (isOutside(n, OBJECTS)) {
            return TRAP_NUMBER;
        }
        if (locks[n].holder == NONE) {
            locks[n].holder = guest.number;
        } else {
            block(guest, a, locks[n].waiting);
        }
        return NO_TRAP;
    }

    private int unlock(Guest guest, int n) {
        if (isOutside(n, OBJECTS)) {
            return TRAP_NUMBER;
        }
        if (locks[n].holder != guest.number) {
            return TRAP_HOLDER;
        }
        passOn(locks[n]);
        return NO_TRAP;
    }

    private void passOn(Lock lock) {
        lock.holder = lock.waiting.takeFirst();
        if (lock.holder != NONE) {
            makeReady(guests[lock.holder]);
        }
    }

    private void end(Guest guest, int outcome) {
        guest.state = DEAD;
        guest.outcome = outcome;
        for (int p = 0; p < PAGES; p++) {
            dropPage(guest, p);
        }
        for (int k = 0; k < OBJECTS; k++) {
            if (locks[k].holder == guest.number) {
                passOn(locks[k]);
            }
        }
        handOverChildren(guest);
    }

    /** What the PARENT has given stays the same: this GUEST's QUOTA shrinks by what its CHILDREN bring. */
    private void handOverChildren(Guest guest) {
        for (int i = 0; i < GUESTS; i++) {
            if (guests[i].state != ABSENT && guests[i].parent == guest.number) {
                guests[i].parent = guest.parent;
            }
        }
        guest.quota -= guest.given;
        guest.given = 0;
    }

    /** The REGISTER is kept, for CODE may be written anew before the INSTRUCTION is done. */
    private static void block(Guest guest, int a, Row row) {
        guest.state = BLOCKED;
        guest.blockedRegister = a;
        row.add(guest.number);
    }

    private void makeReady(Guest guest) {
        guest.state = READY;
        processors[guest.number % PROCESSORS].ready.add(guest.number);
    }

    private static final class Guest {
        final int number;
        final int[] registers = new int[REGISTERS];
        final int[] pages = new int[PAGES];
        int state = ABSENT;
        int place;
        int handler;
        int quota;
        int used;
        int given;
        int parent;
        int outcome;
        int trapped;
        int blockedRegister;

        Guest(int number) {
            this.number = number;
        }

        /** Sets all anew, for the number may have been another GUEST's before. */
        void begin(int target, int quota, int parent) {
            Arrays.fill(registers, 0);
            Arrays.fill(pages, NONE);
            goTo(target);
            this.handler = NONE;
            this.quota = quota;
            this.used = 0;
            this.given = 0;
            this.parent = parent;
            this.outcome = 0;
            this.trapped = 0;
        }

        void goTo(int target) {
            place = Math.floorMod(target, PLACES);
        }

        int quotaLeft() {
            return quota - used - given;
        }

        /** The INSTRUCTIONS that reach nothing but the GUEST itself. */
        int calculate(int op, int a, int b, int n) {
            switch (op) {
                case SET:
                    registers[a] = n;
                    break;
                case ADD_NUMBER:
                    registers[a] = registers[b] + n;
                    break;
                case ADD:
                    registers[a] += registers[b];
                    break;
                case SUBTRACT:
                    registers[a] -= registers[b];
                    break;
                case MULTIPLY:
                    registers[a] *= registers[b];
                    break;
                case DIVIDE:
                    if (registers[b] == 0) {
                        return TRAP_DIVISOR;
                    }
                    registers[a] /= registers[b];
                    break;
                case GO_IF_BELOW:
                    if (registers[a] < registers[b]) {
                        goTo(n);
                    }
                    break;
                case GO_IF_ZERO:
                    if (registers[a] == 0) {
                        goTo(n);
                    }
                    break;
                case HANDLE:
                    handler = n < 0 ? NONE : n % PLACES;
                    break;
                default:
                    // YIELD: the PROCESSOR looks at it when the INSTRUCTION is done.
                    break;
            }
            return NO_TRAP;
        }
    }

    /** CODE in one array, four parts a PLACE, so that a new kernel makes few objects. */
    private static final class Program {
        static final int OP = 0;
        static final int A = 1;
        static final int B = 2;
        static final int N = 3;
        static final int PARTS = 4;

        private final int[] parts = new int[PLACES * PARTS];

        void write(int place, int op, int a, int b, int n) {
            int first = place * PARTS;
            parts[first + OP] = op;
            parts[first + A] = a;
            parts[first + B] = b;
            parts[first + N] = n;
        }

        int part(int place, int what) {
            return parts[place * PARTS + what];
        }
    }

    private static final class Frames {
        private final int[] ints = new int[FRAMES * FRAME_INTS];
        private final boolean[] isTaken = new boolean[FRAMES];
        int free = FRAMES;

        int read(int frame, int i) {
            return ints[frame * FRAME_INTS + i];
        }

        void write(int frame, int i, int value) {
            ints[frame * FRAME_INTS + i] = value;
        }

        /** Clears the FRAME here and not when it is given back: a free one can still be read. */
        int takeLeast() {
            for (int frame = 0; frame < FRAMES; frame++) {
                if (!isTaken[frame]) {
                    isTaken[frame] = true;
                    free--;
                    clear(frame);
                    return frame;
                }
            }
            return NONE;
        }

        private void clear(int frame) {
            for (int i = 0; i < FRAME_INTS; i++) {
                write(frame, i, 0);
            }
        }

        void giveBack(int frame) {
            isTaken[frame] = false;
            free++;
        }
    }

    private static final class Processor {
        final Row ready = new Row();
        int atHand = NONE;
        int time;

        boolean isEmpty() {
            return atHand == NONE && ready.size == 0;
        }
    }

    private static final class Lock {
        final Row waiting = new Row();
        int holder = NONE;
    }

    private static final class Channel {
        final Row senders = new Row();
        final Row receivers = new Row();
        private final int[] ints = new int[CHANNEL_INTS];
        int size;

        boolean isFull() {
            return size >= CHANNEL_INTS;
        }

        void put(int value) {
            if (!isFull()) {
                ints[size] = value;
                size++;
            }
        }

        int takeFirst() {
            int first = ints[0];
            if (size > 0) {
                size--;
                System.arraycopy(ints, 1, ints, 0, size);
            }
            return first;
        }
    }

    /** Numbers of GUESTS in a ring: a GUEST waits in one ROW at most, so a ROW never holds more than all. */
    private static final class Row {
        private final int[] numbers = new int[GUESTS];
        private int first;
        int size;

        void add(int number) {
            if (size < GUESTS) {
                numbers[(first + size) % GUESTS] = number;
                size++;
            }
        }

        int takeFirst() {
            if (size == 0) {
                return NONE;
            }
            int number = numbers[first];
            first = (first + 1) % GUESTS;
            size--;
            return number;
        }
    }
}
