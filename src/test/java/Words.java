/** Names for the document's numbers. */
final class Words {
    static final int HALT = 0;
    static final int SET = 1;
    static final int ADD_NUMBER = 2;
    static final int ADD = 3;
    static final int SUBTRACT = 4;
    static final int MULTIPLY = 5;
    static final int DIVIDE = 6;
    static final int LOAD = 7;
    static final int STORE = 8;
    static final int GO_IF_BELOW = 9;
    static final int GO_IF_ZERO = 10;
    static final int HANDLE = 11;
    static final int YIELD = 12;
    static final int MAP = 13;
    static final int UNMAP = 14;
    static final int SPAWN = 15;
    static final int SEND = 16;
    static final int RECEIVE = 17;
    static final int LOCK = 18;
    static final int UNLOCK = 19;
    static final int EXIT = 20;
    static final int REAP = 21;

    static final int STATE = 0;
    static final int PLACE = 1;
    static final int HANDLER = 2;
    static final int QUOTA = 3;
    static final int USED = 4;
    static final int GIVEN = 5;
    static final int PARENT = 6;
    static final int OUTCOME = 7;
    static final int GUEST_TRAPS = 8;

    static final int READY = 0;
    static final int AT_HAND = 1;
    static final int BLOCKED = 2;
    static final int DEAD = 3;

    static final int HOLDER = 0;
    static final int LOCK_ROW = 1;
    static final int INTS = 2;
    static final int SENDERS = 3;
    static final int RECEIVERS = 4;

    static final int TICKS = 0;
    static final int INSTRUCTIONS = 1;
    static final int TRAPS = 2;
    static final int SPAWNED = 3;
    static final int REAPED = 4;
    static final int FREE = 5;
    static final int IDLE = 6;
    static final int TAKEN = 7;

    private Words() {
    }
}
