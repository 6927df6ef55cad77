/** A TypedRooms as the tests use it: it counts its calls, since what comes after the 512th is free. */
final class Rooms {
    private static final int CALLS = 512;

    private final TypedRooms rooms = new TypedRooms();
    private int calls = 0;

    /** How many calls more may be asked. */
    int callsLeft() {
        return CALLS - calls;
    }

    private TypedRooms called() {
        if (calls >= CALLS) {
            throw new IllegalStateException("a test asks what comes after call " + CALLS);
        }
        calls++;
        return rooms;
    }

    int write(int letter) {
        return called().write(letter);
    }

    int wipe() {
        return called().wipe();
    }

    int fault() {
        return called().fault();
    }

    int lay() {
        return called().lay();
    }

    int say() {
        return called().say();
    }

    int undo() {
        return called().undo();
    }

    int doubt() {
        return called().doubt();
    }

    int would(int act, int x, int y) {
        return called().would(act, x, y);
    }

    int thing(int t, int what) {
        return called().thing(t, what);
    }

    int room(int r, int what) {
        return called().room(r, what);
    }

    int way(int r, int by) {
        return called().way(r, by);
    }

    int door(int r, int by) {
        return called().door(r, by);
    }

    int steps(int a, int b, int which) {
        return called().steps(a, b, which);
    }

    int count(int what) {
        return called().count(what);
    }
}
