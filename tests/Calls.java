import java.util.List;

/** An object of the program whose calls are counted, and named for what is printed of them. */
final class Calls {
    /** The document promises nothing about later calls. */
    static final int MOST = 512;

    private static String latest = "";

    private final HidingBoxes program = new HidingBoxes();
    private int made = 0;
    private List<Integer> seen = null;
    private int madeWhenSeen = -1;

    /** The latest call of any object, as it stands in Java. */
    static String latest() {
        return latest;
    }

    int made() {
        return made;
    }

    /** Keeps what was seen, so that it is not asked for again before the next call. */
    void remember(List<Integer> look) {
        seen = look;
        madeWhenSeen = made;
    }

    /** What was seen, if no call has been made since; otherwise null. */
    List<Integer> lookedAt() {
        return madeWhenSeen == made ? seen : null;
    }

    private HidingBoxes call(String name, Object... arguments) {
        StringBuilder text = new StringBuilder(name).append('(');
        for (int i = 0; i < arguments.length; i++) {
            text.append(i == 0 ? "" : ", ").append(arguments[i]);
        }
        latest = text.append(')').toString();
        made++;
        if (made == MOST + 1) {
            Check.that(Sentences.label() + "a test keeps to " + MOST + " calls", false);
        }
        return program;
    }

    int add(int x, int y, int z, int dx, int dy, int dz) {
        return call("add", x, y, z, dx, dy, dz).add(x, y, z, dx, dy, dz);
    }

    int remove(int box) {
        return call("remove", box).remove(box);
    }

    int move(int box, int direction, int by) {
        return call("move", box, direction, by).move(box, direction, by);
    }

    int fall(int box) {
        return call("fall", box).fall(box);
    }

    int split(int box, int direction, int at) {
        return call("split", box, direction, at).split(box, direction, at);
    }

    int breakRing() {
        return call("breakRing").breakRing();
    }

    int turn() {
        return call("turn").turn();
    }

    int set(int setting, int value) {
        return call("set", setting, value).set(setting, value);
    }

    int type(char character) {
        return call("type", "(char) " + (int) character).type(character);
    }

    int clearText() {
        return call("clearText").clearText();
    }

    int addAll() {
        return call("addAll").addAll();
    }

    int undo() {
        return call("undo").undo();
    }

    int keep() {
        return call("keep").keep();
    }

    int restore() {
        return call("restore").restore();
    }

    int box(int rank) {
        return call("box", rank).box(rank);
    }

    int end(int box, int direction, boolean isHigh) {
        return call("end", box, direction, isHigh).end(box, direction, isHigh);
    }

    int ofBox(int box, int what) {
        return call("ofBox", box, what).ofBox(box, what);
    }

    int pair(int one, int other) {
        return call("pair", one, other).pair(one, other);
    }

    int drawn(int place) {
        return call("drawn", place).drawn(place);
    }

    int total(int what) {
        return call("total", what).total(what);
    }

    int waitsFor(int box) {
        return call("waitsFor", box).waitsFor(box);
    }

    int breaks() {
        return call("breaks").breaks();
    }

    int drawnWithout(int box) {
        return call("drawnWithout", box).drawnWithout(box);
    }
}
