/** A test for each sentence of the promises 10 to 15, about texts and the history. */
final class TextsBoundaries extends Sentences {
    private TextsBoundaries() {
    }

    static void run() {
        type();
        clearText();
        addAll();
        addAllOrNone();
        addAllAnswers();
        undo();
        keep();
        restore();
    }

    private static void type() {
        test("Promise 10", "`int type(char character)`: Appends a character to the text.", () -> {
            Calls h = typed("0,0,0:1,1,");
            due(-110, h.addAll());
            due(11, h.type('1'));
            due(1, h.addAll());
            due(12, h.type('2'));
            ends(h, 0, "0,0,0:1,1,1");
            due(12, h.total(12));
        });
        test("Promise 10", "`character`: any character", () -> {
            for (char character : new char[] {0, 1, '\n', ' ', '0', ';', 'x', 127, 128, 255, 256, 0x0660, 0x7FFF, 0x8000, 0xD800, 0xFFFF}) {
                Calls h = new Calls();
                due(1, h.type(character));
                due(2, h.type(character));
                due(2, h.total(12));
                due(character == '0' ? -101 : -100, h.addAll());
                due(2, h.clearText());
            }
        });
        test("Promise 10", "Returns the length of the text then", () -> {
            Calls h = new Calls();
            each(1, 80, length -> length, length -> h.type((char) length));
            due(80, h.total(12));
            due(80, h.clearText());
            each(1, 80, length -> length, length -> h.type(','));
        });
        test("Promise 10", "FULL if it has 80 characters.", () -> {
            // The text ends in the middle of its last box, and the last sign is not taken.
            Calls h = typed("10,10,10:1,1,1;12,10,10:1,1,1;14,10,10:1,1,1;16,10,10:1,1,1;18,10,10:1,1,1;1,1,1");
            due(80, h.total(12));
            due(-180, h.addAll());
            refused(h, FULL, () -> h.type(':'));
            refused(h, FULL, () -> h.type('x'));
            due(80, h.total(12));
            due(-180, h.addAll());
            Calls whole = typed("10,10,10:10,1,1;21,10,10:10,1,1;10,12,10:1,1,1;12,12,10:1,1,1;14,12,10:10,10,10");
            due(79, whole.total(12));
            due(80, whole.type('0'));
            refused(whole, FULL, () -> whole.type('0'));
            due(-179, whole.addAll());
            Calls good = typed("10,10,10:10,10,1;20,10,10:10,10,1;10,20,10:1,1,1;12,20,10:1,1,1;14,20,10:10,10,1");
            due(80, good.total(12));
            due(5, good.addAll());
            refused(good, FULL, () -> good.type('2'));
        });
    }

    private static void clearText() {
        test("Promise 11", "`int clearText()`: Empties the text.", () -> {
            Calls h = typed("0,0,0:1,1,1;x");
            due(-112, h.addAll());
            due(13, h.clearText());
            due(0, h.total(12));
            due(-100, h.addAll());
            typeAll(h, "0,0,0:1,1,1");
            due(1, h.addAll());
            due(1, h.total(11));
        });
        test("Promise 11", "Returns the length that it had.", () -> {
            Calls h = new Calls();
            due(0, h.clearText());
            due(1, h.type('a'));
            due(1, h.clearText());
            due(0, h.clearText());
            for (int i = 1; i <= 80; i++) {
                due(i, h.type('a'));
            }
            due(FULL, h.type('a'));
            due(80, h.clearText());
            due(0, h.clearText());
        });
    }

    private static void addAll() {
        test("Promise 12", "`int addAll()`: Adds the boxes of the text, which stays, one after the other", () -> {
            Calls h = boxes("20,20,20:1,1,1");
            typeAll(h, "31,0,10:1,12,1;0,0,0:2,1,1;2,0,0:1,1,1");
            due(3, h.addAll());
            ends(h, 1, "31,0,10:1,12,1");
            ends(h, 2, "0,0,0:2,1,1");
            ends(h, 3, "2,0,0:1,1,1");
            due(38, h.total(12));
            due(NOT_POSSIBLE, h.addAll());
            due(12, h.remove(1));
            due(2, h.remove(2));
            due(1, h.remove(3));
            due(3, h.addAll());
            due(7, h.total(1));
        });
        test("Promise 12", "This is one change.", () -> {
            Calls h = typed("0,0,0:1,1,1;1,0,0:1,1,1;2,0,0:1,1,1;3,0,0:1,1,1;4,0,0:1,1,1;5,0,0:1,1,1");
            records(h, 6, h::addAll);
            due(6, h.addAll());
            due(1, h.total(11));
            due(0, h.undo());
            due(0, h.total(0));
            refused(h, NONE, h::undo);
        });
    }

    private static void addAllOrNone() {
        test("Promise 12", ": all of them, or none if add() would return an error for one of them.", () -> {
            none(0, OUT_OF_RANGE, "0,0,0:1,1,1;31,0,0:2,1,1");
            none(0, OUT_OF_RANGE, "0,0,0:1,1,1;0,31,0:1,2,1");
            none(0, OUT_OF_RANGE, "0,0,0:1,1,1;0,0,31:1,1,2");
            none(0, OUT_OF_RANGE, "21,20,20:12,12,12");
            none(0, NOT_POSSIBLE, "0,0,0:2,2,2;5,5,5:1,1,1;1,1,1:2,2,2");
            none(4, NOT_POSSIBLE, "20,20,20:1,1,1;1,1,1:1,1,1");
            none(15, FULL, "20,20,20:1,1,1;21,20,20:1,1,1");
            none(12, FULL, "20,0,9:1,1,1;21,0,9:1,1,1;22,0,9:1,1,1;23,0,9:1,1,1;24,0,9:1,1,1");
            none(16, FULL, "20,20,20:1,1,1");
            Calls h = cubes(12);
            typeAll(h, "20,0,9:1,1,1;21,0,9:1,1,1;22,0,9:1,1,1;23,0,9:1,1,1");
            due(4, h.addAll());
            due(16, h.total(0));
        });
    }

    /** So many cubes, and a text whose boxes can't all be added to them. */
    private static void none(int cubes, int error, String text) {
        Calls h = cubes(cubes);
        typeAll(h, text);
        refused(h, error, h::addAll);
        due(Math.min(cubes, 4), h.total(11));
        due(text.length(), h.total(12));
    }

    private static void addAllAnswers() {
        test("Promise 12", "Returns how many boxes the text has", () -> {
            StringBuilder text = new StringBuilder();
            for (int boxes = 1; boxes <= 6; boxes++) {
                text.append(boxes == 1 ? "" : ";").append(boxes).append(",0,0:1,1,1");
                Calls h = typed(text.toString());
                due(boxes, h.addAll());
                due(boxes, h.total(0));
            }
        });
        test("Promise 12", "-100 minus the fault of the text if it has one (this is an error)", () -> {
            none(2, -100, "");
            none(2, -100, "x");
            none(2, -101, "1");
            none(2, -101, "1x");
            none(2, -112, "9,9,9:1,1,1;");
            none(2, -115, "9,9,9:1,1,1;9,9;9:1,1,1");
            // Ahead of what add() would say of an earlier box.
            none(16, -112, "9,9,9:1,1,1;");
            none(2, -113, "31,9,9:2,1,1;;");
            none(2, -123, "31,9,9:2,1,1;0,0,0:1,1,");
        });
        test("Promise 12", "otherwise the error of the first box for which there is one.", () -> {
            none(2, OUT_OF_RANGE, "31,9,9:2,1,1;0,0,0:1,1,1");
            none(2, NOT_POSSIBLE, "0,0,0:1,1,1;31,9,9:2,1,1");
            none(2, OUT_OF_RANGE, "9,9,9:1,1,1;31,9,9:2,1,1;9,9,9:1,1,1");
            none(2, NOT_POSSIBLE, "9,9,9:1,1,1;9,9,9:1,1,1;31,9,9:2,1,1");
            none(15, FULL, "20,9,9:1,1,1;21,9,9:1,1,1;0,0,0:1,1,1");
            none(15, NOT_POSSIBLE, "20,9,9:1,1,1;0,0,0:1,1,1;21,9,9:1,1,1");
            none(16, OUT_OF_RANGE, "31,9,9:2,1,1");
            none(16, NOT_POSSIBLE, "1,1,1:2,1,1");
        });
    }

    private static void undo() {
        test("Promise 13", "`int undo()`: Restores the latest state of the history, and removes it from there.", () -> {
            Calls h = boxes("0,0,0:2,2,2");
            due(5, h.move(0, 0, 5));
            due(9, h.move(0, 1, 9));
            due(2, h.undo());
            ends(h, 0, "5,0,0:2,2,2");
            due(1, h.undo());
            ends(h, 0, "0,0,0:2,2,2");
            due(7, h.move(0, 2, 7));
            due(1, h.undo());
            ends(h, 0, "0,0,0:2,2,2");
            due(0, h.undo());
            due(UNKNOWN, h.end(0, 0, false));
            due(0, h.total(11));
        });
        test("Promise 13", "Returns how many states are left", () -> {
            Calls h = cubes(5);
            each(1, 4, back -> 4 - back, back -> h.undo());
            due(1, h.total(0));
            due(1, h.add(30, 30, 30, 1, 1, 1));
            due(0, h.undo());
        });
        test("Promise 13", "NONE if the history is empty.", () -> {
            Calls empty = new Calls();
            refused(empty, NONE, empty::undo);
            Calls h = cubes(6);
            each(1, 4, back -> 4 - back, back -> h.undo());
            refused(h, NONE, h::undo);
            due(2, h.total(0));
            refused(h, NONE, h::undo);
            due(2, h.total(0));
        });
    }

    private static void keep() {
        test("Promise 14", "`int keep()`: Takes a snapshot of the state, in place of an earlier one.", () -> {
            Calls h = boxes("0,0,0:2,2,2");
            due(1, h.keep());
            due(1, h.add(9, 9, 9, 1, 1, 1));
            due(0, h.set(0, 2));
            due(2, h.keep());
            due(2, h.split(0, 0, 1));
            due(2, h.set(0, 0));
            due(2, h.restore());
            due(2, h.total(10));
            due(0, h.total(7));
            due(2, h.total(1));
            ends(h, 0, "0,0,0:2,2,2");
            ends(h, 1, "9,9,9:1,1,1");
            // An empty state in place of a full one.
            due(8, h.remove(0));
            due(1, h.remove(1));
            due(0, h.keep());
            due(2, h.add(3, 3, 3, 1, 1, 1));
            due(0, h.restore());
            due(NONE, h.box(0));
        });
        test("Promise 14", "Returns how many boxes there are.", () -> {
            due(0, new Calls().keep());
            Calls h = cubes(16);
            due(16, h.keep());
            due(4, h.total(11));
            due(8, h.remove(5));
            due(15, h.keep());
            due(16, h.total(1));
        });
    }

    private static void restore() {
        test("Promise 15", "`int restore()`: Restores the state of the snapshot, which stays. This is a change.", () -> {
            Calls h = boxes("0,0,0:2,2,2");
            due(1, h.keep());
            due(8, h.remove(0));
            due(1, h.add(5, 5, 5, 1, 1, 1));
            records(h, 1, h::restore);
        });
        test("Promise 15", "`int restore()`: Restores the state of the snapshot, which stays. This is a change.", () -> {
            Calls h = boxes("0,0,0:2,2,2", "5,5,5:1,1,1");
            due(2, h.keep());
            for (int time = 0; time < 5; time++) {
                due(8, h.remove(0));
                due(9, h.move(1, 2, 4));
                due(2, h.restore());
                ends(h, 0, "0,0,0:2,2,2");
                ends(h, 1, "5,5,5:1,1,1");
                due(4, h.total(11));
            }
            due(3, h.undo());
            ends(h, 1, "5,5,9:1,1,1");
            due(UNKNOWN, h.end(0, 0, false));
        });
        test("Promise 15", "Returns how many boxes there are then", () -> {
            Calls empty = new Calls();
            due(0, empty.keep());
            due(0, empty.restore());
            due(1, empty.total(11));
            due(0, empty.add(0, 0, 0, 1, 1, 1));
            due(0, empty.restore());
            due(0, empty.total(0));
            Calls full = cubes(16);
            due(16, full.keep());
            due(8, full.remove(9));
            due(16, full.restore());
            due(16, full.total(0));
        });
        test("Promise 15", "NONE if there is no snapshot.", () -> {
            Calls empty = new Calls();
            refused(empty, NONE, empty::restore);
            Calls h = cubes(2);
            refused(h, NONE, h::restore);
            due(1, h.undo());
            refused(h, NONE, h::restore);
            due(1, h.keep());
            due(1, h.restore());
        });
    }
}
