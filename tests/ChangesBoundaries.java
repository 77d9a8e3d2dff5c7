/** A test for each sentence of the promises 1 to 9, about boxes. */
final class ChangesBoundaries extends Sentences {
    private static final int[] SMALL = {7, 7, 7, 1, 1, 1};

    private ChangesBoundaries() {
    }

    static void run() {
        newObject();
        add();
        addParameters();
        addErrors();
        remove();
        move();
        moveErrors();
        fall();
        fallPastBoxes();
        split();
        splitErrors();
        breakRing();
        turn();
        turnCounts();
        set();
    }

    private static void newObject() {
        test("Promise 1", "`HidingBoxes()`: Creates a space without boxes.", () -> {
            Calls h = new Calls();
            int[] totals = {0, 0, 0, 0, 0, NONE, NONE, 0, 0, 0, 0, 0, 0};
            each(0, 12, what -> totals[what], what -> h.total(what));
            refused(h, NONE, () -> h.box(0));
            refused(h, NONE, () -> h.drawn(0));
            refused(h, NONE, h::turn);
            refused(h, NONE, h::breakRing);
            refused(h, 0, h::breaks);
            refused(h, NONE, h::undo);
            refused(h, NONE, h::restore);
            refused(h, -100, h::addAll);
            refused(h, UNKNOWN, () -> h.remove(0));
            refused(h, 0, h::clearText);
            due(0, h.keep());
            // What is done to an object is not seen in a new one.
            Calls used = cubes(3);
            due(0, used.set(0, 2));
            due(1, used.type('1'));
            due(3, used.keep());
            Calls other = new Calls();
            each(0, 12, what -> totals[what], what -> other.total(what));
            due(NONE, other.restore());
            due(0, other.add(0, 0, 0, 2, 2, 2));
            due(3, used.total(0));
        });
    }

    private static void add() {
        test("Promise 2", "`int add(int x, int y, int z, int dx, int dy, int dz)`: Puts a box into the space. This is a change.", () -> {
            Calls h = new Calls();
            records(h, 0, () -> h.add(3, 4, 5, 6, 7, 8));
            due(0, h.add(3, 4, 5, 6, 7, 8));
            ends(h, 0, "3,4,5:6,7,8");
            due(1, h.total(0));
            due(336, h.total(8));
            due(1, h.total(11));
            Calls last = cubes(3);
            records(last, 3, () -> last.add(31, 31, 31, 1, 1, 1));
        });
        test("Promise 2", "Returns its number", () -> {
            Calls h = cubes(16);
            due(8, h.remove(15));
            due(16, h.add(30, 30, 30, 1, 1, 1));
            due(1, h.remove(16));
            due(17, h.add(30, 30, 30, 1, 1, 1));
        });
    }

    private static void addParameters() {
        String[] sentences = {"`x`: 0 to 31", "`y`: 0 to 31", "`z`: 0 to 31",
            "`dx`: its size in x, 1 to 12", "`dy`: its size in y, 1 to 12", "`dz`: its size in z, 1 to 12"};
        for (int i = 0; i < 6; i++) {
            int place = i;
            test("Promise 2", sentences[i], () -> {
                int least = place < 3 ? 0 : 1;
                int greatest = place < 3 ? 31 : 12;
                for (int value = least; value <= greatest; value++) {
                    Calls h = new Calls();
                    due(0, add(h, with(SMALL, place, value)));
                    due(place < 3 ? value : 7 + value, h.end(0, place % 3, place >= 3));
                }
                Calls h = new Calls();
                for (int value : new int[] {least - 1, greatest + 1, MIN, MAX}) {
                    refused(h, OUT_OF_RANGE, () -> add(h, with(SMALL, place, value)));
                }
                // Nor do two arguments out of range make one that is within it.
                refused(h, OUT_OF_RANGE, () -> add(h, with(with(SMALL, place, -1), (place + 3) % 6, 13)));
                refused(h, OUT_OF_RANGE, () -> add(h, with(with(SMALL, place, MAX), (place + 3) % 6, MAX)));
                refused(h, OUT_OF_RANGE, () -> add(h, with(with(SMALL, place, MIN), (place + 3) % 6, MIN)));
                due(0, add(h, SMALL));
            });
        }
    }

    private static void addErrors() {
        test("Promise 2", "OUT_OF_RANGE (also if a high end would be greater than 32)", () -> {
            for (int d = 0; d < 3; d++) {
                for (int low = 21; low <= 31; low++) {
                    int[] box = with(SMALL, d, low);
                    int size = 32 - low;
                    Calls h = new Calls();
                    int[] wrong = with(box, 3 + d, size + 1);
                    refused(h, OUT_OF_RANGE, () -> add(h, wrong));
                    due(0, add(h, with(box, 3 + d, size)));
                    due(32, h.end(0, d, true));
                }
            }
        });
        test("Promise 2", "NOT_POSSIBLE if it would cut another box", () -> {
            Calls h = boxes("0,0,0:1,1,1", "10,10,10:4,4,4", "31,31,31:1,1,1");
            refused(h, NOT_POSSIBLE, () -> h.add(0, 0, 0, 1, 1, 1));
            refused(h, NOT_POSSIBLE, () -> h.add(13, 13, 13, 1, 1, 1));
            refused(h, NOT_POSSIBLE, () -> h.add(7, 7, 7, 4, 4, 4));
            refused(h, NOT_POSSIBLE, () -> h.add(13, 13, 13, 4, 4, 4));
            refused(h, NOT_POSSIBLE, () -> h.add(30, 30, 30, 2, 2, 2));
            refused(h, NOT_POSSIBLE, () -> h.add(4, 11, 11, 12, 1, 1));
            due(3, h.add(6, 6, 6, 4, 4, 4));
            due(4, h.add(14, 14, 14, 4, 4, 4));
            due(5, h.add(14, 10, 10, 1, 1, 1));
            // Where a box was there is room when it is away.
            due(64, h.remove(1));
            due(6, h.add(10, 10, 10, 4, 4, 4));
        });
        test("Promise 2", "FULL if there are 16.", () -> {
            Calls h = new Calls();
            for (int i = 0; i < 16; i++) {
                due(i, h.add(i, i, 0, 1, 1, 1));
            }
            refused(h, FULL, () -> h.add(20, 20, 20, 1, 1, 1));
            due(16, h.total(0));
            due(16, h.total(1));
            due(1, h.remove(0));
            due(16, h.add(20, 20, 20, 1, 1, 1));
            due(FULL, h.add(21, 20, 20, 1, 1, 1));
        });
    }

    private static void remove() {
        test("Promise 3", "`int remove(int box)`: Takes a box away. This is a change.", () -> {
            Calls h = boxes("0,0,0:2,3,4", "10,0,0:1,1,1", "20,0,0:5,1,1");
            records(h, 24, () -> h.remove(0));
            due(1, h.remove(1));
            due(2, h.total(0));
            due(3, h.total(1));
            due(0, h.box(0));
            due(2, h.box(1));
            due(NONE, h.box(2));
            ends(h, 0, "0,0,0:2,3,4");
            ends(h, 2, "20,0,0:5,1,1");
            due(24, h.remove(0));
            due(5, h.remove(2));
            due(0, h.total(0));
            due(NONE, h.box(0));
            due(0, h.total(8));
        });
        test("Promise 3", "`box`: a box", () -> {
            // The first one, one in the middle and the last one of as many as there can be.
            Calls h = cubes(16);
            due(8, h.remove(0));
            due(8, h.remove(8));
            due(8, h.remove(15));
            due(13, h.total(0));
            int[] left = {1, 2, 3, 4, 5, 6, 7, 9, 10, 11, 12, 13, 14};
            each(0, 12, rank -> left[rank], rank -> h.box(rank));
            each(0, 12, rank -> left[rank] % 4 * 4, rank -> h.end(left[rank], 0, false));
        });
        test("Promise 3", "Returns its volume", () -> {
            due(1, boxes("31,31,31:1,1,1").remove(0));
            due(1728, boxes("20,20,20:12,12,12").remove(0));
            due(2, boxes("0,0,0:2,1,1").remove(0));
            due(12, boxes("0,0,0:1,12,1").remove(0));
        });
        test("Promise 3", "UNKNOWN", () -> unknownBoxes((h, box) -> h.remove(box)));
    }

    private static void move() {
        test("Promise 4", "`int move(int box, int direction, int by)`: Moves a box. This is a change.", () -> {
            Calls h = boxes("5,6,7:2,3,4", "20,20,20:1,1,1");
            records(h, 6, () -> h.move(0, 0, 1));
            due(4, h.move(0, 0, -1));
            ends(h, 0, "4,6,7:2,3,4");
            ends(h, 1, "20,20,20:1,1,1");
            due(3, h.total(11));
        });
        test("Promise 4", "`box`: a box", () -> {
            Calls h = cubes(16);
            due(1, h.move(0, 2, 1));
            due(1, h.move(15, 2, 1));
            ends(h, 0, "0,0,1:2,2,2");
            ends(h, 15, "12,12,1:2,2,2");
            ends(h, 14, "8,12,0:2,2,2");
        });
        test("Promise 4", "`direction`: 0 to 2", () -> {
            int[] box = {5, 6, 7, 2, 3, 4};
            for (int d = 0; d < 3; d++) {
                Calls h = boxes("5,6,7:2,3,4");
                due(box[d] + 9, h.move(0, d, 9));
                for (int e = 0; e < 3; e++) {
                    int by = d == e ? 9 : 0;
                    due(box[e] + by, h.end(0, e, false));
                    due(box[e] + box[3 + e] + by, h.end(0, e, true));
                }
            }
            unknownDirections((h, direction) -> h.move(0, direction, 1));
        });
        test("Promise 4", "`by`: by how much its low end in this direction becomes greater (less, if it is negative)", () -> {
            for (int by = -31; by <= 31; by++) {
                int from = by < 0 ? 31 : 0;
                Calls h = boxes(from + ",0,0:1,1,1");
                due(by == 0 ? NONE : from + by, h.move(0, 0, by));
                due(from + by, h.end(0, 0, false));
                due(from + by + 1, h.end(0, 0, true));
            }
        });
        test("Promise 4", "Returns its low end in this direction then", () -> {
            for (int d = 0; d < 3; d++) {
                Calls h = boxes("5,5,5:1,1,1");
                due(0, h.move(0, d, -5));
                due(1, h.move(0, d, 1));
                due(31, h.move(0, d, 30));
            }
        });
    }

    private static void moveErrors() {
        test("Promise 4", "UNKNOWN (box or direction)", () -> {
            unknownBoxes((h, box) -> h.move(box, 0, 1));
            unknownDirections((h, direction) -> h.move(0, direction, 1));
        });
        test("Promise 4", "OUT_OF_RANGE if it would not be within 0 to 32 then", () -> {
            for (int d = 0; d < 3; d++) {
                int direction = d;
                Calls h = boxes("10,10,10:3,3,3");
                refused(h, OUT_OF_RANGE, () -> h.move(0, direction, -11));
                refused(h, OUT_OF_RANGE, () -> h.move(0, direction, 20));
                for (int by : new int[] {MIN, MIN + 10, MIN + 1, MAX, MAX - 12, MAX - 9, 1 << 30, -(1 << 30)}) {
                    refused(h, OUT_OF_RANGE, () -> h.move(0, direction, by));
                }
                due(29, h.move(0, d, 19));
                due(32, h.end(0, d, true));
                refused(h, OUT_OF_RANGE, () -> h.move(0, direction, 1));
                due(0, h.move(0, d, -29));
                refused(h, OUT_OF_RANGE, () -> h.move(0, direction, -1));
            }
        });
        test("Promise 4", "NOT_POSSIBLE if it would cut another box", () -> {
            for (int d = 0; d < 3; d++) {
                int direction = d;
                Calls h = new Calls();
                due(0, h.add(10, 10, 10, 2, 2, 2));
                due(1, add(h, with(new int[] {11, 11, 11, 3, 3, 3}, d, 15)));
                refused(h, NOT_POSSIBLE, () -> h.move(0, direction, 4));
                due(13, h.move(0, d, 3));
                refused(h, NOT_POSSIBLE, () -> h.move(0, direction, 1));
                due(18, h.move(0, d, 5));
                refused(h, NOT_POSSIBLE, () -> h.move(0, direction, -1));
                refused(h, NOT_POSSIBLE, () -> h.move(1, direction, 1));
            }
        });
        test("Promise 4", "(only where it is then matters)", () -> {
            // It passes through a box, and to a place that it covers itself.
            Calls h = boxes("0,0,0:2,2,2", "2,0,0:2,2,2", "0,4,0:5,5,5");
            due(4, h.move(0, 0, 4));
            due(0, h.move(0, 0, -4));
            due(9, h.move(0, 1, 9));
            due(0, h.move(0, 1, -9));
            due(1, h.move(2, 0, 1));
            due(0, h.move(2, 0, -1));
            refused(h, NOT_POSSIBLE, () -> h.move(0, 0, 3));
        });
        test("Promise 4", "NONE if by is 0.", () -> {
            for (int d = 0; d < 3; d++) {
                int direction = d;
                Calls h = boxes("0,0,0:2,2,2", "30,30,30:2,2,2", "2,0,0:2,2,2");
                for (int box = 0; box < 3; box++) {
                    int number = box;
                    refused(h, NONE, () -> h.move(number, direction, 0));
                }
                due(3, h.total(11));
            }
        });
    }

    private static void fall() {
        test("Promise 5", "`int fall(int box)`: Lets a box fall: its low end in z becomes the greatest high end in z of the boxes below it", () -> {
            // Boxes 1 and 2 are both below it; then one of them, then none.
            Calls h = boxes("0,0,20:4,4,2", "0,0,3:2,2,2", "2,2,0:2,2,9");
            records(h, 11, () -> h.fall(0));
            due(11, h.fall(0));
            ends(h, 0, "0,0,9:4,4,2");
            due(36, h.remove(2));
            due(4, h.fall(0));
            ends(h, 0, "0,0,5:4,4,2");
            refused(h, NONE, () -> h.fall(0));
            due(8, h.remove(1));
            due(5, h.fall(0));
            ends(h, 0, "0,0,0:4,4,2");
            // A box that touches it already, and one that ends right below.
            Calls near = boxes("0,0,2:2,2,2", "0,0,0:2,2,1");
            due(1, near.fall(0));
            due(1, near.end(0, 2, false));
        });
        test("Promise 5", ", 0 without any. This is a change.", () -> {
            for (int z = 1; z <= 31; z++) {
                Calls h = boxes("9,9," + z + ":1,1,1");
                due(z, h.fall(0));
                ends(h, 0, "9,9,0:1,1,1");
                due(2, h.total(11));
            }
        });
        test("Promise 5", "`box`: a box", () -> {
            Calls h = boxes("0,0,9:1,1,1", "5,5,8:1,1,1", "9,9,7:1,1,1");
            due(8, h.fall(1));
            ends(h, 0, "0,0,9:1,1,1");
            ends(h, 1, "5,5,0:1,1,1");
            ends(h, 2, "9,9,7:1,1,1");
        });
        test("Promise 5", "UNKNOWN", () -> unknownBoxes((h, box) -> h.fall(box)));
    }

    private static void fallPastBoxes() {
        test("Promise 5", "Returns by how much it falls", () -> {
            // Boxes that touch it from the side or at a corner only, or are above it, do not hold it.
            String[] beside = {"8,10,3:2,2,1", "12,10,3:2,2,1", "10,8,3:2,2,1", "10,12,3:2,2,1", "8,8,3:2,2,1", "10,10,22:2,2,1"};
            for (String other : beside) {
                Calls h = boxes("10,10,20:2,2,2", other);
                due(20, h.fall(0));
            }
            String[] below = {"9,9,3:2,2,1", "11,11,3:2,2,1", "9,11,3:2,2,1", "11,9,3:2,2,1", "4,10,3:12,1,1"};
            for (String other : below) {
                Calls h = boxes("10,10,20:2,2,2", other);
                due(16, h.fall(0));
                due(4, h.end(0, 2, false));
            }
            due(31, boxes("0,0,31:1,1,1").fall(0));
            due(1, boxes("0,0,1:12,12,12").fall(0));
        });
        test("Promise 5", "NONE if it does not.", () -> {
            Calls h = boxes("0,0,0:2,2,2", "0,0,2:2,2,2", "5,5,0:1,1,1");
            refused(h, NONE, () -> h.fall(0));
            refused(h, NONE, () -> h.fall(1));
            refused(h, NONE, () -> h.fall(2));
            due(3, h.total(11));
        });
    }

    private static void split() {
        test("Promise 6", "`int split(int box, int direction, int at)`: Splits a box. This is a change.", () -> {
            Calls h = boxes("4,5,6:4,5,6", "20,20,20:1,1,1");
            records(h, 2, () -> h.split(0, 0, 5));
            due(2, h.split(0, 0, 5));
            ends(h, 0, "4,5,6:1,5,6");
            ends(h, 2, "5,5,6:3,5,6");
            ends(h, 1, "20,20,20:1,1,1");
            due(3, h.total(0));
            due(121, h.total(8));
            due(1, h.total(7));
        });
        test("Promise 6", "`box`: a box", () -> {
            Calls h = cubes(15);
            due(15, h.split(14, 2, 1));
            ends(h, 14, "8,12,0:2,2,1");
            ends(h, 15, "8,12,1:2,2,1");
        });
        test("Promise 6", "`direction`: 0 to 2", () -> {
            String[] kept = {"4,5,6:2,5,6", "4,5,6:4,2,6", "4,5,6:4,5,2"};
            String[] rest = {"6,5,6:2,5,6", "4,7,6:4,3,6", "4,5,8:4,5,4"};
            for (int d = 0; d < 3; d++) {
                Calls h = boxes("4,5,6:4,5,6");
                due(1, h.split(0, d, 6 + d));
                ends(h, 0, kept[d]);
                ends(h, 1, rest[d]);
            }
            unknownDirections((h, direction) -> h.split(0, direction, 12));
        });
        test("Promise 6", "`at`: a coordinate in this direction", () -> {
            for (int at = 21; at <= 31; at++) {
                Calls h = boxes("20,0,0:12,1,1");
                due(1, h.split(0, 0, at));
                due(at, h.end(0, 0, true));
                due(at, h.end(1, 0, false));
                due(32, h.end(1, 0, true));
            }
        });
        test("Promise 6", "Returns the number of the new box", () -> {
            Calls h = cubes(3);
            due(8, h.remove(2));
            due(3, h.split(0, 0, 1));
            due(4, h.split(1, 0, 5));
            due(5, h.split(3, 1, 1));
            due(6, h.total(1));
        });
    }

    private static void splitErrors() {
        test("Promise 6", "UNKNOWN (box or direction)", () -> {
            unknownBoxes((h, box) -> h.split(box, 0, 1));
            unknownDirections((h, direction) -> h.split(0, direction, 12));
        });
        test("Promise 6", "OUT_OF_RANGE if at is not between its ends", () -> {
            for (int d = 0; d < 3; d++) {
                int direction = d;
                Calls h = boxes("10,10,10:3,3,3");
                for (int at : new int[] {10, 13, 9, 14, 0, -1, 33, MIN, MAX}) {
                    refused(h, OUT_OF_RANGE, () -> h.split(0, direction, at));
                }
                due(1, h.split(0, d, 11));
                due(2, h.split(1, d, 12));
                // A box of size 1 has no coordinate between its ends.
                refused(h, OUT_OF_RANGE, () -> h.split(0, direction, 10));
                refused(h, OUT_OF_RANGE, () -> h.split(0, direction, 11));
                due(2, h.total(7));
            }
        });
        test("Promise 6", "FULL if there are 16 boxes.", () -> {
            Calls h = cubes(15);
            due(15, h.split(0, 0, 1));
            due(16, h.total(0));
            refused(h, FULL, () -> h.split(1, 0, 5));
            refused(h, FULL, () -> h.split(0, 1, 1));
            due(1, h.total(7));
            due(4, h.remove(15));
            due(16, h.split(1, 0, 5));
        });
    }

    private static void breakRing() {
        test("Promise 7", "`int breakRing()`: Breaks a ring. This is a change.", () -> {
            Calls h = boxes(RING);
            records(h, 3, h::breakRing);
            due(3, h.breakRing());
            ends(h, 0, "0,0,1:1,1,1");
            ends(h, 3, "1,0,1:1,1,1");
            ends(h, 1, RING[1]);
            ends(h, 2, RING[2]);
            due(0, h.total(4));
            due(NONE, h.total(5));
            due(4, h.total(3));
            due(1, h.total(7));
        });
        test("Promise 7", "Returns the number of the new box", () -> {
            Calls h = ringAmong(5);
            due(1, h.remove(4));
            due(5, h.breakRing());
            due(6, h.total(1));
            due(5, h.total(0));
            ends(h, 5, "1,0,1:1,1,1");
            // One ring after the other, until there is none.
            Calls long3 = boxes("0,1,2:3,1,1", "2,0,1:1,3,1", "1,2,0:1,1,3");
            each(3, 6, number -> number, number -> long3.breakRing());
            refused(long3, NONE, long3::breakRing);
        });
        test("Promise 7", "NOT_POSSIBLE if there is a ring, and the box that would be split has the greatest size 1", () -> {
            // Cubes of size 1 make no ring (see "SPLITTING"): the least boxes of a ring have a
            // size of 2, and each of their rings can be broken.
            Calls h = boxes(RING);
            due(3, h.breakRing());
            Calls cubes = boxes("0,0,1:1,1,1", "1,0,1:1,1,1", "1,0,0:1,1,1", "1,1,0:1,1,1", "0,1,0:1,1,1", "0,1,1:1,1,1",
                    "0,0,0:1,1,1", "1,1,1:1,1,1");
            due(0, cubes.total(4));
            refused(cubes, NONE, cubes::breakRing);
        });
        test("Promise 7", "FULL if there is a ring, and there are 16 boxes", () -> {
            Calls h = ringAmong(16);
            due(3, h.total(4));
            refused(h, FULL, h::breakRing);
            due(0, h.total(7));
            ends(h, 0, RING[0]);
            due(1, h.remove(15));
            due(16, h.breakRing());
            due(16, h.total(0));
        });
        test("Promise 7", "NONE if there is no ring.", () -> {
            Calls empty = new Calls();
            refused(empty, NONE, empty::breakRing);
            Calls h = boxes("0,0,0:2,2,2", "2,0,0:2,2,2", "0,2,0:2,2,2");
            refused(h, NONE, h::breakRing);
            Calls full = cubes(16);
            refused(full, NONE, full::breakRing);
        });
    }

    private static void turn() {
        test("Promise 8", "`int turn()`: Turns all boxes by a quarter around an upright line: the new low end in x is 32 less the old high end in y, the new low end in y is the old low end in x, and the sizes in x and y are exchanged. This is a change.", () -> {
            String[] before = {"1,2,3:4,5,6", "0,0,0:1,1,1", "31,31,31:1,1,1", "0,20,9:12,12,1"};
            String[] then = {"25,1,3:5,4,6", "31,0,0:1,1,1", "0,31,31:1,1,1", "0,0,9:12,12,1"};
            for (int i = 0; i < before.length; i++) {
                Calls h = boxes(before[i]);
                due(0, h.turn());
                ends(h, 0, then[i]);
                records(h, 0, h::turn);
                each(1, 3, quarter -> 0, quarter -> h.turn());
                ends(h, 0, before[i]);
            }
            Calls both = boxes("1,2,3:4,5,6", "20,3,0:2,1,1");
            that("turn() answers no error", both.turn() >= 0);
            ends(both, 0, "25,1,3:5,4,6");
            ends(both, 1, "28,20,0:1,2,1");
            due(3, both.total(11));
        });
        test("Promise 8", "NONE if there are no boxes.", () -> {
            Calls h = new Calls();
            refused(h, NONE, h::turn);
            due(0, h.add(0, 0, 0, 1, 1, 1));
            due(0, h.turn());
            due(1, h.remove(0));
            refused(h, NONE, h::turn);
        });
    }

    private static void turnCounts() {
        test("Promise 8", "Returns how many of the pairs of boxes in which one hid the other one are otherwise then (the other one hides it, or none does)", () -> {
            // One upon the other stays so; side by side in x it hides by y then, and by x after
            // another quarter the other one hides it.
            Calls pile = boxes("0,0,0:1,1,1", "0,0,1:1,1,1");
            each(1, 4, quarter -> 0, quarter -> pile.turn());
            Calls side = boxes("0,0,0:1,1,1", "1,0,0:1,1,1");
            due(1, side.pair(1, 0));
            due(0, side.turn());
            due(2, side.pair(1, 0));
            due(1, side.turn());
            due(1, side.pair(0, 1));
            due(0, side.turn());
            due(2, side.pair(0, 1));
            due(1, side.turn());
            due(1, side.pair(1, 0));
            // Corner to corner: it hides none then; and a pair in which none hid is not counted.
            Calls corner = boxes("0,0,0:1,1,1", "1,1,0:1,1,1");
            due(1, corner.total(2));
            due(1, corner.turn());
            due(0, corner.total(2));
            due(0, corner.turn());
            due(1, corner.total(2));
            due(1, corner.pair(0, 1));
            // All pairs of as many boxes as there can be: a row of plates, on edge.
            Calls row = new Calls();
            for (int i = 0; i < 16; i++) {
                due(i, row.add(0, i, 0, 12, 1, 12));
            }
            int pairs = row.total(2);
            due(16 * 15 / 2 - 3 * 4 / 2, pairs);
            due(pairs, row.turn());
            due(pairs, row.total(2));
            due(0, row.turn());
        });
    }

    private static void set() {
        test("Promise 9", "`int set(int setting, int value)`: Changes the setting. This is a change.", () -> {
            Calls h = boxes("0,20,0:2,2,2", "20,0,0:1,1,1");
            records(h, 0, () -> h.set(0, 2));
            order(h, 0, 1);
            due(0, h.set(0, 2));
            order(h, 1, 0);
            due(2, h.total(10));
            due(3, h.total(11));
        });
        test("Promise 9", "`setting`: 0", () -> {
            Calls h = new Calls();
            for (int setting : new int[] {-1, 1, 2, MIN, MAX}) {
                refused(h, UNKNOWN, () -> h.set(setting, 1));
            }
            due(0, h.set(0, 1));
        });
        test("Promise 9", "`value`: 0 to 2", () -> {
            Calls h = new Calls();
            for (int value : new int[] {-1, 3, MIN, MAX}) {
                refused(h, OUT_OF_RANGE, () -> h.set(0, value));
            }
            due(0, h.set(0, 2));
            due(2, h.total(10));
            due(2, h.set(0, 0));
            due(0, h.total(10));
        });
        test("Promise 9", "Returns the previous value", () -> {
            Calls h = new Calls();
            int previous = 0;
            for (int value : new int[] {1, 2, 0, 2, 1, 0}) {
                due(previous, h.set(0, value));
                due(value, h.total(10));
                previous = value;
            }
        });
        test("Promise 9", "UNKNOWN; OUT_OF_RANGE", () -> {
            Calls h = new Calls();
            refused(h, UNKNOWN, () -> h.set(1, 1));
            refused(h, UNKNOWN, () -> h.set(1, 3));
            refused(h, OUT_OF_RANGE, () -> h.set(0, 3));
        });
        test("Promise 9", "NONE if it has this value already.", () -> {
            Calls h = new Calls();
            for (int value = 0; value <= 2; value++) {
                int same = value;
                that("set() answers no error", value == 0 || h.set(0, value) >= 0);
                refused(h, NONE, () -> h.set(0, same));
            }
            due(2, h.total(11));
        });
    }
}
