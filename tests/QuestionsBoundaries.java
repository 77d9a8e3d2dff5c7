import java.util.List;

/** A test for each sentence of the promises 16 to 24, by which nothing changes. */
final class QuestionsBoundaries extends Sentences {
    /** A ring of all sixteen boxes, and no shorter one. */
    private static final String[] LONGEST_RING = {"5,0,22:5,8,9", "9,26,4:9,3,3", "3,17,7:9,11,4", "15,20,0:8,6,8",
        "3,4,19:2,6,2", "1,12,15:10,4,3", "18,4,12:9,3,7", "14,0,17:1,8,10", "24,12,5:4,3,10", "2,6,18:8,7,1",
        "0,24,11:6,7,4", "15,16,5:11,3,2", "16,1,18:4,2,3", "19,3,11:1,1,11", "22,10,6:2,5,10", "0,15,15:1,10,11"};
    /** 0 hides 2 hides 3 hides 5 hides 0 and 4, 4 hides 0, and 3 hides 1 too. */
    private static final String[] RING_OF_FOUR_OR_FIVE = {"0,0,5:1,9,1", "2,6,0:2,6,3", "0,3,4:2,5,1", "1,6,3:9,1,1",
        "2,0,6:1,4,1", "6,5,1:3,1,11"};
    /** A ring, a box that hides all three of it, and one apart that is drawn. */
    private static final String[] STUCK = {"0,0,1:2,1,1", "1,0,0:1,2,1", "0,1,0:1,1,2", "3,3,3:1,1,1", "0,20,0:1,1,1"};

    private QuestionsBoundaries() {
    }

    static void run() {
        box();
        end();
        ofBox();
        ofBoxHiding();
        ofBoxRings();
        ofBoxFeet();
        ofBoxErrors();
        pair();
        drawn();
        totalOfBoxes();
        totalOfDrawing();
        totalOfState();
        totalErrors();
        waitsFor();
        breaks();
        drawnWithout();
        nothingChanges();
    }

    private static void box() {
        test("Promise 16", "`int box(int rank)`: Returns the number of a box.", () -> {
            Calls h = cubes(4);
            due(8, h.remove(1));
            due(2, h.box(1));
            refused(h, 3, () -> h.box(2));
        });
        test("Promise 16", "`rank`: 0 for the box with the least number, and so on", () -> {
            Calls full = cubes(16);
            each(0, 15, rank -> rank, rank -> full.box(rank));
            due(8, full.remove(0));
            due(16, full.add(30, 30, 30, 1, 1, 1));
            each(0, 15, rank -> rank + 1, rank -> full.box(rank));
        });
        test("Promise 16", "Returns the number; OUT_OF_RANGE if rank is negative", () -> {
            Calls h = cubes(2);
            due(0, h.box(0));
            refused(h, OUT_OF_RANGE, () -> h.box(-1));
            refused(h, OUT_OF_RANGE, () -> h.box(MIN));
            due(OUT_OF_RANGE, new Calls().box(-1));
        });
        test("Promise 16", "NONE if there are not so many.", () -> {
            due(NONE, new Calls().box(0));
            Calls h = cubes(2);
            due(1, h.box(1));
            refused(h, NONE, () -> h.box(2));
            refused(h, NONE, () -> h.box(15));
            refused(h, NONE, () -> h.box(16));
            refused(h, NONE, () -> h.box(MAX));
            due(NONE, cubes(16).box(16));
            due(8, h.remove(0));
            due(1, h.box(0));
            due(NONE, h.box(1));
        });
    }

    private static void end() {
        test("Promise 17", "`int end(int box, int direction, boolean isHigh)`: Returns an end of a box.", () -> {
            Calls h = boxes("0,0,0:1,1,1", "1,2,3:4,5,6", "31,31,31:1,1,1");
            ends(h, 0, "0,0,0:1,1,1");
            ends(h, 1, "1,2,3:4,5,6");
            ends(h, 2, "31,31,31:1,1,1");
        });
        test("Promise 17", "`box`: a box", () -> {
            Calls h = cubes(16);
            for (int box = 0; box < 16; box++) {
                due(box % 4 * 4, h.end(box, 0, false));
                due(box / 4 * 4, h.end(box, 1, false));
            }
        });
        test("Promise 17", "`direction`: 0 to 2", () -> {
            Calls h = boxes("1,2,3:4,5,6");
            each(0, 2, d -> 1 + d, d -> h.end(0, d, false));
            unknownDirections((other, direction) -> other.end(0, direction, true));
            unknownDirections((other, direction) -> other.end(0, direction, false));
        });
        test("Promise 17", "`isHigh`: whether the high end is meant", () -> {
            Calls h = boxes("20,0,31:12,1,1");
            int[] highs = {32, 1, 32};
            int[] lows = {20, 0, 31};
            each(0, 2, d -> highs[d], d -> h.end(0, d, true));
            each(0, 2, d -> lows[d], d -> h.end(0, d, false));
        });
        test("Promise 17", "Returns the end; UNKNOWN.", () -> {
            unknownBoxes((h, box) -> h.end(box, 0, true));
            unknownBoxes((h, box) -> h.end(box, 2, false));
        });
    }

    private static void ofBox() {
        test("Promise 18", "`int ofBox(int box, int what)`: Returns something of a box.", () -> {
            // Volume, hides, hidden by, layer, ring, stands on, below it, shadow, foot; box 3
            // floats too high to hide one, and box 4 floats alone.
            Calls h = boxes("0,0,0:4,4,2", "0,0,2:2,2,2", "2,0,2:2,4,1", "1,1,9:2,2,1", "30,0,5:1,1,1");
            int[][] due = {{32, 0, 2, 0, NONE, 0, 0, 13, 1}, {8, 1, 1, 1, NONE, 1, 1, 1, 1},
                {8, 2, 0, 2, NONE, 1, 1, 2, 1}, {4, 0, 0, 0, NONE, 0, 3, 0, 0}, {1, 0, 0, 0, NONE, 0, 0, 0, 0}};
            for (int box = 0; box < 5; box++) {
                int number = box;
                each(0, 8, what -> due[number][what], what -> h.ofBox(number, what));
            }
        });
        test("Promise 18", "`box`: a box", () -> {
            Calls h = new Calls();
            for (int i = 0; i < 16; i++) {
                due(i, h.add(i % 4 * 8, i / 4 * 8, 0, 1 + i % 6, 2, 1));
            }
            each(0, 15, box -> 2 + 2 * (box % 6), box -> h.ofBox(box, 0));
        });
        test("Promise 18", "`what`: 0 for its volume", () -> {
            due(1, boxes("31,31,31:1,1,1").ofBox(0, 0));
            due(1728, boxes("0,0,0:12,12,12").ofBox(0, 0));
            Calls h = boxes("0,0,0:5,3,2");
            due(1, h.split(0, 0, 4));
            due(24, h.ofBox(0, 0));
            due(6, h.ofBox(1, 0));
        });
    }

    private static void ofBoxHiding() {
        String[] pile = new String[13];
        for (int i = 0; i < 13; i++) {
            pile[i] = "0,0," + i + ":12,12,1";
        }
        test("Promise 18", ", 1 for how many boxes it hides", () -> {
            due(0, boxes("0,0,0:1,1,1").ofBox(0, 1));
            Calls h = boxes(pile);
            each(0, 12, box -> box, box -> h.ofBox(box, 1));
            // As many as there can be: fifteen cubes behind a great box.
            Calls cubes = cubesBehind();
            due(15, cubes.ofBox(15, 1));
            each(0, 14, box -> 0, box -> cubes.ofBox(box, 1));
        });
        test("Promise 18", ", 2 for how many hide it", () -> {
            due(0, boxes("0,0,0:1,1,1").ofBox(0, 2));
            Calls h = boxes(pile);
            each(0, 12, box -> 12 - box, box -> h.ofBox(box, 2));
            Calls cubes = cubesBehind();
            due(0, cubes.ofBox(15, 2));
            each(0, 14, box -> 1, box -> cubes.ofBox(box, 2));
        });
        test("Promise 18", ", 3 for its layer (NONE without one)", () -> {
            due(0, boxes("0,0,0:1,1,1").ofBox(0, 3));
            Calls h = boxes(pile);
            each(0, 12, box -> box, box -> h.ofBox(box, 3));
            Calls stuck = boxes(STUCK);
            each(0, 3, box -> NONE, box -> stuck.ofBox(box, 3));
            due(0, stuck.ofBox(4, 3));
            due(5, stuck.breakRing());
            that("box 3 has the greatest layer then", stuck.ofBox(3, 3) > 0 && stuck.ofBox(3, 3) == stuck.total(6));
        });
    }

    /** Fifteen cubes of which none hides another one, on the ground, and a plate upon them. */
    private static Calls cubesBehind() {
        Calls h = new Calls();
        for (int i = 0; i < 15; i++) {
            due(i, h.add(i % 4 * 3, i / 4 * 3, 0, 1, 1, 1));
        }
        due(15, h.add(0, 0, 1, 12, 12, 1));
        return h;
    }

    private static void ofBoxRings() {
        test("Promise 18", ", 4 for how many boxes are in the shortest ring in which it is (NONE if it is in none)", () -> {
            due(NONE, boxes("0,0,0:1,1,1").ofBox(0, 4));
            Calls h = boxes(STUCK);
            each(0, 2, box -> 3, box -> h.ofBox(box, 4));
            due(NONE, h.ofBox(3, 4));
            due(NONE, h.ofBox(4, 4));
            Calls longer = boxes(RING_OF_FOUR_OR_FIVE);
            int[] due = {4, NONE, 4, 4, 5, 4};
            each(0, 5, box -> due[box], box -> longer.ofBox(box, 4));
            Calls longest = boxes(LONGEST_RING);
            each(0, 15, box -> 16, box -> longest.ofBox(box, 4));
            that("a box is taken away", longest.remove(7) > 0);
            each(0, 15, box -> box == 7 ? UNKNOWN : NONE, box -> longest.ofBox(box, 4));
        });
    }

    private static void ofBoxFeet() {
        test("Promise 18", ", 5 for how many boxes it stands on", () -> {
            Calls h = boxes("0,0,0:2,2,2", "2,0,0:2,2,2", "1,0,2:2,2,1", "4,0,2:1,1,1", "1,0,4:2,2,1");
            int[] due = {0, 0, 2, 0, 0};
            each(0, 4, box -> due[box], box -> h.ofBox(box, 5));
            due(15, cubesBehind().ofBox(15, 5));
        });
        test("Promise 18", ", 6 for how many are below it", () -> {
            Calls h = boxes("0,0,0:2,2,2", "2,0,0:2,2,2", "1,0,2:2,2,1", "4,0,2:1,1,1", "1,0,4:2,2,1");
            int[] due = {0, 0, 2, 0, 3};
            each(0, 4, box -> due[box], box -> h.ofBox(box, 6));
            Calls pile = new Calls();
            for (int i = 0; i < 16; i++) {
                due(i, pile.add(9, 9, 2 * i, 1, 1, 1));
            }
            each(0, 15, box -> box, box -> pile.ofBox(box, 6));
            each(0, 15, box -> 0, box -> pile.ofBox(box, 5));
        });
        test("Promise 18", ", 7 for the cells of its top that are in shadow", () -> {
            due(0, boxes("0,0,0:12,12,12").ofBox(0, 7));
            due(144, boxes("0,0,0:12,12,1", "0,0,1:12,12,1").ofBox(0, 7));
            due(1, boxes("0,0,0:12,12,1", "11,11,31:1,1,1").ofBox(0, 7));
            due(15, cubesBehind().total(9));
            Calls edge = boxes("20,20,0:12,12,1", "31,20,9:1,12,1", "20,31,10:12,1,1");
            due(23, edge.ofBox(0, 7));
            due(1, edge.ofBox(1, 7));
            due(0, edge.ofBox(2, 7));
        });
        test("Promise 18", ", 8 for whether its foot is on the ground (its low end in z is 0) or it stands on a box (1, otherwise 0)", () -> {
            Calls h = boxes("0,0,0:2,2,2", "1,1,2:2,2,2", "2,0,1:1,1,1", "9,9,1:1,1,1", "1,1,5:2,2,1");
            int[] due = {1, 1, 0, 0, 0};
            each(0, 4, box -> due[box], box -> h.ofBox(box, 8));
            due(1, h.fall(4));
            due(1, h.ofBox(4, 8));
            due(1, h.fall(3));
            due(1, h.ofBox(3, 8));
            due(8, h.remove(0));
            due(0, h.ofBox(1, 8));
            due(1, h.ofBox(4, 8));
        });
    }

    private static void ofBoxErrors() {
        for (int i = 0; i <= 8; i++) {
            int what = i;
            test("Promise 18", "Returns the number; UNKNOWN", () -> unknownBoxes((h, box) -> h.ofBox(box, what)));
        }
        test("Promise 18", "OUT_OF_RANGE.", () -> {
            Calls h = boxes("0,0,0:1,1,1");
            for (int what : new int[] {-1, 9, 10, MIN, MAX}) {
                refused(h, OUT_OF_RANGE, () -> h.ofBox(0, what));
                refused(h, UNKNOWN, () -> h.ofBox(1, what));
            }
        });
    }

    private static void pair() {
        test("Promise 19", "`int pair(int one, int other)`: Tells how two boxes are.", () -> {
            Calls h = boxes("4,4,4:2,2,2", "6,4,4:2,2,2", "4,6,4:2,2,2", "4,4,6:2,2,2", "6,6,6:2,2,2");
            int[][] due = {{OUT_OF_RANGE, 4, 5, 6, 4}, {1, OUT_OF_RANGE, 0, 0, 5}, {2, 0, OUT_OF_RANGE, 0, 4},
                {3, 0, 0, OUT_OF_RANGE, 4}, {1, 2, 1, 1, OUT_OF_RANGE}};
            for (int one = 0; one < 5; one++) {
                int first = one;
                each(0, 4, other -> due[first][other], other -> h.pair(first, other));
            }
        });
        test("Promise 19", "`one`: a box", () -> unknownBoxes((h, box) -> h.pair(box, 0)));
        test("Promise 19", "`other`: another box", () -> unknownBoxes((h, box) -> h.pair(0, box)));
        test("Promise 19", "Returns 0 if their outlines do not overlap", () -> {
            // They touch at a reach's end in x - y, in x - z, in y - z, or are far apart.
            String[] others = {"7,9,8:1,1,1", "9,7,8:1,1,1", "7,8,9:1,1,1", "9,8,7:1,1,1", "8,7,9:1,1,1", "8,9,7:1,1,1",
                "31,0,0:1,1,1", "0,31,31:1,1,1"};
            for (String other : others) {
                Calls h = boxes("8,8,8:1,1,1", other);
                due(0, h.pair(0, 1));
                due(0, h.pair(1, 0));
            }
        });
        test("Promise 19", "1, 2 or 3 if the first one hides the other one by the direction 0, 1 or 2", () -> {
            due(1, boxes("9,8,8:1,1,1", "8,8,8:1,1,1").pair(0, 1));
            due(2, boxes("8,9,8:1,1,1", "8,8,8:1,1,1").pair(0, 1));
            due(3, boxes("8,8,9:1,1,1", "8,8,8:1,1,1").pair(0, 1));
            due(1, boxes("31,31,31:1,1,1", "0,0,0:1,1,1").pair(0, 1));
            due(1, boxes("30,31,31:1,1,1", "0,0,0:12,1,1").pair(0, 1));
        });
        test("Promise 19", "4, 5 or 6 if the other one hides the first one by the direction 0, 1 or 2", () -> {
            due(4, boxes("9,8,8:1,1,1", "8,8,8:1,1,1").pair(1, 0));
            due(5, boxes("8,9,8:1,1,1", "8,8,8:1,1,1").pair(1, 0));
            due(6, boxes("8,8,9:1,1,1", "8,8,8:1,1,1").pair(1, 0));
        });
        test("Promise 19", "UNKNOWN", () -> {
            Calls h = boxes("0,0,0:1,1,1", "5,5,5:1,1,1");
            refused(h, UNKNOWN, () -> h.pair(2, 0));
            refused(h, UNKNOWN, () -> h.pair(0, 2));
            refused(h, UNKNOWN, () -> h.pair(2, 3));
            refused(h, UNKNOWN, () -> h.pair(2, 2));
            refused(h, UNKNOWN, () -> h.pair(MIN, MAX));
        });
        test("Promise 19", "OUT_OF_RANGE if both are the same.", () -> {
            Calls h = cubes(3);
            for (int box = 0; box < 3; box++) {
                int same = box;
                refused(h, OUT_OF_RANGE, () -> h.pair(same, same));
            }
        });
    }

    private static void drawn() {
        test("Promise 20", "`int drawn(int place)`: Returns a box in the order in which they are drawn.", () -> {
            Calls h = boxes("1,0,0:1,1,1", "0,0,0:1,1,1", "20,0,0:2,2,2", "10,9,0:1,1,2");
            order(h, 1, 0, 2, 3);
            due(0, h.set(0, 1));
            order(h, 1, 0, 3, 2);
            due(1, h.set(0, 2));
            order(h, 1, 0, 3, 2);
            due(3, h.move(1, 1, 3));
            order(h, 0, 1, 3, 2);
        });
        test("Promise 20", "`place`: 0 for the box that is drawn first, and so on", () -> {
            Calls pile = new Calls();
            for (int i = 0; i < 16; i++) {
                due(i, pile.add(0, 0, 15 - i, 12, 12, 1));
            }
            each(0, 15, place -> 15 - place, place -> pile.drawn(place));
            due(NONE, pile.drawn(16));
        });
        test("Promise 20", "Returns the box; OUT_OF_RANGE if place is negative", () -> {
            Calls h = cubes(2);
            refused(h, 0, () -> h.drawn(0));
            refused(h, OUT_OF_RANGE, () -> h.drawn(-1));
            refused(h, OUT_OF_RANGE, () -> h.drawn(MIN));
            due(OUT_OF_RANGE, new Calls().drawn(-1));
            due(OUT_OF_RANGE, boxes(RING).drawn(-1));
        });
        test("Promise 20", "NONE if not so many are drawn.", () -> {
            due(NONE, new Calls().drawn(0));
            Calls h = boxes(STUCK);
            due(4, h.drawn(0));
            for (int place : new int[] {1, 2, 4, 5, 16, MAX}) {
                refused(h, NONE, () -> h.drawn(place));
            }
            Calls ring = boxes(RING);
            refused(ring, NONE, () -> ring.drawn(0));
            Calls all = cubes(3);
            due(2, all.drawn(2));
            due(NONE, all.drawn(3));
        });
    }

    private static void totalOfBoxes() {
        test("Promise 21", "`int total(int what)`: Returns a number of the whole.", () -> {
            Calls h = boxes(RING);
            due(3, h.add(3, 3, 3, 1, 1, 1));
            due(4, h.add(20, 0, 0, 4, 1, 1));
            due(5, h.split(4, 0, 21));
            due(6, h.add(0, 30, 0, 1, 1, 1));
            due(1, h.remove(6));
            due(0, h.set(0, 2));
            typeAll(h, "abc");
            int[] totals = {6, 7, 7, 2, 3, 3, 1, 1, 11, 1, 2, 4, 3};
            each(0, 12, what -> totals[what], what -> h.total(what));
        });
        test("Promise 21", "`what`: 0 for the boxes", () -> {
            Calls h = new Calls();
            for (int i = 0; i < 16; i++) {
                due(i, h.total(0));
                due(i, h.add(i, 0, 0, 1, 1, 1));
            }
            due(16, h.total(0));
            due(FULL, h.add(0, 9, 9, 1, 1, 1));
            due(16, h.total(0));
            due(1, h.remove(4));
            due(15, h.total(0));
        });
        test("Promise 21", ", 1 for the boxes so far", () -> {
            Calls h = cubes(16);
            due(16, h.total(1));
            due(FULL, h.add(30, 30, 30, 1, 1, 1));
            due(16, h.total(1));
            due(8, h.remove(0));
            due(16, h.total(1));
            due(16, h.add(30, 30, 30, 1, 1, 1));
            due(17, h.total(1));
            due(NOT_POSSIBLE, h.add(30, 30, 30, 1, 1, 1));
            due(17, h.total(1));
        });
        test("Promise 21", ", 2 for the pairs of boxes of which one hides the other one", () -> {
            due(0, boxes("0,0,0:1,1,1").total(2));
            due(0, boxes("0,0,0:1,1,1", "2,0,0:1,1,1").total(2));
            due(1, boxes("0,0,0:1,1,1", "1,0,0:1,1,1").total(2));
            due(3, boxes(RING).total(2));
            due(15, cubesBehind().total(2));
            // All pairs of sixteen cubes on the line of sight.
            Calls line = new Calls();
            for (int i = 0; i < 16; i++) {
                due(i, line.add(2 * i, 2 * i, 2 * i, 1, 1, 1));
            }
            due(120, line.total(2));
        });
        test("Promise 21", ", 8 for the volume of all boxes", () -> {
            Calls h = boxes("0,0,0:12,12,12", "12,0,0:1,1,1", "0,12,0:2,3,4");
            due(1753, h.total(8));
            due(3, h.split(0, 1, 5));
            due(1753, h.total(8));
            due(24, h.remove(2));
            due(1729, h.total(8));
            Calls great = new Calls();
            for (int i = 0; i < 8; i++) {
                due(i, great.add(i % 2 * 12, i / 2 % 2 * 12, i / 4 * 12, 12, 12, 12));
            }
            due(8 * 1728, great.total(8));
        });
        test("Promise 21", ", 9 for all cells of tops that are in shadow", () -> {
            due(0, boxes("0,0,0:12,12,12").total(9));
            due(4, boxes("0,0,0:2,2,2", "0,0,2:2,2,2").total(9));
            Calls pile = new Calls();
            for (int i = 0; i < 16; i++) {
                due(i, pile.add(20, 20, 2 * i, 12, 12, 1));
            }
            due(15 * 144, pile.total(9));
        });
    }

    private static void totalOfDrawing() {
        test("Promise 21", ", 3 for the boxes that are drawn before the drawing sticks or ends", () -> {
            due(0, boxes(RING).total(3));
            due(1, boxes(STUCK).total(3));
            due(16, cubes(16).total(3));
            due(0, boxes(LONGEST_RING).total(3));
        });
        test("Promise 21", ", 4 for the boxes that are in rings", () -> {
            due(0, cubes(16).total(4));
            due(3, boxes(STUCK).total(4));
            due(5, boxes(RING_OF_FOUR_OR_FIVE).total(4));
            due(16, boxes(LONGEST_RING).total(4));
            // Two rings apart.
            due(6, boxes("0,0,1:2,1,1", "1,0,0:1,2,1", "0,1,0:1,1,2", "20,0,1:2,1,1", "21,0,0:1,2,1", "20,1,0:1,1,2").total(4));
        });
        test("Promise 21", ", 5 for the boxes in the shortest ring of all (NONE without one)", () -> {
            due(NONE, new Calls().total(5));
            due(NONE, cubes(16).total(5));
            due(3, boxes(RING).total(5));
            due(4, boxes(RING_OF_FOUR_OR_FIVE).total(5));
            due(16, boxes(LONGEST_RING).total(5));
            // The shorter one of two, whichever has the lesser numbers.
            Calls h = boxes(RING_OF_FOUR_OR_FIVE);
            String[] short3 = {"20,20,21:2,1,1", "21,20,20:1,2,1", "20,21,20:1,1,2"};
            each(6, 8, i -> i, i -> add(h, numbers(short3[i - 6])));
            due(3, h.total(5));
            due(4, h.ofBox(0, 4));
            due(3, h.ofBox(6, 4));
            due(2, h.remove(7));
            due(4, h.total(5));
        });
        test("Promise 21", ", 6 for the greatest layer (NONE without one)", () -> {
            due(NONE, new Calls().total(6));
            due(0, boxes("0,0,0:1,1,1").total(6));
            due(NONE, boxes(RING).total(6));
            due(0, boxes(STUCK).total(6));
            Calls line = new Calls();
            for (int i = 0; i < 16; i++) {
                due(i, line.add(31 - i, 31 - i, 31 - i, 1, 1, 1));
            }
            due(15, line.total(6));
            due(15, line.ofBox(0, 3));
        });
    }

    private static void totalOfState() {
        test("Promise 21", ", 7 for the boxes split so far, by split() and breakRing()", () -> {
            Calls h = boxes(RING);
            due(0, h.total(7));
            due(3, h.breakRing());
            due(1, h.total(7));
            due(NONE, h.breakRing());
            due(OUT_OF_RANGE, h.split(1, 0, 1));
            due(1, h.total(7));
            due(4, h.split(1, 1, 1));
            due(2, h.total(7));
            due(1, h.remove(4));
            due(2, h.total(7));
            due(3, h.undo());
            due(2, h.total(7));
            due(2, h.undo());
            due(1, h.total(7));
            due(1, h.undo());
            due(0, h.total(7));
        });
        test("Promise 21", ", 10 for the setting 0", () -> {
            Calls h = new Calls();
            due(0, h.total(10));
            due(0, h.set(0, 2));
            due(2, h.total(10));
            due(OUT_OF_RANGE, h.set(0, 3));
            due(2, h.total(10));
            due(0, h.undo());
            due(0, h.total(10));
        });
        test("Promise 21", ", 11 for the states in the history", () -> {
            Calls h = new Calls();
            for (int i = 0; i < 7; i++) {
                due(Math.min(4, i), h.total(11));
                due(i, h.add(i, 0, 0, 1, 1, 1));
            }
            due(3, h.undo());
            due(3, h.total(11));
        });
        test("Promise 21", ", 12 for the length of the text", () -> {
            Calls h = new Calls();
            for (int i = 0; i < 80; i++) {
                due(i, h.total(12));
                due(i + 1, h.type('x'));
            }
            due(FULL, h.type('x'));
            due(80, h.total(12));
            due(80, h.clearText());
            due(0, h.total(12));
        });
    }

    private static void totalErrors() {
        test("Promise 21", "Returns the number; OUT_OF_RANGE.", () -> {
            Calls h = cubes(2);
            for (int what : new int[] {-1, 13, 14, MIN, MAX}) {
                refused(h, OUT_OF_RANGE, () -> h.total(what));
            }
        });
    }

    private static void waitsFor() {
        test("Promise 22", "`int waitsFor(int box)`: Tells why a box is not drawn.", () -> {
            Calls h = boxes(STUCK);
            int[] due = {1, 2, 0, 0, NONE};
            each(0, 4, box -> due[box], box -> h.waitsFor(box));
        });
        test("Promise 22", "`box`: a box", () -> {
            // In a ring of all boxes each one waits for one that it hides.
            Calls h = boxes(LONGEST_RING);
            for (int box = 0; box < 16; box++) {
                int awaited = h.waitsFor(box);
                int answer = h.pair(box, awaited);
                that("box " + box + " hides the one that it waits for", answer >= 1 && answer <= 3);
            }
        });
        test("Promise 22", "Returns the box with the least number that it hides and that is not drawn", () -> {
            // Box 0 is hidden by box 4, but drawn; of the ring box 1 has the least number.
            Calls h = boxes("0,0,0:1,1,1", "10,10,11:2,1,1", "11,10,10:1,2,1", "10,11,10:1,1,2", "14,14,14:1,1,1");
            due(1, h.pair(4, 0));
            due(1, h.waitsFor(4));
            due(2, h.remove(1));
            due(NONE, h.waitsFor(4));
            due(5, h.add(10, 10, 11, 2, 1, 1));
            due(2, h.waitsFor(4));
            due(3, h.waitsFor(2));
            due(5, h.waitsFor(3));
            due(2, h.waitsFor(5));
            // It waits for a box that is in no ring itself.
            Calls chain = boxes("13,13,12:3,1,1", "16,13,13:1,1,1", "10,10,11:2,1,1", "11,10,10:1,2,1", "10,11,10:1,1,2");
            due(0, chain.waitsFor(1));
        });
        test("Promise 22", "UNKNOWN", () -> unknownBoxes((h, box) -> h.waitsFor(box)));
        test("Promise 22", "NONE if it is drawn.", () -> {
            Calls h = cubes(16);
            each(0, 15, box -> NONE, box -> h.waitsFor(box));
            Calls ring = boxes(STUCK);
            due(NONE, ring.waitsFor(4));
            due(5, ring.breakRing());
            each(0, 5, box -> NONE, box -> ring.waitsFor(box));
        });
    }

    private static void breaks() {
        test("Promise 23", "`int breaks()`: Tells how many rings have to be broken, one after the other as by breakRing(), until there is no ring.", () -> {
            String[][] scenes = {RING, STUCK, RING_OF_FOUR_OR_FIVE, {"0,1,2:3,1,1", "2,0,1:1,3,1", "1,2,0:1,1,3"},
                {"0,0,1:12,1,1", "1,0,0:1,12,1", "0,1,0:1,1,12"}};
            for (String[] scene : scenes) {
                Calls h = boxes(scene);
                int due = h.breaks();
                for (int i = 0; i < due; i++) {
                    that("there is a ring before break " + i, h.total(4) > 0);
                    due(due - i, h.breaks());
                    due(scene.length + i, h.breakRing());
                }
                due(0, h.total(4));
                due(NONE, h.breakRing());
                due(0, h.breaks());
            }
        });
        test("Promise 23", "Returns how many", () -> {
            Calls h = boxes(RING);
            refused(h, 1, h::breaks);
            String[] second = {"20,0,1:2,1,1", "21,0,0:1,2,1", "20,1,0:1,1,2"};
            each(3, 5, i -> i, i -> add(h, numbers(second[i - 3])));
            refused(h, 2, h::breaks);
            Calls long3 = boxes("0,1,2:3,1,1", "2,0,1:1,3,1", "1,2,0:1,1,3");
            refused(long3, 4, long3::breaks);
        });
        test("Promise 23", ", 0 if there is none", () -> {
            due(0, new Calls().breaks());
            due(0, boxes("0,0,0:1,1,1").breaks());
            Calls full = cubes(16);
            refused(full, 0, full::breaks);
        });
        test("Promise 23", "NOT_POSSIBLE if one of them cannot be broken", () -> {
            // It can't come to that (see "SPLITTING"): each ring has a box with a size of 2.
            Calls h = boxes(RING);
            due(1, h.breaks());
            due(3, h.breakRing());
            due(0, h.breaks());
        });
        test("Promise 23", "FULL if there would be more than 16 boxes.", () -> {
            due(1, ringAmong(14).breaks());
            due(1, ringAmong(15).breaks());
            Calls full = ringAmong(16);
            refused(full, FULL, full::breaks);
            Calls longest = boxes(LONGEST_RING);
            refused(longest, FULL, longest::breaks);
            // Four breaks: of 12 boxes there are 16 then, of 13 boxes there would be 17.
            Calls h = boxes("0,1,2:3,1,1", "2,0,1:1,3,1", "1,2,0:1,1,3");
            for (int i = 3; i < 12; i++) {
                due(i, h.add(i * 2, 20, 0, 1, 1, 1));
            }
            due(4, h.breaks());
            due(12, h.add(30, 20, 0, 1, 1, 1));
            refused(h, FULL, h::breaks);
            due(13, h.total(0));
            due(13, h.breakRing());
        });
    }

    private static void drawnWithout() {
        test("Promise 24", "`int drawnWithout(int box)`: Tells how many boxes would be drawn with a box taken away.", () -> {
            Calls h = boxes(STUCK);
            int[] due = {4, 4, 4, 1, 0};
            for (int box = 0; box < 5; box++) {
                int number = box;
                refused(h, due[box], () -> h.drawnWithout(number));
            }
            due(2, h.remove(1));
            due(4, h.total(3));
        });
        test("Promise 24", "`box`: a box", () -> {
            Calls longest = boxes(LONGEST_RING);
            each(0, 15, box -> 15, box -> longest.drawnWithout(box));
            due(0, longest.total(3));
            Calls full = cubes(16);
            each(0, 15, box -> 15, box -> full.drawnWithout(box));
            due(16, full.total(3));
        });
        test("Promise 24", "Returns how many", () -> {
            Calls one = boxes("0,0,0:1,1,1");
            refused(one, 0, () -> one.drawnWithout(0));
            // A box apart, taken away from two rings, and one ring that stays.
            Calls h = boxes("0,0,1:2,1,1", "1,0,0:1,2,1", "0,1,0:1,1,2", "20,0,1:2,1,1", "21,0,0:1,2,1", "20,1,0:1,1,2");
            each(0, 5, box -> 2, box -> h.drawnWithout(box));
            due(0, h.total(3));
        });
        test("Promise 24", "UNKNOWN.", () -> unknownBoxes((h, box) -> h.drawnWithout(box)));
    }

    private static void nothingChanges() {
        test("ERRORS", "A method that returns an error or NONE changes nothing.", () -> {
            // Nor do questions, whatever they answer.
            Calls h = boxes(STUCK);
            List<Integer> before = look(h);
            for (int box = 0; box < 5; box++) {
                for (int what = 0; what <= 8; what++) {
                    h.ofBox(box, what);
                }
                h.waitsFor(box);
                h.drawnWithout(box);
                h.pair(box, 0);
                h.drawn(box);
            }
            h.breaks();
            that("all is as before", look(h).equals(before));
        });
    }
}
