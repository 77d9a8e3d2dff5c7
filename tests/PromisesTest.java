/** For each promise of the document: ordinary calls, the edges that it names, and wrong inputs. */
public final class PromisesTest {
    private static final int MIN = Integer.MIN_VALUE;
    private static final int MAX = Integer.MAX_VALUE;
    private static final int UNKNOWN = HidingBoxes.UNKNOWN;
    private static final int OUT_OF_RANGE = HidingBoxes.OUT_OF_RANGE;
    private static final int FULL = HidingBoxes.FULL;
    private static final int NOT_POSSIBLE = HidingBoxes.NOT_POSSIBLE;
    private static final int NONE = HidingBoxes.NONE;

    private PromisesTest() {
    }

    public static void main(String[] args) {
        constants();
        promise1NewObject();
        promise2Add();
        promise2AddErrorsInOrder();
        promise3Remove();
        promise4Move();
        promise5Fall();
        promise6Split();
        promise7BreakRing();
        promise7BreakRingChoice();
        promise8Turn();
        promise9Set();
        promise10Type();
        promise11ClearText();
        promise12AddAll();
        promise12FaultsOfTexts();
        promise13Undo();
        promise14Keep();
        promise15Restore();
        promise16Box();
        promise17End();
        promise18OfBox();
        promise18Shadows();
        promise19Pair();
        promise20Drawn();
        promise21Total();
        promise22WaitsFor();
        promise23Breaks();
        promise24DrawnWithout();
        longerRings();
        Check.end("PromisesTest");
    }

    private static void due(String call, int got, int want) {
        Check.due(call, got, want);
    }

    /** Three bars: 0 hides 1 by z, 1 hides 2 by x, 2 hides 0 by y. */
    private static HidingBoxes ring() {
        HidingBoxes h = new HidingBoxes();
        h.add(0, 0, 1, 2, 1, 1);
        h.add(1, 0, 0, 1, 2, 1);
        h.add(0, 1, 0, 1, 1, 2);
        return h;
    }

    /** Sixteen cubes in a square on the ground, none beside another. */
    private static HidingBoxes fullSpace() {
        HidingBoxes h = new HidingBoxes();
        for (int i = 0; i < 16; i++) {
            due("fill", h.add(i % 4 * 4, i / 4 * 4, 0, 2, 2, 2), i);
        }
        return h;
    }

    private static HidingBoxes of(String text) {
        HidingBoxes h = new HidingBoxes();
        type(h, text);
        h.addAll();
        h.clearText();
        return h;
    }

    private static void type(HidingBoxes h, String text) {
        for (int i = 0; i < text.length(); i++) {
            h.type(text.charAt(i));
        }
    }

    private static void constants() {
        due("UNKNOWN", UNKNOWN, -1);
        due("OUT_OF_RANGE", OUT_OF_RANGE, -2);
        due("FULL", FULL, -3);
        due("NOT_POSSIBLE", NOT_POSSIBLE, -4);
        due("NONE", NONE, -5);
    }

    private static void promise1NewObject() {
        HidingBoxes h = new HidingBoxes();
        int[] totals = {0, 0, 0, 0, 0, NONE, NONE, 0, 0, 0, 0, 0, 0};
        for (int what = 0; what < totals.length; what++) {
            due("1: total " + what, h.total(what), totals[what]);
        }
        due("1: box", h.box(0), NONE);
        due("1: drawn", h.drawn(0), NONE);
        due("1: remove", h.remove(0), UNKNOWN);
        due("1: undo", h.undo(), NONE);
        due("1: restore", h.restore(), NONE);
        due("1: breaks", h.breaks(), 0);
        due("1: breakRing", h.breakRing(), NONE);
        due("1: turn", h.turn(), NONE);
        due("1: another object starts anew", new HidingBoxes().add(0, 0, 0, 1, 1, 1), 0);
    }

    private static void promise2Add() {
        HidingBoxes h = new HidingBoxes();
        due("2: least", h.add(0, 0, 0, 1, 1, 1), 0);
        due("2: greatest corner", h.add(31, 31, 31, 1, 1, 1), 1);
        due("2: greatest size", h.add(20, 20, 5, 12, 12, 12), 2);
        due("2: side by side", h.add(1, 0, 0, 1, 1, 1), 3);
        due("2: low end x", h.end(2, 0, false), 20);
        due("2: low end y", h.end(2, 1, false), 20);
        due("2: low end z", h.end(2, 2, false), 5);
        due("2: high end z", h.end(2, 2, true), 17);
        int[] least = {0, 0, 0, 1, 1, 1};
        int[] greatest = {31, 31, 31, 12, 12, 12};
        for (int i = 0; i < 6; i++) {
            int[] wrong = {least[i] - 1, greatest[i] + 1, MIN, MAX};
            for (int value : wrong) {
                int[] b = {5, 5, 5, 1, 1, 1};
                b[i] = value;
                due("2: argument " + i + " is " + value, h.add(b[0], b[1], b[2], b[3], b[4], b[5]), OUT_OF_RANGE);
            }
        }
        due("2: high end x 33", h.add(30, 5, 5, 3, 1, 1), OUT_OF_RANGE);
        due("2: high end y 33", h.add(5, 30, 5, 1, 3, 1), OUT_OF_RANGE);
        due("2: high end z 33", h.add(5, 5, 30, 1, 1, 3), OUT_OF_RANGE);
        due("2: high end z 32", h.add(5, 5, 30, 1, 1, 2), 4);
        due("2: cuts", h.add(19, 19, 16, 2, 2, 2), NOT_POSSIBLE);
        due("2: touches in z", h.add(19, 19, 17, 2, 2, 2), 5);
        due("2: within", h.add(25, 25, 10, 1, 1, 1), NOT_POSSIBLE);
        due("2: errors change nothing", h.total(1), 6);
        due("2: errors are not kept", h.total(11), 4);
        h.remove(5);
        due("2: no number again", h.add(19, 19, 17, 2, 2, 2), 6);
    }

    private static void promise2AddErrorsInOrder() {
        HidingBoxes h = fullSpace();
        due("2: full", h.add(20, 20, 20, 1, 1, 1), FULL);
        due("2: cuts ahead of full", h.add(1, 1, 1, 1, 1, 1), NOT_POSSIBLE);
        due("2: range ahead of cuts", h.add(1, 1, 1, 1, 13, 1), OUT_OF_RANGE);
        due("2: still 16", h.total(0), 16);
        h.remove(7);
        due("2: room again", h.add(20, 20, 20, 1, 1, 1), 16);
    }

    private static void promise3Remove() {
        HidingBoxes h = of("0,0,0:2,3,4;10,0,0:1,1,1;20,0,0:5,1,1");
        due("3: volume", h.remove(0), 24);
        due("3: is gone", h.remove(0), UNKNOWN);
        due("3: others stay", h.box(0), 1);
        due("3: others stay where they are", h.end(2, 0, true), 25);
        due("3: boxes", h.total(0), 2);
        due("3: so far", h.total(1), 3);
        due("3: no such box", h.remove(3), UNKNOWN);
        due("3: negative", h.remove(-1), UNKNOWN);
        due("3: least", h.remove(MIN), UNKNOWN);
        due("3: greatest", h.remove(MAX), UNKNOWN);
        due("3: last", h.remove(2), 5);
        due("3: one is left", h.remove(1), 1);
        due("3: none is left", h.total(0), 0);
        due("3: a change", h.undo(), 3);
        due("3: it is back", h.ofBox(1, 0), 1);
    }

    private static void promise4Move() {
        HidingBoxes h = of("0,0,0:2,3,4;6,0,0:1,1,1");
        due("4: x", h.move(0, 0, 3), 3);
        due("4: size stays", h.end(0, 0, true), 5);
        due("4: y", h.move(0, 1, 29), 29);
        due("4: z", h.move(0, 2, 28), 28);
        due("4: back", h.move(0, 2, -28), 0);
        due("4: below 0", h.move(0, 2, -1), OUT_OF_RANGE);
        due("4: above 32", h.move(0, 1, 1), OUT_OF_RANGE);
        due("4: far", h.move(0, 1, MAX), OUT_OF_RANGE);
        due("4: far back", h.move(0, 1, MIN), OUT_OF_RANGE);
        due("4: no such box", h.move(2, 0, 1), UNKNOWN);
        due("4: no such direction", h.move(0, 3, 1), UNKNOWN);
        due("4: negative direction", h.move(0, -1, 1), UNKNOWN);
        due("4: unknown ahead of range", h.move(0, 3, 99), UNKNOWN);
        due("4: by 0", h.move(0, 0, 0), NONE);
        h = of("0,0,0:2,3,4;6,0,0:1,1,1");
        due("4: would cut", h.move(0, 0, 5), NOT_POSSIBLE);
        due("4: would touch", h.move(0, 0, 4), 4);
        due("4: jumps over", h.move(0, 0, 3), 7);
        due("4: over its own place", h.move(0, 0, 1), 8);
        due("4: undo", h.undo(), 3);
        due("4: is back", h.end(0, 0, false), 7);
    }

    private static void promise5Fall() {
        HidingBoxes h = of("0,0,9:4,4,1;3,3,12:2,2,2;4,4,2:1,1,3;3,5,0:1,1,6");
        due("5: the highest below counts", h.fall(1), 2);
        due("5: stands", h.fall(1), NONE);
        due("5: to the ground past a corner", h.fall(2), 2);
        due("5: a box that only touches from the side is not below", h.fall(0), 9);
        due("5: then the next one", h.fall(1), 7);
        due("5: low end", h.end(1, 2, false), 3);
        due("5: high end", h.end(1, 2, true), 5);
        due("5: on the ground", h.fall(3), NONE);
        due("5: no such box", h.fall(4), UNKNOWN);
        due("5: negative", h.fall(-1), UNKNOWN);
        due("5: undo", h.undo(), 3);
        due("5: is back", h.end(1, 2, false), 10);
    }

    private static void promise6Split() {
        HidingBoxes h = of("4,5,6:4,5,6;20,20,20:1,1,1");
        due("6: at the low end", h.split(0, 0, 4), OUT_OF_RANGE);
        due("6: at the high end", h.split(0, 0, 8), OUT_OF_RANGE);
        due("6: far", h.split(0, 0, MAX), OUT_OF_RANGE);
        due("6: far below", h.split(0, 0, MIN), OUT_OF_RANGE);
        due("6: no such box", h.split(2, 0, 5), UNKNOWN);
        due("6: no such direction", h.split(0, 3, 7), UNKNOWN);
        due("6: negative direction", h.split(0, -1, 7), UNKNOWN);
        due("6: x", h.split(0, 0, 5), 2);
        due("6: keeps the lesser part", h.end(0, 0, true), 5);
        due("6: still from its low end", h.end(0, 0, false), 4);
        due("6: new low end", h.end(2, 0, false), 5);
        due("6: new high end", h.end(2, 0, true), 8);
        due("6: new in y", h.end(2, 1, true), 10);
        due("6: z", h.split(2, 2, 11), 3);
        due("6: new low end in z", h.end(3, 2, false), 11);
        due("6: y", h.split(3, 1, 9), 4);
        due("6: volume stays", h.total(8), 121);
        due("6: splits", h.total(7), 3);
        due("6: undo", h.undo(), 3);
        due("6: is whole again", h.end(3, 1, true), 10);
        due("6: splits then", h.total(7), 2);
        h = fullSpace();
        due("6: full", h.split(0, 0, 1), FULL);
        due("6: range ahead of full", h.split(0, 0, 2), OUT_OF_RANGE);
        due("6: unknown ahead of range", h.split(16, 0, 2), UNKNOWN);
        due("6: full changes nothing", h.end(0, 0, true), 2);
    }

    private static void promise7BreakRing() {
        HidingBoxes h = ring();
        due("7: all alike, so the least number in x", h.breakRing(), 3);
        due("7: the lesser part", h.end(0, 0, true), 1);
        due("7: the greater part", h.end(3, 0, false), 1);
        due("7: counts as a split", h.total(7), 1);
        due("7: no ring is left", h.breakRing(), NONE);
        due("7: nothing is split then", h.total(7), 1);
        due("7: undo", h.undo(), 3);
        due("7: the ring is back", h.total(4), 3);
        for (int i = 0; i < 13; i++) {
            due("7: fill", h.add(i * 2, 20, 0, 1, 1, 1), 3 + i);
        }
        due("7: full", h.breakRing(), FULL);
        due("7: full changes nothing", h.total(7), 0);
        due("7: with no ring it is not full", fullSpace().breakRing(), NONE);
    }

    private static void promise7BreakRingChoice() {
        // A fourth box, greater than the others, that is in no ring is not split.
        HidingBoxes h = ring();
        h.add(20, 20, 20, 9, 9, 9);
        h.split(3, 0, 25);
        h.remove(4);
        due("7: ring is split, not the greatest box", h.breakRing(), 5);
        due("7: greatest box stays", h.ofBox(3, 0), 405);
        // Of the ring the greatest volume; of equal sizes the first direction; half is rounded down.
        h = of("2,4,0:1,1,2;1,2,1:4,2,3;3,3,0:1,4,1");
        due("7: a ring", h.total(4), 3);
        due("7: splits box 1", h.breakRing(), 3);
        due("7: in its longest direction", h.end(1, 0, true), 3);
        h = of("5,1,4:1,5,1;4,2,4:1,3,2;3,1,5:5,1,2");
        due("7: box 2 has 10", h.breakRing(), 3);
        due("7: half of 5 is 2", h.end(2, 0, true), 5);
        due("7: the rest", h.end(3, 0, false), 5);
        h = of("3,5,0:2,1,4;5,3,0:1,3,2;3,2,2:4,2,1");
        due("7: of two with 8 the first one, in z", h.breakRing(), 3);
        due("7: box 0 in z", h.end(0, 2, true), 2);
        due("7: box 2 is whole", h.ofBox(2, 0), 8);
        breaksAt("1,2,2:3,3,1;3,4,1:4,1,1;4,2,1:1,2,2", 0, 2);
        breaksAt("0,3,3:3,1,3;2,1,4:2,2,1;3,1,3:1,3,1", 0, 1);
        breaksAt("0,1,2:1,3,3;0,3,1:2,2,1;1,2,0:1,1,3", 1, 2);
        breaksAt("3,1,1:3,3,3;1,1,4:3,1,1;2,2,2:1,1,4", 0, 4);
    }

    /** A ring whose box 0 is the greatest, and has its greatest size in several directions. */
    private static void breaksAt(String text, int direction, int at) {
        HidingBoxes h = of(text);
        due("7: a ring of all three", h.total(4), 3);
        due("7: is broken", h.breakRing(), 3);
        for (int d = 0; d < 3; d++) {
            due("7: the low end " + d, h.end(3, d, false), d == direction ? at : h.end(0, d, false));
            due("7: the high end " + d, h.end(0, d, true), d == direction ? at : h.end(3, d, true));
        }
    }

    private static void promise8Turn() {
        HidingBoxes h = of("1,2,3:4,5,6");
        due("8: a box alone", h.turn(), 0);
        int[] lows = {25, 1, 3};
        int[] highs = {30, 5, 9};
        for (int d = 0; d < 3; d++) {
            due("8: low end " + d, h.end(0, d, false), lows[d]);
            due("8: high end " + d, h.end(0, d, true), highs[d]);
        }
        h.turn();
        h.turn();
        h.turn();
        due("8: four quarters", h.end(0, 0, false), 1);
        due("8: no boxes", new HidingBoxes().turn(), NONE);
        h = of("0,0,0:1,1,1;0,0,1:1,1,1");
        due("8: one upon the other stays so", h.turn(), 0);
        h = of("0,0,0:1,1,1;1,0,0:1,1,1");
        due("8: beside in x, then in y, the same hides", h.turn(), 0);
        due("8: now by y", h.pair(1, 0), 2);
        due("8: beside in y, then the other one hides", h.turn(), 1);
        due("8: now the other one", h.pair(0, 1), 1);
        h = of("0,0,0:1,1,1;1,1,0:1,1,1");
        due("8: a corner hides", h.pair(1, 0), 1);
        due("8: then none does", h.turn(), 1);
        due("8: none", h.pair(0, 1), 0);
        due("8: one that hid none is not counted", h.turn(), 0);
        due("8: a change", h.undo(), 2);
    }

    private static void promise9Set() {
        HidingBoxes h = new HidingBoxes();
        due("9: as it is", h.set(0, 0), NONE);
        due("9: to 1", h.set(0, 1), 0);
        due("9: to 2", h.set(0, 2), 1);
        due("9: again", h.set(0, 2), NONE);
        due("9: too great", h.set(0, 3), OUT_OF_RANGE);
        due("9: negative", h.set(0, -1), OUT_OF_RANGE);
        due("9: no such setting", h.set(1, 0), UNKNOWN);
        due("9: no such setting", h.set(-1, 9), UNKNOWN);
        due("9: total", h.total(10), 2);
        due("9: two changes", h.total(11), 2);
        due("9: undo", h.undo(), 1);
        due("9: back to 1", h.total(10), 1);
    }

    private static void promise10Type() {
        HidingBoxes h = new HidingBoxes();
        char[] odd = {(char) 0, (char) 233, (char) 0xFFFF, ' ', 'x'};
        for (int i = 0; i < 80; i++) {
            due("10: character " + i, h.type(odd[i % odd.length]), i + 1);
        }
        due("10: full", h.type('0'), FULL);
        due("10: length", h.total(12), 80);
        due("10: not a change", h.total(11), 0);
    }

    private static void promise11ClearText() {
        HidingBoxes h = new HidingBoxes();
        due("11: empty", h.clearText(), 0);
        type(h, "abc");
        due("11: three", h.clearText(), 3);
        due("11: none then", h.total(12), 0);
        due("11: from the start", h.type('1'), 1);
        due("11: not a change", h.undo(), NONE);
        due("11: undo leaves the text", h.total(12), 1);
    }

    private static void promise12AddAll() {
        HidingBoxes h = new HidingBoxes();
        h.add(20, 20, 20, 1, 1, 1);
        type(h, "0,10,31:1,12,1;0,0,0:1,1,1");
        due("12: two boxes", h.addAll(), 2);
        due("12: numbers", h.total(1), 3);
        due("12: first one", h.end(1, 1, true), 22);
        due("12: second one", h.end(2, 1, true), 1);
        due("12: the text stays", h.total(12), 26);
        due("12: one change", h.total(11), 2);
        due("12: they cut themselves", h.addAll(), NOT_POSSIBLE);
        due("12: undo", h.undo(), 1);
        due("12: both are gone", h.total(0), 1);
        due("12: again", h.addAll(), 2);
        h = new HidingBoxes();
        type(h, "0,0,0:2,2,2;1,1,1:2,2,2;31,0,0:2,1,1");
        due("12: the second one cuts the first one", h.addAll(), NOT_POSSIBLE);
        due("12: none is added", h.total(0), 0);
        due("12: no number is used", h.total(1), 0);
        due("12: no change", h.total(11), 0);
        h = new HidingBoxes();
        type(h, "0,0,0:2,2,2;31,0,0:2,1,1;1,1,1:2,2,2");
        due("12: the first error counts", h.addAll(), OUT_OF_RANGE);
        h = fullSpace();
        h.remove(15);
        type(h, "20,0,0:1,1,1;22,0,0:1,1,1");
        due("12: there is room for one alone", h.addAll(), FULL);
        due("12: so none is added", h.total(0), 15);
        h = new HidingBoxes();
        type(h, "0,0,0:1,1,1;1,0,0:1,1,1;2,0,0:1,1,1;3,0,0:1,1,1;4,0,0:1,1,1;5,0,0:1,1,1;6,0,0:1");
        due("12: 79 characters end too early", h.addAll(), -179);
        h.type(',');
        due("12: 80 characters end too early", h.addAll(), -180);
        h.type('1');
        due("12: more are not taken", h.addAll(), -180);
        h.clearText();
        type(h, "0,0,0:1,1,1;1,0,0:1,1,1;2,0,0:1,1,1;3,0,0:1,1,1;4,0,0:1,1,1;15,10,10:10,11,12");
        due("12: 77 characters", h.total(12), 77);
        due("12: six boxes", h.addAll(), 6);
        due("12: volume", h.total(8), 1325);
    }

    private static void promise12FaultsOfTexts() {
        faultOf("", 0);
        faultOf("1", 1);
        faultOf("1,2,3:1,1,", 10);
        faultOf("1,2,3:1,1,1;", 12);
        faultOf("1,2,3:1,1,1;;", 12);
        faultOf(";", 0);
        faultOf(",", 0);
        faultOf("-1", 0);
        faultOf(" 1", 0);
        faultOf("1 ", 1);
        faultOf("1,,", 2);
        faultOf("1:", 1);
        faultOf("1;", 1);
        faultOf("1,2:", 3);
        faultOf("1,2,3,", 5);
        faultOf("1,2,3;", 5);
        faultOf("1,2,3:1:", 7);
        faultOf("1,2,3:1;", 7);
        faultOf("1,2,3:1,1:", 9);
        faultOf("1,2,3:1,1,1,", 11);
        faultOf("1,2,3:1,1,1:", 11);
        faultOf("00", 1);
        faultOf("01", 1);
        faultOf("32", 1);
        faultOf("31,30,29:12,11,10;40", 19);
        faultOf("310", 2);
        faultOf("100", 2);
        faultOf("0,0,0:0", 6);
        faultOf("0,0,0:1,0", 8);
        faultOf("0,0,0:13", 7);
        faultOf("0,0,0:1,20", 9);
        faultOf("0,0,0:1,1,120", 12);
        faultOf("0,0,0:12,12,12x", 14);
        faultOf("a", 0);
        faultOf("0,0,0/", 5);
        faultOf((char) 0x0661 + ",", 0);
        faultOf("1" + (char) (48 + 256), 1);
        HidingBoxes h = new HidingBoxes();
        type(h, "31,31,31:1,1,1");
        due("12: greatest coordinates", h.addAll(), 1);
        h = new HidingBoxes();
        type(h, "20,0,9:12,12,12");
        due("12: greatest sizes", h.addAll(), 1);
    }

    private static void faultOf(String text, int fault) {
        HidingBoxes h = new HidingBoxes();
        type(h, text);
        due("12: addAll of \"" + text + "\"", h.addAll(), -100 - fault);
        due("12: nothing changes", h.total(1) + h.total(11), 0);
    }

    private static void promise13Undo() {
        HidingBoxes h = new HidingBoxes();
        due("13: empty", h.undo(), NONE);
        for (int i = 0; i < 6; i++) {
            h.add(i, 0, 0, 1, 1, 1);
        }
        due("13: at most four", h.total(11), 4);
        for (int left = 3; left >= 0; left--) {
            due("13: left", h.undo(), left);
            due("13: boxes then", h.total(0), 2 + left);
        }
        due("13: the oldest are dropped", h.undo(), NONE);
        due("13: nothing changes", h.total(0), 2);
        due("13: the count of boxes so far is restored too", h.total(1), 2);
        h.set(0, 2);
        h.split(0, 0, 99);
        h.move(1, 1, 0);
        h.undo();
        due("13: errors and NONE are not recorded", h.total(11), 0);
        due("13: the setting is restored", h.total(10), 0);
    }

    private static void promise14Keep() {
        HidingBoxes h = new HidingBoxes();
        due("14: none", h.keep(), 0);
        h.add(0, 0, 0, 1, 1, 1);
        due("14: none is a snapshot too", h.restore(), 0);
        h.add(0, 0, 0, 1, 1, 1);
        h.add(1, 0, 0, 1, 1, 1);
        due("14: two", h.keep(), 2);
        due("14: not a change", h.total(11), 4);
        h.remove(0);
        h.remove(1);
        due("14: in place of the earlier one", h.restore(), 2);
        due("14: whole", h.total(8), 2);
    }

    private static void promise15Restore() {
        HidingBoxes h = new HidingBoxes();
        due("15: no snapshot", h.restore(), NONE);
        h.add(0, 0, 0, 4, 1, 1);
        h.split(0, 0, 2);
        h.set(0, 1);
        h.keep();
        type(h, "ab");
        h.remove(1);
        h.set(0, 2);
        h.split(0, 0, 1);
        due("15: boxes", h.restore(), 2);
        due("15: number of boxes so far", h.total(1), 2);
        due("15: splits", h.total(7), 1);
        due("15: setting", h.total(10), 1);
        due("15: the text is not in it", h.total(12), 2);
        due("15: the history is not in it", h.total(11), 4);
        due("15: again, for it stays", h.restore(), 2);
        h.remove(0);
        h.move(1, 1, 5);
        due("15: later changes leave it", h.restore(), 2);
        due("15: where it was", h.end(1, 1, false), 0);
        due("15: a change", h.undo(), 3);
        due("15: before it", h.end(1, 1, false), 5);
        h = new HidingBoxes();
        h.keep();
        due("15: without boxes", h.restore(), 0);
        due("15: is a change even then", h.total(11), 1);
        due("15: undo leaves the snapshot", h.undo(), 0);
        due("15: which stays", h.restore(), 0);
    }

    private static void promise16Box() {
        HidingBoxes h = of("0,0,0:1,1,1;5,0,0:1,1,1;9,0,0:1,1,1");
        h.remove(1);
        h.add(20, 0, 0, 1, 1, 1);
        due("16: 0", h.box(0), 0);
        due("16: 1", h.box(1), 2);
        due("16: 2", h.box(2), 3);
        due("16: 3", h.box(3), NONE);
        due("16: 16", h.box(16), NONE);
        due("16: greatest", h.box(MAX), NONE);
        due("16: negative", h.box(-1), OUT_OF_RANGE);
        due("16: least", h.box(MIN), OUT_OF_RANGE);
        due("16: full", fullSpace().box(15), 15);
        due("16: beyond full", fullSpace().box(16), NONE);
    }

    private static void promise17End() {
        HidingBoxes h = of("9,9,9:1,1,1;1,2,3:4,5,6");
        int[] ends = {1, 2, 3, 5, 7, 9};
        for (int d = 0; d < 3; d++) {
            due("17: low " + d, h.end(1, d, false), ends[d]);
            due("17: high " + d, h.end(1, d, true), ends[3 + d]);
        }
        due("17: no such box", h.end(2, 0, true), UNKNOWN);
        due("17: negative box", h.end(-1, 0, true), UNKNOWN);
        due("17: no such direction", h.end(1, 3, false), UNKNOWN);
        due("17: negative direction", h.end(1, -1, false), UNKNOWN);
        due("17: far", h.end(MAX, MIN, false), UNKNOWN);
    }

    private static void promise18OfBox() {
        HidingBoxes h = of("0,0,0:4,4,2;0,0,2:2,2,2;2,0,2:2,4,1;1,1,9:2,2,1;30,0,5:1,1,1");
        int[][] due = {
            // volume, hides, hidden by, layer, ring, stands on, below it, shadow, has a foot
            {32, 0, 2, 0, NONE, 0, 0, 13, 1},
            {8, 1, 1, 1, NONE, 1, 1, 1, 1},
            {8, 2, 0, 2, NONE, 1, 1, 2, 1},
            {4, 0, 0, 0, NONE, 0, 3, 0, 0},
            {1, 0, 0, 0, NONE, 0, 0, 0, 0},
        };
        // Box 3 floats too high to hide: in x - z it reaches from -9 to -6, box 0 from -2 to 4.
        for (int box = 0; box < due.length; box++) {
            for (int what = 0; what < 9; what++) {
                due("18: " + what + " of box " + box, h.ofBox(box, what), due[box][what]);
            }
        }
        due("18: no such thing", h.ofBox(0, 9), OUT_OF_RANGE);
        due("18: negative thing", h.ofBox(0, -1), OUT_OF_RANGE);
        due("18: far", h.ofBox(0, MAX), OUT_OF_RANGE);
        due("18: no such box", h.ofBox(5, 0), UNKNOWN);
        due("18: unknown ahead of range", h.ofBox(-1, 9), UNKNOWN);
        h = ring();
        h.add(3, 3, 3, 1, 1, 1);
        for (int box = 0; box < 3; box++) {
            due("18: in a ring it has no layer", h.ofBox(box, 3), NONE);
            due("18: its ring", h.ofBox(box, 4), 3);
        }
        due("18: what hides a ring", h.ofBox(3, 1), 3);
        due("18: has no layer", h.ofBox(3, 3), NONE);
        due("18: and is in none", h.ofBox(3, 4), NONE);
        h = of("0,0,0:2,2,2;2,0,0:2,2,2;1,0,2:2,2,1;4,0,2:1,1,1");
        due("18: stands on two", h.ofBox(2, 5), 2);
        due("18: touches from the side", h.ofBox(3, 5), 0);
        due("18: has no foot", h.ofBox(3, 8), 0);
        due("18: none is below", h.ofBox(3, 6), 0);
    }

    private static void promise18Shadows() {
        // Two shadows that overlap count once; what is beneath or beside makes none.
        HidingBoxes h = of("4,4,4:4,4,1;5,5,5:2,2,1;6,6,9:9,1,1;4,4,0:1,1,1;8,4,9:2,2,1");
        due("18: 4 cells and one more", h.ofBox(0, 7), 5);
        due("18: one cell of the second one", h.ofBox(1, 7), 1);
        due("18: the highest is in the light", h.ofBox(2, 7), 0);
        due("18: the lowest is dark", h.ofBox(3, 7), 1);
        due("18: beside", h.ofBox(4, 7), 0);
        due("18: in all", h.total(9), 7);
        h = of("20,20,0:12,12,1;20,20,1:12,12,1;31,31,31:1,1,1");
        due("18: all 144 cells, up to the end of space", h.ofBox(0, 7), 144);
        due("18: one cell in the corner", h.ofBox(1, 7), 1);
    }

    private static void promise19Pair() {
        HidingBoxes h = of("4,4,4:2,2,2;6,4,4:2,2,2;4,6,4:2,2,2;4,4,6:2,2,2;6,6,6:2,2,2");
        due("19: by x", h.pair(1, 0), 1);
        due("19: by y", h.pair(2, 0), 2);
        due("19: by z", h.pair(3, 0), 3);
        due("19: the other one by x", h.pair(0, 1), 4);
        due("19: the other one by y", h.pair(0, 2), 5);
        due("19: the other one by z", h.pair(0, 3), 6);
        due("19: by the first of three", h.pair(4, 0), 1);
        due("19: outlines only touch", h.pair(1, 2), 0);
        due("19: themselves", h.pair(1, 1), OUT_OF_RANGE);
        due("19: no such box", h.pair(5, 0), UNKNOWN);
        due("19: no such other box", h.pair(0, 5), UNKNOWN);
        due("19: unknown ahead of the same", h.pair(5, 5), UNKNOWN);
        due("19: negative", h.pair(-1, MIN), UNKNOWN);
        // In y - z alone the reaches end where the others begin: far along one axis.
        h = of("0,0,0:4,1,1;5,0,1:1,1,1");
        due("19: x - y overlaps not", h.pair(0, 1), 0);
        h = of("0,0,0:1,1,1;1,1,1:1,1,1;2,2,2:1,1,1;5,5,6:1,1,1;8,9,8:1,1,1;9,8,8:1,1,1");
        due("19: far away, on the line of sight", h.pair(2, 0), 1);
        due("19: a little aside", h.pair(3, 0), 1);
        due("19: a little aside in y", h.pair(4, 0), 1);
        due("19: a little aside in x", h.pair(5, 0), 1);
    }

    private static void promise20Drawn() {
        HidingBoxes h = of("1,0,0:1,1,1;0,0,0:1,1,1;20,0,0:2,2,2;10,9,0:1,1,2");
        order(h, 1, 0, 2, 3);
        h.set(0, 1);
        order(h, 1, 0, 3, 2);
        h.set(0, 2);
        order(h, 1, 0, 3, 2);
        h = of("20,0,0:2,1,1;10,0,0:2,1,1;10,10,0:1,1,1;0,20,0:1,1,1");
        order(h, 0, 1, 2, 3);
        h.set(0, 1);
        order(h, 1, 0, 2, 3);
        h.set(0, 2);
        order(h, 2, 3, 0, 1);
        h = of("0,0,20:1,1,1;0,20,1:1,1,1;20,0,2:1,1,1;31,31,0:1,1,1;9,0,9:1,1,2;6,6,6:1,1,3");
        due("20: the corner of box 4 is nearer than that of box 0", h.set(0, 1), 0);
        order(h, 4, 5, 0, 1, 2, 3);
        due("20: negative", h.drawn(-1), OUT_OF_RANGE);
        due("20: least", h.drawn(MIN), OUT_OF_RANGE);
        due("20: greatest", h.drawn(MAX), NONE);
        h = ring();
        order(h);
        h.add(0, 20, 0, 1, 1, 1);
        h.add(3, 3, 3, 1, 1, 1);
        order(h, 3);
        h.remove(1);
        order(h, 0, 2, 3, 4);
    }

    private static void order(HidingBoxes h, int... boxes) {
        for (int place = 0; place < boxes.length; place++) {
            due("20: drawn " + place, h.drawn(place), boxes[place]);
        }
        due("20: no more are drawn", h.drawn(boxes.length), NONE);
        due("20: so many", h.total(3), boxes.length);
    }

    private static void promise21Total() {
        HidingBoxes h = ring();
        h.add(3, 3, 3, 1, 1, 1);
        h.add(20, 0, 0, 4, 1, 1);
        h.split(4, 0, 21);
        h.add(0, 30, 0, 1, 1, 1);
        h.remove(6);
        h.set(0, 2);
        type(h, "abc");
        int[] totals = {6, 7, 7, 2, 3, 3, 1, 1, 11, 1, 2, 4, 3};
        for (int what = 0; what < totals.length; what++) {
            due("21: total " + what, h.total(what), totals[what]);
        }
        due("21: too great", h.total(13), OUT_OF_RANGE);
        due("21: negative", h.total(-1), OUT_OF_RANGE);
        due("21: greatest", h.total(MAX), OUT_OF_RANGE);
        due("21: least", h.total(MIN), OUT_OF_RANGE);
        due("21: no layers where all are in rings", ring().total(6), NONE);
        due("21: a ring of all boxes", ring().total(5), 3);
        due("18: a ring of all boxes", ring().ofBox(2, 4), 3);
        h = ring();
        h.breakRing();
        due("21: breakRing counts as a split", h.total(7), 1);
        due("21: no ring is left", h.total(5), NONE);
        due("21: none is in rings", h.total(4), 0);
    }

    private static void promise22WaitsFor() {
        HidingBoxes h = ring();
        h.add(3, 3, 3, 1, 1, 1);
        h.add(0, 20, 0, 1, 1, 1);
        due("22: 0 waits for 1", h.waitsFor(0), 1);
        due("22: 1 waits for 2", h.waitsFor(1), 2);
        due("22: 2 waits for 0", h.waitsFor(2), 0);
        due("22: the least of three", h.waitsFor(3), 0);
        due("22: it is drawn", h.waitsFor(4), NONE);
        due("22: no such box", h.waitsFor(5), UNKNOWN);
        due("22: negative", h.waitsFor(-1), UNKNOWN);
        // A box with a lesser number that is hidden, but drawn, is not waited for.
        h = of("0,0,0:1,1,1;10,10,11:2,1,1;11,10,10:1,2,1;10,11,10:1,1,2;14,14,14:1,1,1");
        due("22: it hides the drawn one too", h.pair(4, 0), 1);
        due("22: but does not wait for it", h.waitsFor(4), 1);
        due("22: all is drawn when the ring is broken", h.breakRing() >= 0 ? h.waitsFor(4) : 0, NONE);
    }

    private static void promise23Breaks() {
        due("23: no boxes", new HidingBoxes().breaks(), 0);
        due("23: no ring", fullSpace().breaks(), 0);
        HidingBoxes h = ring();
        due("23: one", h.breaks(), 1);
        due("23: nothing changes", h.total(4), 3);
        due("23: no history", h.total(11), 3);
        h.add(20, 20, 21, 2, 1, 1);
        h.add(21, 20, 20, 1, 2, 1);
        h.add(20, 21, 20, 1, 1, 2);
        due("23: two rings", h.breaks(), 2);
        for (int i = 0; i < 9; i++) {
            h.add(i * 2, 30, 0, 1, 1, 1);
        }
        due("23: 15 boxes, two rings", h.breaks(), FULL);
        h.remove(6);
        due("23: 14 boxes, two rings", h.breaks(), 2);
        h = of("0,1,2:3,1,1;2,0,1:1,3,1;1,2,0:1,1,3");
        due("23: as by breakRing", h.breaks(), 4);
        for (int i = 0; i < 4; i++) {
            due("23: breakRing", h.breakRing(), 3 + i);
        }
        due("23: none is left", h.breakRing(), NONE);
    }

    private static void promise24DrawnWithout() {
        HidingBoxes h = ring();
        h.add(0, 20, 0, 1, 1, 1);
        h.add(3, 3, 3, 1, 1, 1);
        due("24: without one of the ring", h.drawnWithout(0), 4);
        due("24: without another one", h.drawnWithout(2), 4);
        due("24: without the one that is drawn", h.drawnWithout(3), 0);
        due("24: without the one that waits", h.drawnWithout(4), 1);
        due("24: no such box", h.drawnWithout(5), UNKNOWN);
        due("24: negative", h.drawnWithout(-1), UNKNOWN);
        due("24: nothing changes", h.total(0), 5);
        due("24: nothing changes for the drawing", h.drawn(0), 3);
        due("24: a full space", fullSpace().drawnWithout(15), 15);
        h = of("0,0,0:1,1,1");
        due("24: the only one", h.drawnWithout(0), 0);
        due("24: is still there", h.box(0), 0);
    }

    /** 0 hides 2 hides 3 hides 5 hides 0 and 4, and 4 hides 0; 3 hides 1 too. */
    private static void longerRings() {
        HidingBoxes h = of("0,0,5:1,9,1;2,6,0:2,6,3;0,3,4:2,5,1;1,6,3:9,1,1;2,0,6:1,4,1;6,5,1:3,1,11");
        due("a ring of four", h.total(5), 4);
        due("five in rings of four and five", h.total(4), 5);
        due("one break", h.breaks(), 1);
        int[] rings = {4, NONE, 4, 4, 5, 4};
        for (int box = 0; box < 6; box++) {
            due("the ring of box " + box, h.ofBox(box, 4), rings[box]);
        }
    }
}
