import java.util.List;
import java.util.function.IntSupplier;
import java.util.function.ToIntFunction;

/** A test for each sentence of the terms about texts, the history and errors. */
final class StateBoundaries extends Sentences {
    private static final String BOX = "1,2,3:4,5,6";

    private StateBoundaries() {
    }

    static void run() {
        textSize();
        textForm();
        textNumbers();
        textFaults();
        textEnds();
        historySize();
        historyRecordsChanges();
        historyRecordsNothingElse();
        snapshot();
        stateIsEverythingBut();
        errorsByName();
        errorsInOrder();
        noneAfterErrors();
        errorsChangeNothing();
    }

    // ---- TEXTS

    private static void textSize() {
        test("TEXTS", "There is a text of at most 80 characters", () -> {
            Calls h = new Calls();
            each(1, 80, length -> length, length -> h.type('1'));
            refused(h, FULL, () -> h.type('2'));
            refused(h, FULL, () -> h.type('1'));
            due(80, h.total(12));
            due(80, h.clearText());
            due(1, h.type('1'));
            // The 81st character is not there: with it the text would have no fault.
            String boxes = "0,0,0:1,1,1;1,0,0:1,1,1;2,0,0:1,1,1;3,0,0:1,1,1;4,0,0:1,1,1;15,10,10:10,10,12";
            Calls long77 = typed(boxes);
            due(77, long77.total(12));
            due(6, long77.addAll());
            Calls long80 = typed("10,10,10:1,1,1;11,10,10:1,1,1;12,10,10:1,1,1;13,10,10:1,1,1;14,10,10:1,1,1;10,10");
            due(-180, long80.addAll());
            refused(long80, FULL, () -> long80.type('x'));
            due(-180, long80.addAll());
        });
        test("TEXTS", ", empty at first.", () -> {
            Calls h = new Calls();
            due(0, h.total(12));
            due(-100, h.addAll());
            due(0, h.clearText());
            due(1, h.type('1'));
        });
    }

    private static void textForm() {
        test("TEXTS", "It is a list of one or more boxes with \";\" between two", () -> {
            due(-100, new Calls().addAll());
            due(1, typed("0,0,0:1,1,1").addAll());
            Calls two = typed("0,0,0:1,1,1;1,0,0:1,1,1");
            due(2, two.addAll());
            ends(two, 0, "0,0,0:1,1,1");
            ends(two, 1, "1,0,0:1,1,1");
            Calls six = typed("0,0,0:1,1,1;1,0,0:1,1,1;2,0,0:1,1,1;3,0,0:1,1,1;4,0,0:1,1,1;5,0,0:1,1,1");
            due(6, six.addAll());
            due(6, six.total(0));
            ends(six, 5, "5,0,0:1,1,1");
            fault(0, ";");
            fault(0, ";0,0,0:1,1,1");
            fault(12, "0,0,0:1,1,1;");
            fault(12, "0,0,0:1,1,1;;");
            fault(12, "0,0,0:1,1,1;;1,0,0:1,1,1");
            fault(11, "0,0,0:1,1,1,1,0,0:1,1,1");
            fault(11, "0,0,0:1,1,1:1,0,0:1,1,1");
            fault(11, "0,0,0:1,1,1 ");
        });
        test("TEXTS", ": the corner's x, y and z with \",\" between two, \":\" and the sizes in x, y and z with \",\" between two.", () -> {
            Calls h = typed("1,2,3:4,5,6;17,18,19:10,11,12");
            due(2, h.addAll());
            ends(h, 0, "1,2,3:4,5,6");
            ends(h, 1, "17,18,19:10,11,12");
            String text = "1,2,3:4,5,6;17,18,19:10,11,12";
            for (int at = 0; at < text.length(); at++) {
                boolean isSign = !Character.isDigit(text.charAt(at));
                for (char other : new char[] {',', ':', ';', '.', ' '}) {
                    if (isSign && other != text.charAt(at)) {
                        fault(at, text.substring(0, at) + other + text.substring(at + 1));
                    }
                }
            }
        });
    }

    private static void fault(int index, String text) {
        Calls h = typed(text);
        int got = h.addAll();
        that("addAll() of " + text + " answers " + got + ", due is " + (-100 - index), got == -100 - index);
        due(0, h.total(0) + h.total(11));
        due(text.length(), h.total(12));
    }

    /** Puts a number in place of each of three numbers of a text; index is its fault, or -1. */
    private static void number(String number, int index, boolean isSize) {
        for (int place = 0; place < 3; place++) {
            String before = (isSize ? "1,2,3:" : "") + "1,1,".substring(0, 2 * place);
            String behind = ",1,1".substring(2 * place) + (isSize ? "" : ":1,1,1");
            if (index >= 0) {
                fault(before.length() + index, before + number + behind);
            } else {
                Calls h = typed(before + number + behind);
                due(1, h.addAll());
                int low = h.end(0, place, false);
                due(Integer.parseInt(number), isSize ? h.end(0, place, true) - low : low);
            }
        }
    }

    private static void textNumbers() {
        test("TEXTS", "Coordinates are numbers from 0 to 31", () -> {
            for (int n = 0; n <= 31; n++) {
                number("" + n, -1, false);
            }
            for (int n = 32; n <= 99; n++) {
                number("" + n, 1, false);
            }
            for (int n = 100; n <= 999; n++) {
                number("" + n, n < 320 ? 2 : 1, false);
            }
            number("-1", 0, false);
            number("+1", 0, false);
        });
        test("TEXTS", ", sizes from 1 to 12", () -> {
            for (int n = 1; n <= 12; n++) {
                number("" + n, -1, true);
            }
            number("0", 0, true);
            for (int n = 13; n <= 99; n++) {
                number("" + n, 1, true);
            }
            for (int n = 100; n <= 999; n++) {
                number("" + n, n < 130 ? 2 : 1, true);
            }
            number("-1", 0, true);
        });
        test("TEXTS", ", without zeros ahead of other digits", () -> {
            for (int digit = 0; digit <= 9; digit++) {
                number("0" + digit, 1, false);
                number("0" + digit, 0, true);
            }
            number("012", 1, false);
            number("0", -1, false);
            number("10", -1, false);
            number("10", -1, true);
        });
        test("TEXTS", "; a digit by which a number would be too great is not allowed.", () -> {
            number("31", -1, false);
            number("32", 1, false);
            number("310", 2, false);
            number("12", -1, true);
            number("13", 1, true);
            number("120", 2, true);
            // However many digits there are, so that no number runs over.
            number("3100000000000000000000", 2, false);
            number("99999999999999999999", 1, true);
            number("4294967296", 1, false);
            number("4294967297", 1, true);
        });
    }

    private static void textFaults() {
        test("TEXTS", "The fault of the text is the index, from 0, of the first character that is not allowed at its place", () -> {
            fault(0, "x");
            fault(0, "x;y");
            fault(2, "1,x,y;;");
            fault(9, "31,30,29:0,0,0");
            fault(13, "31,30,29:1,2,0");
            // Each character behind each beginning of a text, beside a second reading of it.
            String text = "31,30,0:12,11,1;2";
            for (int length = 0; length <= text.length(); length++) {
                for (int sign = 0; sign < 300; sign++) {
                    nextSign(text.substring(0, length), (char) sign);
                }
                nextSign(text.substring(0, length), (char) 0xFFFF);
                nextSign(text.substring(0, length), (char) 0x0661);
            }
        });
    }

    private static void nextSign(String before, char sign) {
        Calls h = typed(before + sign);
        Model model = new Model();
        (before + sign).chars().forEach(c -> model.type((char) c));
        that(before + " and the character " + (int) sign, h.addAll() == model.addAll());
    }

    private static void textEnds() {
        test("TEXTS", ", or the length of the text if it ends too early (the empty text does).", () -> {
            fault(0, "");
            for (int length = 0; length < BOX.length(); length++) {
                fault(length, BOX.substring(0, length));
                fault(12 + length, BOX + ";" + BOX.substring(0, length));
            }
            due(1, typed(BOX).addAll());
            fault(12, BOX + ";");
        });
    }

    // ---- HISTORY

    private static void historySize() {
        test("HISTORY", "A history of at most 4 states is kept.", () -> {
            Calls h = new Calls();
            for (int i = 0; i < 9; i++) {
                due(Math.min(i, 4), h.total(11));
                due(i, h.add(i, 0, 0, 1, 1, 1));
            }
            due(4, h.total(11));
            each(0, 3, i -> 3 - i, i -> h.undo());
            refused(h, NONE, h::undo);
            due(0, h.total(11));
        });
        test("HISTORY", "; if there are 4 already, the oldest one is dropped.", () -> {
            // Every number of changes that can be: the states come back from the latest one on.
            for (int changes = 0; changes <= 12; changes++) {
                Calls h = new Calls();
                for (int i = 0; i < changes; i++) {
                    due(i, h.add(i, 0, 0, 1, 1, 1));
                }
                for (int back = 1; back <= Math.min(changes, 4); back++) {
                    due(Math.min(changes, 4) - back, h.undo());
                    due(changes - back, h.total(0));
                    due(changes - back - 1 < 0 ? UNKNOWN : changes - back - 1, h.end(changes - back - 1, 0, false));
                }
                refused(h, NONE, h::undo);
                due(Math.max(0, changes - 4), h.total(0));
            }
            // After some were taken back there is room for as many again.
            Calls h = cubes(6);
            due(3, h.undo());
            due(2, h.undo());
            due(4, h.add(30, 30, 30, 1, 1, 1));
            due(3, h.total(11));
            due(8, h.remove(0));
            due(4, h.total(11));
            due(8, h.remove(1));
            due(4, h.total(11));
            each(0, 3, i -> 3 - i, i -> h.undo());
            due(3, h.total(0));
            refused(h, NONE, h::undo);
        });
    }

    private static final String RECORDS =
            "Each call of a method that is described as a change, and that returns neither an error nor NONE, records the state before it";

    private static void historyRecordsChanges() {
        test("HISTORY", RECORDS, () -> {
            Calls h = new Calls();
            records(h, 0, () -> h.add(0, 0, 0, 1, 1, 1));
            Calls removed = boxes("0,0,0:1,2,3");
            records(removed, 6, () -> removed.remove(0));
            Calls moved = boxes("5,5,5:1,1,1");
            records(moved, 0, () -> moved.move(0, 1, -5));
            records(moved, 6, () -> moved.move(0, 2, 1));
            records(moved, 5, () -> moved.fall(0));
            Calls whole = boxes("5,5,5:1,2,1");
            records(whole, 1, () -> whole.split(0, 1, 6));
            Calls ring = boxes(RING);
            records(ring, 3, ring::breakRing);
            Calls turned = boxes("5,5,5:1,2,1");
            records(turned, 0, turned::turn);
            Calls set = new Calls();
            records(set, 0, () -> set.set(0, 1));
            records(set, 0, () -> set.set(0, 2));
            Calls text = typed("0,0,0:1,1,1;1,0,0:1,1,1;2,0,0:1,1,1");
            records(text, 3, text::addAll);
            Calls kept = new Calls();
            due(0, kept.keep());
            records(kept, 0, kept::restore);
            due(0, kept.add(0, 0, 0, 1, 1, 1));
            records(kept, 0, kept::restore);
        });
        test("HISTORY", RECORDS, () -> {
            // Even a change by which nothing is otherwise then is recorded: a restore() of what
            // there is, and a turn of a box on the middle of the ground.
            Calls h = boxes("15,15,0:2,2,2");
            due(1, h.keep());
            due(1, h.restore());
            due(2, h.total(11));
            due(0, h.turn());
            ends(h, 0, "15,15,0:2,2,2");
            due(3, h.total(11));
        });
    }

    private static void historyRecordsNothingElse() {
        test("HISTORY", RECORDS, () -> {
            Calls h = boxes("0,0,0:2,2,2", "2,0,0:2,2,2");
            due(2, h.keep());
            due(1, h.type('x'));
            IntSupplier[] calls = {() -> h.add(0, 0, 0, 13, 1, 1), () -> h.add(0, 0, 0, 1, 1, 1), () -> h.remove(9),
                () -> h.move(0, 0, 1), () -> h.move(0, 0, -1), () -> h.move(0, 0, 0), () -> h.move(9, 0, 1), () -> h.fall(0),
                () -> h.fall(9), () -> h.split(0, 0, 0), () -> h.split(9, 0, 1), h::breakRing, () -> h.set(1, 1),
                () -> h.set(0, 3), () -> h.set(0, 0), h::addAll, h::keep, () -> h.type('y'), h::clearText,
                () -> h.box(0), () -> h.end(0, 0, true), () -> h.ofBox(0, 0), () -> h.pair(0, 1), () -> h.drawn(0),
                () -> h.waitsFor(0), h::breaks, () -> h.drawnWithout(0)};
            for (IntSupplier call : calls) {
                call.getAsInt();
                due(2, h.total(11));
            }
            due(1, h.undo());
            due(1, h.total(0));
            due(0, h.undo());
            due(0, h.total(0));
            // undo() itself is not recorded, so that there is no way back to what was undone.
            refused(h, NONE, h::undo);
            Calls empty = new Calls();
            due(NONE, empty.turn());
            due(NONE, empty.restore());
            due(NONE, empty.undo());
            due(0, empty.total(11));
        });
    }

    private static void snapshot() {
        test("HISTORY", "There is one snapshot, empty at first.", () -> {
            Calls h = boxes("0,0,0:1,1,1");
            refused(h, NONE, h::restore);
            due(1, h.keep());
            due(1, h.add(1, 0, 0, 1, 1, 1));
            due(2, h.keep());
            due(1, h.remove(0));
            due(2, h.restore());
            due(1, h.remove(1));
            due(2, h.restore());
            due(3, h.undo());
            due(1, h.total(0));
            due(2, h.restore());
            due(2, h.total(0));
        });
    }

    private static void stateIsEverythingBut() {
        String sentence = "The state is everything except the text, the history and the snapshot.";
        test("HISTORY", sentence, () -> {
            // The boxes, their number so far, the number of splits, and the setting.
            Calls h = boxes("0,0,0:4,4,4");
            due(1, h.keep());
            List<Integer> before = lookAtBoxes(h);
            due(1, h.split(0, 2, 1));
            due(0, h.set(0, 2));
            due(2, h.add(9, 9, 9, 1, 1, 1));
            due(1, h.restore());
            int[] totals = {1, 1, 0, 1, 0, NONE, 0, 0, 64, 0, 0};
            each(0, 10, what -> totals[what], what -> h.total(what));
            that("the boxes are as they were", lookAtBoxes(h).equals(before));
            due(3, h.undo());
            due(3, h.total(0));
            due(3, h.total(1));
            due(1, h.total(7));
            due(2, h.total(10));
            due(2, h.undo());
            due(1, h.undo());
            due(0, h.total(10));
            due(1, h.total(7));
            due(0, h.undo());
            due(0, h.total(7));
            due(1, h.total(1));
        });
        test("HISTORY", sentence, () -> {
            // Not the text.
            Calls h = typed("0,0,0:1,1,1");
            due(0, h.keep());
            due(1, h.addAll());
            due(12, h.type('x'));
            due(0, h.undo());
            due(12, h.total(12));
            due(-111, h.addAll());
            due(0, h.restore());
            due(12, h.total(12));
            due(12, h.clearText());
            due(0, h.restore());
            due(0, h.total(12));
            due(1, h.undo());
            due(0, h.total(12));
        });
        test("HISTORY", sentence, () -> {
            // Not the history, nor the snapshot.
            Calls h = boxes("0,0,0:1,1,1", "1,0,0:1,1,1");
            due(2, h.keep());
            due(2, h.add(2, 0, 0, 1, 1, 1));
            due(2, h.restore());
            due(4, h.total(11));
            due(3, h.undo());
            due(3, h.total(0));
            due(2, h.undo());
            due(1, h.undo());
            due(0, h.undo());
            due(0, h.total(0));
            due(2, h.restore());
            due(2, h.total(0));
            due(1, h.total(11));
            due(0, h.undo());
            due(0, h.keep());
            due(0, h.restore());
            due(0, h.undo());
            due(0, h.restore());
            due(0, h.total(0));
        });
    }

    // ---- ERRORS

    private static void errorsByName() {
        test("ERRORS", "Errors are reported by the constants below.", () -> {
            Calls h = cubes(16);
            due(HidingBoxes.UNKNOWN, h.remove(16));
            due(HidingBoxes.OUT_OF_RANGE, h.total(13));
            due(HidingBoxes.FULL, h.split(0, 0, 1));
            due(HidingBoxes.NOT_POSSIBLE, h.move(0, 0, 4));
            due(HidingBoxes.NONE, h.fall(0));
        });
        constant("The constants: `UNKNOWN = -1`: There is no such box, direction or setting.", HidingBoxes.UNKNOWN, -1,
                h -> h.move(16, 0, 1), h -> h.move(0, 3, 1), h -> h.set(1, 1), h -> h.end(0, -1, true));
        constant("`OUT_OF_RANGE = -2`: Another argument is out of its range.", HidingBoxes.OUT_OF_RANGE, -2,
                h -> h.add(32, 0, 0, 1, 1, 1), h -> h.set(0, 3), h -> h.ofBox(0, 9), h -> h.total(-1), h -> h.box(-1));
        constant("`FULL = -3`: There is no more room.", HidingBoxes.FULL, -3,
                h -> h.add(30, 30, 30, 1, 1, 1), h -> h.split(0, 0, 1));
        constant("`NOT_POSSIBLE = -4`: This is not possible in the present state.", HidingBoxes.NOT_POSSIBLE, -4,
                h -> h.add(0, 0, 0, 1, 1, 1), h -> h.move(0, 0, 4));
        constant("`NONE = -5`: There is no such thing; this is not an error.", HidingBoxes.NONE, -5,
                h -> h.breakRing(), h -> h.box(16), h -> h.drawn(16), h -> h.ofBox(0, 4), h -> h.restore(), h -> h.move(0, 0, 0));
    }

    @SafeVarargs
    private static void constant(String sentence, int constant, int number, ToIntFunction<Calls>... calls) {
        test("ERRORS", sentence, () -> {
            Check.due(sentence, constant, number);
            Calls h = cubes(16);
            for (ToIntFunction<Calls> call : calls) {
                due(number, call.applyAsInt(h));
            }
        });
    }

    private static void errorsInOrder() {
        String sentence = "If several errors apply, the one that stands first in the @return line is returned.";
        test("ERRORS", sentence, () -> {
            // add: OUT_OF_RANGE, NOT_POSSIBLE, FULL.
            Calls h = cubes(15);
            due(15, h.add(29, 29, 29, 3, 3, 3));
            refused(h, NOT_POSSIBLE, () -> h.add(1, 1, 1, 1, 1, 1));
            refused(h, OUT_OF_RANGE, () -> h.add(28, 28, 28, 5, 2, 2));
            Calls full = cubes(16);
            refused(full, OUT_OF_RANGE, () -> full.add(20, 20, 20, 0, 1, 1));
            refused(full, OUT_OF_RANGE, () -> full.add(20, 20, 31, 1, 1, 2));
            Calls roomy = boxes("29,29,29:3,3,3");
            refused(roomy, OUT_OF_RANGE, () -> roomy.add(28, 28, 28, 2, 2, 5));
            refused(roomy, OUT_OF_RANGE, () -> roomy.add(28, 28, 28, 13, 2, 2));
        });
        test("ERRORS", sentence, () -> {
            // move: UNKNOWN, OUT_OF_RANGE, NOT_POSSIBLE; and split: UNKNOWN, OUT_OF_RANGE, FULL.
            Calls h = boxes("0,0,0:2,2,2", "29,0,0:3,2,2");
            refused(h, UNKNOWN, () -> h.move(2, 0, 99));
            refused(h, UNKNOWN, () -> h.move(0, 3, 99));
            refused(h, UNKNOWN, () -> h.move(2, 3, MIN));
            refused(h, OUT_OF_RANGE, () -> h.move(0, 0, 31));
            refused(h, NOT_POSSIBLE, () -> h.move(0, 0, 30));
            Calls full = cubes(16);
            refused(full, UNKNOWN, () -> full.split(16, 0, 99));
            refused(full, UNKNOWN, () -> full.split(0, 3, 99));
            Calls whole = cubes(16);
            refused(whole, OUT_OF_RANGE, () -> whole.split(0, 0, 2));
            refused(whole, FULL, () -> whole.split(0, 0, 1));
        });
        test("ERRORS", sentence, () -> {
            // set, ofBox and pair: UNKNOWN, OUT_OF_RANGE.
            Calls h = cubes(2);
            refused(h, UNKNOWN, () -> h.set(1, 3));
            refused(h, UNKNOWN, () -> h.set(-1, -1));
            refused(h, UNKNOWN, () -> h.ofBox(2, 9));
            refused(h, UNKNOWN, () -> h.ofBox(2, -1));
            refused(h, UNKNOWN, () -> h.pair(2, 2));
            refused(h, UNKNOWN, () -> h.pair(-1, -1));
            refused(h, UNKNOWN, () -> h.end(2, 3, true));
        });
        test("ERRORS", sentence, () -> {
            // addAll: the fault, then the first box's error, of a box as of add.
            Calls h = cubes(15);
            texts(h, -122, "31,0,0:2,1,1;0,0,0:1,1x");
            texts(h, OUT_OF_RANGE, "31,0,0:2,1,1;0,0,0:1,1,1");
            texts(h, NOT_POSSIBLE, "0,0,0:1,1,1;31,0,0:2,1,1");
            texts(h, NOT_POSSIBLE, "20,20,20:1,1,1;20,20,20:1,1,1");
            texts(h, FULL, "20,20,20:1,1,1;21,20,20:1,1,1;31,0,0:2,1,1;0,0,0:1,1,1");
            texts(h, OUT_OF_RANGE, "20,20,20:1,1,1;31,20,20:2,1,1;22,20,20:1,1,1");
        });
    }

    private static void texts(Calls h, int want, String text) {
        h.clearText();
        typeAll(h, text);
        due(want, h.addAll());
        due(15, h.total(0));
        due(15, h.total(1));
        due(4, h.total(11));
    }

    private static void noneAfterErrors() {
        test("ERRORS", "NONE is not an error; it is returned only if no error applies.", () -> {
            Calls h = boxes("0,0,0:1,1,1");
            refused(h, UNKNOWN, () -> h.move(1, 0, 0));
            refused(h, UNKNOWN, () -> h.move(0, 3, 0));
            refused(h, NONE, () -> h.move(0, 0, 0));
            refused(h, UNKNOWN, () -> h.fall(1));
            refused(h, NONE, () -> h.fall(0));
            refused(h, UNKNOWN, () -> h.set(1, 0));
            refused(h, NONE, () -> h.set(0, 0));
            refused(h, UNKNOWN, () -> h.ofBox(1, 4));
            refused(h, NONE, () -> h.ofBox(0, 4));
            refused(h, UNKNOWN, () -> h.waitsFor(1));
            refused(h, NONE, () -> h.waitsFor(0));
            Calls empty = new Calls();
            refused(empty, OUT_OF_RANGE, () -> empty.box(-1));
            refused(empty, NONE, () -> empty.box(0));
            refused(empty, OUT_OF_RANGE, () -> empty.drawn(-1));
            refused(empty, NONE, () -> empty.drawn(0));
            Calls full = cubes(16);
            refused(full, NONE, full::breakRing);
        });
    }

    private static void errorsChangeNothing() {
        String sentence = "A method that returns an error or NONE changes nothing.";
        test("ERRORS", sentence, () -> {
            Calls h = boxes("0,0,0:2,2,2", "2,0,0:2,2,2", "0,2,9:2,2,2");
            refused(h, OUT_OF_RANGE, () -> h.add(31, 0, 0, 2, 1, 1));
            refused(h, NOT_POSSIBLE, () -> h.add(3, 1, 1, 2, 2, 2));
            refused(h, UNKNOWN, () -> h.remove(3));
            refused(h, UNKNOWN, () -> h.move(3, 0, 1));
            refused(h, OUT_OF_RANGE, () -> h.move(0, 0, -1));
            refused(h, NOT_POSSIBLE, () -> h.move(0, 0, 1));
            refused(h, NONE, () -> h.move(0, 0, 0));
            refused(h, UNKNOWN, () -> h.fall(3));
            refused(h, NONE, () -> h.fall(0));
            undoneInOrder(h);
        });
        test("ERRORS", sentence, () -> {
            Calls h = boxes("0,0,0:2,2,2", "2,0,0:2,2,2", "0,2,9:2,2,2");
            refused(h, UNKNOWN, () -> h.split(3, 0, 1));
            refused(h, OUT_OF_RANGE, () -> h.split(0, 0, 2));
            refused(h, NONE, h::breakRing);
            refused(h, UNKNOWN, () -> h.set(1, 1));
            refused(h, OUT_OF_RANGE, () -> h.set(0, 3));
            refused(h, NONE, () -> h.set(0, 0));
            refused(h, -100, h::addAll);
            refused(h, NONE, h::restore);
            undoneInOrder(h);
        });
        test("ERRORS", sentence, () -> {
            Calls h = boxes("0,0,0:2,2,2", "2,0,0:2,2,2", "0,2,9:2,2,2");
            typeAll(h, "20,20,20:1,1,1;21,20,20:1,1,1;0,0,0:1,1,1");
            refused(h, NOT_POSSIBLE, h::addAll);
            due(41, h.total(12));
            undoneInOrder(h);
            refused(h, NONE, h::undo);
            refused(h, NONE, h::turn);
            refused(h, NONE, h::restore);
            due(3, h.addAll());
        });
        test("ERRORS", sentence, () -> {
            // A refused call leaves the snapshot and the text as they were.
            Calls h = boxes("0,0,0:2,2,2");
            due(1, h.keep());
            typeAll(h, "9,9,9:1,1,1;0,0,0:1,1,1");
            due(NOT_POSSIBLE, h.addAll());
            due(8, h.remove(0));
            due(NONE, h.turn());
            due(2, h.addAll());
            due(1, h.restore());
            ends(h, 0, "0,0,0:2,2,2");
        });
    }

    /** Takes back three boxes that were put there one after the other. */
    private static void undoneInOrder(Calls h) {
        for (int left = 2; left >= 0; left--) {
            due(left, h.undo());
            due(left, h.total(0));
            due(left, h.total(1));
        }
    }
}
