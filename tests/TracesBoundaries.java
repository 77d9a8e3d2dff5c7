import java.util.ArrayList;
import java.util.LinkedHashMap;
import java.util.List;
import java.util.Map;
import java.util.function.Supplier;
import java.util.function.ToIntFunction;

/**
 * A call that changes nothing, or a change that is taken back, leaves no trace: all that can be
 * asked afterwards, and all that can be done then, is as on an object without that call.
 */
final class TracesBoundaries extends Sentences {
    /** A ring, a box in the air that hides all of it, and a box that floats apart. */
    private static final String[] RINGED = {"0,0,1:2,1,1", "1,0,0:1,2,1", "0,1,0:1,1,2", "3,3,3:2,1,1", "0,20,2:4,2,1"};
    /** The same without a ring, so that all boxes are drawn. */
    private static final String[] CALM = {"0,0,1:2,1,1", "1,0,0:1,2,1", "9,1,0:1,1,2", "3,3,3:2,1,1", "0,20,2:4,2,1"};
    private static final String GOOD_TEXT = "9,9,9:1,1,1;9,9,8:1,1,1";
    private static final String BAD_TEXT = "9,9,9:1,1,1;0,0,1:1,1,1";
    private static final String CHANGES_NOTHING = "A method that returns an error or NONE changes nothing.";

    private TracesBoundaries() {
    }

    static void run() {
        for (String[] scene : new String[][] {RINGED, CALM}) {
            test("ERRORS", CHANGES_NOTHING, () -> refusals(scene).forEach((name, call) -> leavesNoTrace(scene, name, call)));
            test("ERRORS", CHANGES_NOTHING, () -> refusals(scene).forEach((name, call) -> nextCalls(scene, name, call)));
            test("HISTORY", "The state is everything except the text, the history and the snapshot.", () ->
                    changes(scene).forEach((name, call) -> leavesNoTrace(scene, "undone " + name, undone(call))));
            test("Promise 13", "`int undo()`: Restores the latest state of the history, and removes it from there.", () ->
                    changes(scene).forEach((name, call) -> nextCalls(scene, "undone " + name, undone(call))));
            test("Promise 23", "`int breaks()`: Tells how many rings have to be broken, one after the other as by breakRing(), until there is no ring.", () ->
                    asksAlone(scene, "breaks", Calls::breaks));
            test("Promise 24", "`int drawnWithout(int box)`: Tells how many boxes would be drawn with a box taken away.", () ->
                    asksAlone(scene, "drawnWithout", h -> h.drawnWithout(0)));
        }
        test("ERRORS", CHANGES_NOTHING, TracesBoundaries::whenFull);
        test("BOXES", "There are at most 16 boxes", TracesBoundaries::roomAgain);
        test(INTRODUCTION, "An object is used for at most 512 calls after it has been made", TracesBoundaries::toTheLastCall);
    }

    /** A question that tries something on its way changes nothing either. */
    private static void asksAlone(String[] scene, String name, ToIntFunction<Calls> call) {
        leavesNoTrace(scene, name, h -> call.applyAsInt(h) < 0 ? 0 : NONE);
        nextCalls(scene, name, call);
    }

    /** These boxes, kept; a setting that has been changed; and a text. */
    private static Calls scene(String[] boxes, String text) {
        Calls h = boxes(boxes);
        h.keep();
        h.set(0, 2);
        typeAll(h, text);
        return h;
    }

    /** Calls that answer an error or NONE. */
    private static Map<String, ToIntFunction<Calls>> refusals(String[] scene) {
        Map<String, ToIntFunction<Calls>> calls = new LinkedHashMap<>();
        calls.put("add out of range", h -> h.add(31, 0, 0, 2, 1, 1));
        calls.put("add that cuts", h -> h.add(0, 0, 0, 12, 12, 12));
        calls.put("remove of no box", h -> h.remove(5));
        calls.put("move of no box", h -> h.move(5, 0, 1));
        calls.put("move in no direction", h -> h.move(0, 3, 1));
        calls.put("move out of range", h -> h.move(3, 2, 29));
        calls.put("move that cuts", h -> h.move(0, 2, -1));
        calls.put("move by 0", h -> h.move(3, 2, 0));
        calls.put("fall of no box", h -> h.fall(5));
        calls.put("fall of a box on the ground", h -> h.fall(1));
        calls.put("split of no box", h -> h.split(5, 0, 1));
        calls.put("split in no direction", h -> h.split(4, 3, 1));
        calls.put("split at an end", h -> h.split(4, 0, 4));
        calls.put("set of no setting", h -> h.set(1, 1));
        calls.put("set out of range", h -> h.set(0, 3));
        calls.put("set as it is", h -> h.set(0, 2));
        calls.put("addAll of boxes that cut", Calls::addAll);
        if (scene == CALM) {
            calls.put("breakRing without a ring", Calls::breakRing);
        }
        calls.put("box", h -> h.box(-1));
        calls.put("end", h -> h.end(0, 3, true));
        calls.put("ofBox", h -> h.ofBox(0, 9));
        calls.put("pair", h -> h.pair(0, 0));
        calls.put("drawn", h -> h.drawn(5));
        calls.put("total", h -> h.total(13));
        calls.put("waitsFor", h -> h.waitsFor(5));
        calls.put("drawnWithout", h -> h.drawnWithout(5));
        return calls;
    }

    private static Map<String, ToIntFunction<Calls>> changes(String[] scene) {
        Map<String, ToIntFunction<Calls>> calls = new LinkedHashMap<>();
        calls.put("add", h -> h.add(20, 20, 20, 2, 2, 2));
        calls.put("add of a box below", h -> h.add(0, 20, 0, 1, 1, 1));
        calls.put("remove", h -> h.remove(0));
        calls.put("remove of the last", h -> h.remove(4));
        calls.put("move", h -> h.move(3, 0, 4));
        calls.put("fall", h -> h.fall(4));
        calls.put("split", h -> h.split(4, 0, 1));
        if (scene == RINGED) {
            calls.put("breakRing", Calls::breakRing);
        }
        calls.put("turn", Calls::turn);
        calls.put("set", h -> h.set(0, 1));
        calls.put("restore", Calls::restore);
        return calls;
    }

    private static ToIntFunction<Calls> undone(ToIntFunction<Calls> call) {
        return h -> {
            // A history that is full has lost its oldest state by the change.
            int answer = call.applyAsInt(h);
            return answer < 0 ? answer : h.undo();
        };
    }

    private static void leavesNoTrace(String[] scene, String name, ToIntFunction<Calls> call) {
        boolean isUndone = name.startsWith("undone");
        Calls touched = scene(scene, BAD_TEXT);
        Calls fresh = scene(scene, BAD_TEXT);
        int answer = call.applyAsInt(touched);
        that(name + " answers " + answer, isUndone ? answer == 3 : answer < 0);
        due(isUndone ? 3 : 4, touched.total(11));
        List<Integer> had = deepLook(touched);
        that(name + " leaves what can be asked", had.equals(deepLook(fresh)));
        for (int back = isUndone ? 3 : 4; back > 0; back--) {
            touched.undo();
            fresh.undo();
            that(name + " leaves the state of " + back, lookAtBoxes(touched).equals(lookAtBoxes(fresh)));
        }
        due(NONE, touched.undo());
        touched.restore();
        fresh.restore();
        that(name + " leaves the snapshot", lookAtBoxes(touched).equals(lookAtBoxes(fresh)));
    }

    /** After the call each other call answers, and does, what it would have without it. */
    private static void nextCalls(String[] scene, String name, ToIntFunction<Calls> call) {
        Map<String, ToIntFunction<Calls>> then = changes(scene);
        then.putAll(refusals(scene));
        then.put("addAll of boxes", h -> h.clearText() + typeThen(h, GOOD_TEXT));
        then.put("undo", Calls::undo);
        then.put("keep", h -> h.keep() + h.remove(1) + h.restore());
        then.put("breaks", Calls::breaks);
        then.forEach((nameThen, callThen) -> {
            Calls touched = scene(scene, BAD_TEXT);
            Calls fresh = scene(scene, BAD_TEXT);
            call.applyAsInt(touched);
            that(name + ", then " + nameThen + " answers as without it",
                    callThen.applyAsInt(touched) == callThen.applyAsInt(fresh) || nameThen.equals("undo"));
            that(name + ", then " + nameThen + " does as without it", deepLook(touched).equals(deepLook(fresh)));
        });
    }

    private static int typeThen(Calls h, String text) {
        typeAll(h, text);
        return 100 * h.addAll();
    }

    /** All that can be asked, but for the states in the history. */
    private static List<Integer> deepLook(Calls h) {
        List<Integer> seen = new ArrayList<>();
        int numbers = h.total(1) + 1;
        for (int what = 0; what <= 12; what++) {
            seen.add(what == 11 ? 0 : h.total(what));
        }
        for (int box = 0; box <= numbers; box++) {
            seen.add(h.box(box));
            seen.add(h.drawn(box));
            seen.add(h.waitsFor(box));
            for (int what = 0; what <= 8; what++) {
                seen.add(h.ofBox(box, what));
            }
            for (int direction = 0; direction < 3; direction++) {
                seen.add(h.end(box, direction, false));
                seen.add(h.end(box, direction, true));
            }
            for (int other = 0; other <= numbers; other++) {
                seen.add(h.pair(box, other));
            }
        }
        // The calls that try something come last, so that they can't set right what was wrong.
        for (int box = 0; box <= numbers; box++) {
            seen.add(h.drawnWithout(box));
        }
        seen.add(h.breaks());
        seen.add(h.box(0));
        seen.add(h.ofBox(h.box(0), 0));
        return seen;
    }

    /** The same where there is no more room, and the history is not full. */
    private static void whenFull() {
        Supplier<Calls> full = () -> {
            Calls h = boxes(RING);
            for (String text : new String[] {"0,20,0:1,1,1;2,20,0:1,1,1;4,20,0:1,1,1;6,20,0:1,1,1;8,20,0:1,1,1;10,20,0:2,1,1",
                "0,24,0:1,1,1;2,24,0:1,1,1;4,24,0:1,1,1;6,24,0:1,1,1;8,24,0:1,1,1;10,24,0:2,1,1"}) {
                typeAll(h, text);
                due(6, h.addAll());
                h.clearText();
            }
            due(15, h.add(30, 30, 30, 1, 1, 1));
            return h;
        };
        Map<String, ToIntFunction<Calls>> calls = new LinkedHashMap<>();
        calls.put("add", h -> h.add(20, 20, 20, 1, 1, 1));
        calls.put("split", h -> h.split(14, 0, 11));
        calls.put("breakRing", Calls::breakRing);
        calls.put("breaks", Calls::breaks);
        calls.forEach((name, call) -> {
            Calls touched = full.get();
            due(FULL, call.applyAsInt(touched));
            ends(touched, 14, "10,24,0:2,1,1");
            ends(touched, 0, RING[0]);
            due(16, touched.total(1));
            due(0, touched.total(7));
            due(3, touched.undo());
            due(15, touched.total(0));
            due(2, touched.undo());
            due(9, touched.total(0));
            due(1, touched.undo());
            due(3, touched.total(0));
            due(0, touched.undo());
            due(2, touched.total(0));
        });
    }

    /** Whether there is room is told by the boxes that there are, not by those of earlier calls. */
    private static void roomAgain() {
        Calls undone = cubes(15);
        due(15, undone.add(30, 30, 30, 1, 1, 1));
        due(3, undone.undo());
        due(15, undone.split(0, 0, 1));
        Calls full = cubes(16);
        due(15, full.drawnWithout(3));
        due(FULL, full.split(0, 0, 1));
        due(15, full.drawnWithout(3));
        due(FULL, full.add(30, 30, 30, 1, 1, 1));
        Calls ring = ringAmong(15);
        due(15, ring.add(30, 30, 30, 1, 1, 1));
        due(3, ring.undo());
        due(1, ring.breaks());
        due(15, ring.breakRing());
        Calls text = cubes(14);
        typeAll(text, "20,20,20:1,1,1;21,20,20:1,1,1");
        due(2, text.addAll());
        due(3, text.undo());
        due(14, text.add(30, 30, 30, 1, 1, 1));
        due(FULL, text.addAll());
        due(15, text.add(30, 30, 31, 1, 1, 1));
        due(FULL, text.add(20, 20, 20, 1, 1, 1));
    }

    /** Each kind of change as often as an object's calls allow, and what is there at the last one. */
    private static void toTheLastCall() {
        Calls typed = new Calls();
        each(1, Calls.MOST, i -> i <= 80 ? i : FULL, i -> typed.type('1'));
        Calls turned = boxes("1,2,3:4,5,6");
        each(2, Calls.MOST - 6, i -> 0, i -> turned.turn());
        ends(turned, 0, "25,1,3:5,4,6");
        Calls moved = boxes("0,0,0:1,1,1");
        each(2, Calls.MOST, i -> i % 2 == 0 ? 31 : 0, i -> moved.move(0, 2, i % 2 == 0 ? 31 : -31));
        Calls fallen = boxes("0,0,0:1,1,1");
        each(2, Calls.MOST, i -> 31, i -> i % 2 == 0 ? fallen.move(0, 2, 31) : fallen.fall(0));
        Calls set = new Calls();
        each(1, Calls.MOST, i -> (i + 1) % 2, i -> set.set(0, i % 2));
        Calls undone = boxes("0,0,0:2,1,1");
        each(2, Calls.MOST, i -> 1, i -> i % 2 == 0 ? undone.split(0, 0, 1) : undone.undo());
        Calls kept = boxes("0,0,0:2,1,1");
        due(1, kept.keep());
        each(3, Calls.MOST, i -> i % 2, i -> i % 2 == 0 ? kept.remove(0) - 2 : kept.restore());
        Calls text = typed("0,0,0:1,1,1");
        each(12, Calls.MOST, i -> 1, i -> i % 2 == 0 ? text.addAll() : text.remove(i / 2 - 6));
        for (Calls h : new Calls[] {typed, turned, moved, fallen, set, undone, kept, text}) {
            that("all calls that are promised are made", h.made() == Calls.MOST);
        }
    }
}
