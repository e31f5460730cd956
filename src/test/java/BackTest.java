/** Promises 19 to 21: marks, and going back to them. Above each test stands the sentence that it is for. */
public final class BackTest {
    public static void main(String[] args) {
        Due.runAll(BackTest.class);
    }

    // Promise 19: canMark

    /** "Tells whether a stream can be marked: kinds 0, 2, 3 and 6." */
    private static void canMarkOfEachKind() {
        boolean[] can = {true, false, true, true, false, false, true, false};
        for (int stream = 0; stream < 4; stream++) {
            for (int kind = 0; kind < 8; kind++) {
                Layerwell x = Due.with(1);
                x.open(stream, kind, 0, 0);
                Due.is("canMark of kind " + kind, x.canMark(stream), can[kind]);
                x.skip(stream, 200);
                Due.is("with nothing left", x.canMark(stream), can[kind]);
            }
        }
    }

    /** "Throws IndexOutOfBoundsException if there is no such stream" */
    private static void canMarkRefusesNoStream() {
        Due.isRefusedOutside0To3("canMark", (x, stream) -> x.canMark(stream));
    }

    /** "Throws UnsupportedOperationException if it is not open" */
    private static void canMarkRefusesAStreamThatIsNotOpen() {
        Due.isRefusedIfNotOpen("canMark", (x, stream) -> x.canMark(stream));
    }

    // Promise 20: mark

    /** "Marks where a stream is": at each place, the begin and the end, too; the place stays */
    private static void markAtEachPlace() {
        int[] row = {1, 10, 3, 10};
        for (int kind : Want.MARKABLE) {
            for (int place = 0; place <= 4; place++) {
                Layerwell x = Due.opened(kind, row);
                x.skip(0, place);
                x.mark(0);
                Due.isRest("the place stays", x, 0, Want.from(row, place));
                x.back(0);
                Due.isRest("back at the mark", x, 0, Want.from(row, place));
            }
        }
    }

    /** "instead of where it was marked last.": later, and earlier */
    private static void markInsteadOfTheLastOne() {
        for (int kind : Want.MARKABLE) {
            Layerwell x = Due.opened(kind, 1, 2, 3, 4);
            x.skip(0, 2);
            x.mark(0);
            x.skip(0, 1);
            x.mark(0);
            x.back(0);
            Due.isRest("a later one", x, 0, 4);
            x.back(0);
            x.mark(0);
            x.skip(0, 9);
            x.back(0);
            Due.isRest("at the same place", x, 0, 4);
        }
    }

    /** "Returns its line number, -1 if it has none." */
    private static void markAnswersTheLineNumber() {
        int[] lines = {-1, 0, 2, -1, 0, 0, 2, 0};
        for (int kind : Want.MARKABLE) {
            Layerwell x = Due.opened(kind, 10, 10, 1);
            x.skip(0, 2);
            Due.is("mark of kind " + kind, x.mark(0), lines[kind]);
            Due.is("mark again", x.mark(0), lines[kind]);
        }
    }

    /** Its line number is any int: the smallest, -1, and the largest. */
    private static void markAnswersALineNumberThatWasSet() {
        for (int kind : new int[] {2, 6}) {
            Layerwell x = Due.opened(kind, 10);
            for (int number : new int[] {Integer.MIN_VALUE, -1, 0, Integer.MAX_VALUE}) {
                x.setLine(0, number);
                Due.is("mark", x.mark(0), number);
                Due.is("the line number stays", x.line(0), number);
            }
        }
    }

    /** A mark leaves the check. */
    private static void markLeavesTheCheck() {
        for (int kind : Want.WITH_CHECK) {
            Layerwell x = Due.opened(kind, 1, 2, 3);
            x.skip(0, 2);
            x.mark(0);
            Due.is("check", x.check(0), Want.check(1, 2));
        }
    }

    /** "Throws IndexOutOfBoundsException if there is no such stream" */
    private static void markRefusesNoStream() {
        Due.isRefusedOutside0To3("mark", (x, stream) -> x.mark(stream));
    }

    /** "Throws UnsupportedOperationException if it is not open" */
    private static void markRefusesAStreamThatIsNotOpen() {
        Due.isRefusedIfNotOpen("mark", (x, stream) -> x.mark(stream));
    }

    /** "or can't be marked" */
    private static void markRefusesKindsThatCantBeMarked() {
        for (int kind : Want.NOT_MARKABLE) {
            Due.isRefused(Due.NOT_ABLE, () -> passed(kind), "mark of kind " + kind, x -> x.mark(0));
            Due.isRefused(Due.NOT_ABLE, () -> Due.opened(kind), "mark of kind " + kind, x -> x.mark(0));
        }
    }

    private static Layerwell passed(int kind) {
        Layerwell x = Due.opened(kind, 1, 10, 3);
        x.skip(0, 2);
        return x;
    }

    // Promise 21: back

    /** "kinds 0 and 3 to the mark, or to the begin if there is none": from each place */
    private static void backToTheBeginOfKinds0And3() {
        for (int kind : new int[] {0, 3}) {
            for (int place = 0; place <= 3; place++) {
                Layerwell x = Due.opened(kind, 1, 2, 10);
                x.skip(0, place);
                Due.is("back", x.back(0), -1);
                Due.isRest("from place " + place, x, 0, 1, 2, 10);
            }
            Due.is("back of an empty one", Due.opened(kind).back(0), -1);
        }
    }

    /** "kinds 0 and 3 to the mark", again and again */
    private static void backToTheMarkOfKinds0And3() {
        for (int kind : new int[] {0, 3}) {
            Layerwell x = passed(kind);
            x.mark(0);
            for (int i = 0; i < 3; i++) {
                x.skip(0, i);
                Due.is("back", x.back(0), -1);
                Due.isRest("at the mark", x, 0, 3);
            }
        }
    }

    /** "kinds 2 and 6 to the mark, and the line number to what it was then" */
    private static void backToTheMarkOfKinds2And6() {
        for (int kind : new int[] {2, 6}) {
            Layerwell x = Due.opened(kind, 10, 1, 13, 10, 10);
            x.skip(0, 1);
            Due.is("mark", x.mark(0), 1);
            x.skip(0, 3);
            Due.is("line", x.line(0), 3);
            for (int i = 0; i < 3; i++) {
                Due.is("back", x.back(0), 1);
                Due.is("line behind back", x.line(0), 1);
                Due.isRest("at the mark", x, 0, 1, 10, 10);
                Due.is("line", x.line(0), 3);
            }
        }
    }

    /** A mark at the begin of kinds 2 and 6 is a mark, and one at the end, and one of an empty OUT. */
    private static void backToAMarkAtTheBeginOrTheEnd() {
        for (int kind : new int[] {2, 6}) {
            Layerwell x = Due.opened(kind, 1, 10, 3);
            x.mark(0);
            x.skip(0, 9);
            Due.is("back to the begin", x.back(0), 0);
            Due.isRest("the begin", x, 0, 1, 10, 3);
            x.mark(0);
            Due.is("back to the end", x.back(0), 1);
            Due.isRest("the end", x, 0);
            x = Due.opened(kind);
            x.mark(0);
            Due.is("back of an empty one", x.back(0), 0);
        }
    }

    /** The line number of the mark is what it was then, whatever it was set to, ahead of it or later. */
    private static void backWithALineNumberThatWasSet() {
        for (int kind : new int[] {2, 6}) {
            for (int number : new int[] {Integer.MIN_VALUE, -1, 0, Integer.MAX_VALUE}) {
                Layerwell x = Due.opened(kind, 10, 10, 10);
                x.skip(0, 1);
                x.setLine(0, number);
                x.mark(0);
                x.read(0);
                x.setLine(0, 77);
                Due.is("back", x.back(0), number);
                Due.is("line", x.line(0), number);
                x.read(0);
                Due.is("line goes on", x.line(0), number + 1);
            }
        }
    }

    /** "kind 1 to the begin": from each place, and again */
    private static void backToTheBeginOfKind1() {
        for (int place = 0; place <= 3; place++) {
            Layerwell x = Due.opened(1, 1, 10, 3);
            x.skip(0, place);
            Due.is("back", x.back(0), -1);
            Due.isRest("from place " + place, x, 0, 1, 10, 3);
            Due.is("back again", x.back(0), -1);
            Due.isRest("from the end", x, 0, 1, 10, 3);
        }
        Due.is("back of an empty one", Due.opened(1).back(0), -1);
    }

    /** "Its check is that of the bytes passed": going back takes nothing off, and bytes passed again count again */
    private static void backLeavesTheCheck() {
        for (int kind : Want.WITH_CHECK) {
            Layerwell x = Due.opened(kind, 1, 2, 3);
            x.skip(0, 1);
            x.mark(0);
            x.skip(0, 2);
            x.back(0);
            Due.is("check", x.check(0), Want.check(1, 2, 3));
            x.skip(0, 2);
            Due.is("check", x.check(0), Want.check(1, 2, 3, 2, 3));
            x.back(0);
            x.checkAnew(0);
            x.read(0);
            Due.is("check anew", x.check(0), Want.check(2));
        }
    }

    /** A stream opened again has no mark of before. */
    private static void backOfAStreamOpenedAgain() {
        for (int kind : new int[] {0, 3}) {
            Layerwell x = passed(kind);
            x.mark(0);
            x.open(0, kind, 0, 0);
            x.skip(0, 3);
            x.back(0);
            Due.isRest("to the begin", x, 0, 1, 10, 3);
        }
        for (int kind : new int[] {2, 6}) {
            Due.isRefused(Due.NOT_ABLE, () -> markedAndOpenedAgain(kind), "back", x -> x.back(0));
        }
    }

    private static Layerwell markedAndOpenedAgain(int kind) {
        Layerwell x = passed(kind);
        x.mark(0);
        x.open(0, kind, 0, 0);
        x.read(0);
        return x;
    }

    /** "Throws IndexOutOfBoundsException if there is no such stream" */
    private static void backRefusesNoStream() {
        Due.isRefusedOutside0To3("back", (x, stream) -> x.back(stream));
    }

    /** "Throws UnsupportedOperationException if it is not open" */
    private static void backRefusesAStreamThatIsNotOpen() {
        Due.isRefusedIfNotOpen("back", (x, stream) -> x.back(stream));
    }

    /** "or of kind 4, 5 or 7" */
    private static void backRefusesKinds4And5And7() {
        for (int kind : Want.OF_TWO) {
            Due.isRefused(Due.NOT_ABLE, () -> passed(kind), "back of kind " + kind, x -> x.back(0));
            Due.isRefused(Due.NOT_ABLE, () -> Due.opened(kind, 1), "back of kind " + kind, x -> x.back(0));
        }
    }

    /** "or of kind 2 or 6 and not marked", also at the begin */
    private static void backRefusesKinds2And6IfNotMarked() {
        for (int kind : new int[] {2, 6}) {
            Due.isRefused(Due.NOT_ABLE, () -> passed(kind), "back of kind " + kind, x -> x.back(0));
            Due.isRefused(Due.NOT_ABLE, () -> Due.opened(kind, 1), "at the begin", x -> x.back(0));
            Due.isRefused(Due.NOT_ABLE, () -> Due.opened(kind), "of an empty one", x -> x.back(0));
        }
    }
}
