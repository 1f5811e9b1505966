/** Promises 18 to 21: solve, steps, shifts, shift. */
public final class FindingTest {
    private static final Checks CHECKS = new Checks();

    private static void due(String call, int got, int want) {
        CHECKS.due(call, got, want);
    }

    public static void main(String[] args) {
        solveRefusals();
        solveWithoutOpenNotes();
        solveStraight();
        solveStepsBack();
        solveNoWay();
        solveMoreStepsThanTold();
        solveOpenCentre();
        solvePassing();
        solveManySteps();
        shiftsRefused();
        shiftsOfNothing();
        shiftsOfPairAlone();
        shiftsBounds();
        shiftsOfModes();
        shiftsAreKept();
        CHECKS.finish();
    }

    private static void solveRefusals() {
        CanonMaker x = new CanonMaker();
        x.note(-2, 4);
        x.span(5, 5);
        due("solve(3)", x.solve(3), 1);
        due("steps()", x.steps(), 1);
        x.pitch(0, -2);
        due("solve(-1)", x.solve(-1), -2);
        due("solve(3001)", x.solve(3001), -2);
        x.round(3);
        due("solve(3001) in a round", x.solve(3001), -2);
        due("solve(3) in a round", x.solve(3), -3);
        due("the steps stay", x.steps(), 1);
        due("the note stays open", x.told(0, 0), -2);
        x.round(4);
        due("solve(3) in a longer round", x.solve(3), 1);
        due("it is LOW", x.told(0, 0), 5);
    }

    private static void solveWithoutOpenNotes() {
        CanonMaker x = new CanonMaker();
        due("nothing to solve", x.solve(0), 1);
        x.note(60, 1);
        due("all are told", x.solve(0), 1);
        due("no steps", x.steps(), 0);
        x.rules(1);
        x.span(0, 10);
        x.note(-2, 1);
        x.note(-2, 1);
        due("a fault at the beginning", x.solve(3000), 0);
        due("no steps then", x.steps(), 0);
        x.cut(1);
        due("a fault and no open note", x.solve(3000), 0);
    }

    private static void solveStraight() {
        CanonMaker x = new CanonMaker();
        x.note(-2, 1);
        x.note(60, 1);
        x.note(-1, 1);
        x.note(-2, 1);
        x.span(50, 60);
        due("without rules", x.solve(2), 1);
        due("a step each", x.steps(), 2);
        due("LOW", x.told(0, 0), 50);
        due("60 stays", x.told(1, 0), 60);
        due("the rest stays", x.told(2, 0), -1);
        due("LOW too", x.told(3, 0), 50);
        x.pitch(0, -2);
        x.rules(128);
        due("no leap to 60", x.solve(3000), 1);
        due("50 is 10 away, 51 is not", x.told(0, 0), 51);
        due("two steps", x.steps(), 2);
    }

    private static void solveStepsBack() {
        CanonMaker x = new CanonMaker();
        x.note(60, 1);
        x.note(-2, 1);
        x.note(-2, 1);
        x.note(74, 1);
        x.rules(130);
        x.span(59, 75);
        x.scale(1 << 0 | 1 << 2 | 1 << 11);
        // 59 goes to 60 62 71 but only 62 leads on to 74; each of them is tried in order.
        due("solve(3000)", x.solve(3000), 1);
        due("told(1)", x.told(1, 0), 59);
        due("told(2)", x.told(2, 0), 62);
        due("steps()", x.steps(), 5);
        x.pitch(1, -2);
        x.pitch(2, -2);
        x.pitch(3, 75);
        x.scale(1 << 0 | 1 << 3 | 1 << 11);
        x.pitch(0, 63);
        // 59 leads to 60 63 71, of which 63 leads on to 75 within an octave.
        due("solve(3000) again", x.solve(3000), 1);
        due("told(1) again", x.told(1, 0), 59);
        due("told(2) again", x.told(2, 0), 63);
        CanonMaker back = new CanonMaker();
        back.note(-2, 1);
        back.note(-2, 1);
        back.note(14, 1);
        back.rules(128);
        back.span(0, 1);
        // Nothing of 0 and 1 reaches 14: (0: 0, 1), (1: 0, 1).
        due("no way", back.solve(3000), 0);
        due("all six were tried", back.steps(), 6);
        back.span(0, 2);
        due("a way", back.solve(3000), 1);
        due("(0: 0, 1, 2)", back.steps(), 4);
        due("0", back.told(0, 0), 0);
        due("2", back.told(1, 0), 2);
    }

    private static void solveNoWay() {
        CanonMaker x = new CanonMaker();
        x.note(-2, 1);
        x.note(60, 1);
        x.note(-2, 1);
        x.rules(128);
        x.span(0, 20);
        due("no way", x.solve(3000), 0);
        due("steps()", x.steps(), 21);
        due("open as before", x.told(0, 0), -2);
        due("open as before too", x.told(2, 0), -2);
        due("with just enough steps", x.solve(21), 0);
        due("with one less", x.solve(20), -6);
        due("steps() of it", x.steps(), 20);
        due("open again", x.told(0, 0), -2);
    }

    private static void solveMoreStepsThanTold() {
        CanonMaker x = new CanonMaker();
        x.note(-2, 1);
        x.note(-2, 1);
        x.rules(1);
        due("solve(0)", x.solve(0), -6);
        due("steps()", x.steps(), 0);
        due("solve(1)", x.solve(1), -6);
        due("steps() then", x.steps(), 1);
        due("open as before", x.told(0, 0), -2);
        due("open as before too", x.told(1, 0), -2);
        due("solve(2)", x.solve(2), 1);
        due("steps() at last", x.steps(), 2);
        due("told", x.told(0, 0), 0);
    }

    private static void solveOpenCentre() {
        CanonMaker x = new CanonMaker();
        x.note(-1, 1);
        x.note(-2, 1);
        x.note(70, 1);
        x.voice(1, 0, 0, 1, 1);
        x.rules(1);
        x.span(60, 70);
        // With C the inverted line has 2 C - 70, which is in the span from C = 65 on.
        due("solve(3000)", x.solve(3000), 1);
        due("C", x.told(1, 0), 65);
        due("steps()", x.steps(), 6);
    }

    /** What is told last settles whether the note before it was passing. */
    private static void solvePassing() {
        CanonMaker x = new CanonMaker();
        x.note(60, 4);
        x.note(-1, 1);
        x.note(60, 1);
        x.note(62, 1);
        x.note(-2, 1);
        x.voice(1, 5, 0, 0, 1);
        x.rules(12);
        x.span(51, 70);
        // At 6 62 is above a 60 that is held; 51, 52, 53, 56 .. are good with it at 7, but no steps.
        due("solve(3000)", x.solve(3000), 1);
        due("a step on", x.told(4, 0), 63);
        due("steps()", x.steps(), 13);
    }

    private static void solveManySteps() {
        CanonMaker x = new CanonMaker();
        for (int n = 0; n < 23; n++) {
            x.note(-2, 16);
        }
        x.note(127, 16);
        for (int v = 1; v < 4; v++) {
            x.voice(v, 33 * v, v, v, v);
        }
        x.rules(128);
        x.span(0, 9);
        for (int call = 0; call < 400; call++) {
            due("solve(3000)", x.solve(3000), -6);
        }
        due("steps()", x.steps(), 3000);
        due("open as before", x.told(22, 0), -2);
    }

    private static void shiftsRefused() {
        CanonMaker x = new CanonMaker();
        x.note(60, 4);
        due("shifts(0)", x.shifts(0), -1);
        due("shifts(4)", x.shifts(4), -1);
        due("shifts(-1)", x.shifts(-1), -1);
        due("shifts(1) that is off", x.shifts(1), -3);
        x.voice(1, 0, 0, 0, 1);
        due("shifts(1)", x.shifts(1), 125);
        x.note(-2, 1);
        due("with an open note", x.shifts(1), -3);
        due("the latest ones stay", x.shift(124, 1), 12);
        x.cut(1);
        x.voice(2, 0, 0, 0, 2);
        x.round(4);
        due("the other line is too long", x.shifts(1), 125);
        due("this line is too long", x.shifts(2), -3);
        x.round(3);
        due("the subject is too long", x.shifts(1), -3);
        due("what = 2", x.shift(0, 2), -2);
        due("what = -1", x.shift(0, -1), -2);
        due("k = -1", x.shift(-1, 0), -1);
        due("k = 125", x.shift(125, 2), -1);
    }

    private static void shiftsOfNothing() {
        CanonMaker x = new CanonMaker();
        x.voice(3, 50, 0, 0, 1);
        x.rules(255);
        due("of no notes", x.shifts(3), 25);
        due("its first delay", x.shift(0, 0), 0);
        due("its first interval", x.shift(0, 1), -12);
        due("its last delay", x.shift(24, 0), 0);
        due("its last interval", x.shift(24, 1), 12);
        x.note(60, 1);
        x.span(0, 10);
        due("none works", x.shifts(3), 0);
        due("there is none", x.shift(0, 0), -1);
    }

    private static void shiftsOfPairAlone() {
        CanonMaker x = new CanonMaker();
        x.note(60, 2);
        x.voice(1, 0, 1, 0, 1);
        x.voice(2, 0, 0, 0, 1);
        x.rules(4 | 64);
        // With the subject it may be 0, 3, 4, 7, 8, 9, 12 below it, or behind it at any interval.
        due("shifts(2)", x.shifts(2), 7 + 7 + 25);
        int[] below = {-12, -9, -8, -7, -4, -3, 0};
        for (int k = 0; k < 39; k++) {
            due("delay of shift " + k, x.shift(k, 0), k < 7 ? 0 : k < 14 ? 1 : 2);
            due("interval of shift " + k, x.shift(k, 1), k < 14 ? below[k % 7] : k - 14 - 12);
        }
        due("the voice stays as it was", x.at(2, 0), 60);
        due("the others too", x.at(1, 0), 61);
        due("faults() of all", x.faults(), 3);
    }

    private static void shiftsBounds() {
        CanonMaker x = new CanonMaker();
        for (int n = 0; n < 24; n++) {
            x.note(60, 16);
        }
        x.voice(1, 0, 0, 0, 3);
        due("100 is the last delay", x.shifts(1), 101 * 25);
        due("its delay", x.shift(2524, 0), 100);
        due("its interval", x.shift(2524, 1), 12);
        due("no more", x.shift(2525, 0), -1);
    }

    private static void shiftsOfModes() {
        CanonMaker x = new CanonMaker();
        x.note(60, 1);
        x.note(62, 1);
        x.rules(64);
        x.voice(1, 7, 20, 1, 1);
        // Inverted it has 60 58 and the interval: at delay 0 up to 0, at 1 up to 2, then any.
        due("inverted", x.shifts(1), 13 + 15 + 25);
        x.voice(1, 7, 20, 2, 2);
        // Backward and slow it has 62 62 60 60: at delay 0 up to -2, at 1 up to 0.
        due("backward", x.shifts(1), 11 + 13 + 25);
        x.round(4);
        // The line is always there: at delay 0 up to -2, at 1 and 2 up to 0.
        due("round", x.shifts(1), 11 + 13 + 13);
        due("shift(36, 0)", x.shift(36, 0), 2);
        due("shift(36, 1)", x.shift(36, 1), 0);
    }

    private static void shiftsAreKept() {
        CanonMaker x = new CanonMaker();
        x.note(60, 1);
        x.voice(1, 0, 0, 0, 1);
        due("shifts(1)", x.shifts(1), 50);
        x.cut(0);
        x.off(1);
        due("refused", x.shifts(1), -3);
        due("shift(49, 0)", x.shift(49, 0), 1);
        x.rules(255);
        x.voice(2, 0, 0, 0, 1);
        due("shifts(2)", x.shifts(2), 25);
        due("the latest ones", x.shift(49, 0), -1);
    }
}
