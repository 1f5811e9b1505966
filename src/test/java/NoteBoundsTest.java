/** The boundary cases of THE SUBJECT and of promises 1 to 6, a method for each sentence. */
public final class NoteBoundsTest {
    private static final Checks CHECKS = new Checks();

    private static void due(String call, int got, int want) {
        CHECKS.due(call, got, want);
    }

    public static void main(String[] args) {
        newObjectHasNoNotes();
        newObjectHasAllVoicesOffButZero();
        newObjectHasLowAndHigh();
        newObjectHasAllOfTheScale();
        newObjectHasItsBeat();
        newObjectHasNoRound();
        newObjectHasNoRules();
        atMostTwentyFourNotes();
        lengthsAreOneToSixteen();
        pitchesAreMinusTwoTo127();
        wrongBoundsComeBeforeNoRoom();
        pitchBecomesAnother();
        pitchOfNoSuchNote();
        pitchOutsideItsBounds();
        toldOfNoSuchNote();
        toldOfNoSuchWhat();
        cutKeepsTheFirst();
        cutOutsideItsBounds();
        sizeOfNoneAndOfMost();
        lastCallOfAnObject();
        CHECKS.finish();
    }

    private static void newObjectHasNoNotes() {
        CanonMaker x = new CanonMaker();
        due("size() of a new one", x.size(), 0);
        due("cut(0) of a new one", x.cut(0), 0);
        due("cut(1) of a new one", x.cut(1), -2);
        due("told(0, 0) of a new one", x.told(0, 0), -1);
        due("pitch(0, 60) of a new one", x.pitch(0, 60), -1);
        due("the first note's number", x.note(60, 1), 0);
    }

    private static void newObjectHasAllVoicesOffButZero() {
        CanonMaker x = new CanonMaker();
        x.note(60, 1);
        due("voice 0 is there", x.at(0, 0), 60);
        for (int v = 1; v <= 3; v++) {
            due("voice " + v + " is off", x.at(v, 0), 1002);
            due("off(" + v + ")", x.off(v), 0);
        }
    }

    private static void newObjectHasLowAndHigh() {
        for (int p = 0; p <= 127; p++) {
            due("SPAN of a new one at " + p, Canons.subject(1, 1, p).faults(), 0);
        }
        CanonMaker low = Canons.subject(1, 1, 0);
        low.voice(1, 0, -1, 0, 1);
        CHECKS.dueFaults("-1 is below LOW", low, new int[][] {{0, 1, 1, 1}});
        CanonMaker high = Canons.subject(1, 1, 127);
        high.voice(1, 0, 1, 0, 1);
        CHECKS.dueFaults("128 is above HIGH", high, new int[][] {{0, 1, 1, 1}});
    }

    private static void newObjectHasAllOfTheScale() {
        for (int p = 60; p < 72; p++) {
            due("SCALE of a new one at " + p, Canons.subject(2, 1, p).faults(), 0);
        }
        due("scale(1) of a new one", new CanonMaker().scale(1), 4095);
    }

    private static void newObjectHasItsBeat() {
        due("beat(1) of a new one", new CanonMaker().beat(1), 4);
        // 61 passes above a held 60 at 3, not at 4, as time 4 is a beat.
        for (int first = 3; first <= 4; first++) {
            CanonMaker x = Canons.notes(12, new int[][] {{60, first}, {61, 1}, {62, 1}});
            x.voice(1, 0, 0, 0, 3);
            due("passing at " + first, Canons.count(x, first, 4, 0, 1), first == 4 ? 1 : 0);
        }
    }

    private static void newObjectHasNoRound() {
        CanonMaker x = new CanonMaker();
        due("round(0) of a new one", x.round(0), 0);
        due("end() of a new one", x.end(), 0);
    }

    private static void newObjectHasNoRules() {
        CanonMaker x = new CanonMaker();
        x.span(0, 0);
        x.scale(0);
        x.note(60, 1);
        x.note(90, 1);
        x.voice(1, 0, 1, 0, 1);
        due("faults() without rules", x.faults(), 0);
        due("rules(0) of a new one", x.rules(0), 0);
    }

    private static void atMostTwentyFourNotes() {
        CanonMaker x = new CanonMaker();
        for (int n = 0; n < 24; n++) {
            due("note() number " + n, x.note(100 + n, 1 + n % 16), n);
        }
        due("note() without room", x.note(60, 1), -4);
        due("a rest without room", x.note(-1, 1), -4);
        due("an open one without room", x.note(-2, 1), -4);
        for (int n = 0; n < 24; n++) {
            due("told(" + n + ", 0)", x.told(n, 0), 100 + n);
            due("told(" + n + ", 1)", x.told(n, 1), 1 + n % 16);
        }
        due("told(24, 0)", x.told(24, 0), -1);
        due("cut(23)", x.cut(23), 24);
        due("note() with room for one", x.note(5, 5), 23);
        due("note() without room again", x.note(5, 5), -4);
    }

    private static void lengthsAreOneToSixteen() {
        for (int length = -3; length <= 20; length++) {
            CanonMaker x = new CanonMaker();
            boolean good = length >= 1 && length <= 16;
            due("note(60, " + length + ")", x.note(60, length), good ? 0 : -2);
            due("size() then", x.size(), good ? length : 0);
            due("told(0, 1) then", x.told(0, 1), good ? length : -1);
        }
        for (int length : new int[] {Integer.MIN_VALUE, -65535, 65537, Integer.MAX_VALUE}) {
            due("note(60, " + length + ")", new CanonMaker().note(60, length), -2);
        }
    }

    private static void pitchesAreMinusTwoTo127() {
        for (int pitch = -5; pitch <= 130; pitch++) {
            CanonMaker x = new CanonMaker();
            boolean good = pitch >= -2 && pitch <= 127;
            due("note(" + pitch + ", 1)", x.note(pitch, 1), good ? 0 : -2);
            due("size() then", x.size(), good ? 1 : 0);
            due("told(0, 0) then", x.told(0, 0), good ? pitch : -1);
        }
        for (int pitch : new int[] {Integer.MIN_VALUE, -256, 256, 65536 + 60, Integer.MAX_VALUE}) {
            due("note(" + pitch + ", 1)", new CanonMaker().note(pitch, 1), -2);
        }
    }

    private static void wrongBoundsComeBeforeNoRoom() {
        CanonMaker x = new CanonMaker();
        for (int n = 0; n < 24; n++) {
            x.note(60, 1);
        }
        due("a wrong pitch without room", x.note(128, 1), -2);
        due("another one", x.note(-3, 1), -2);
        due("a wrong length without room", x.note(60, 0), -2);
        due("another one", x.note(60, 17), -2);
        due("nothing wrong, without room", x.note(60, 16), -4);
    }

    private static void pitchBecomesAnother() {
        int[] row = {0, 127, -1, -2, 60, -2, -1, 127, 0, 0};
        CanonMaker x = new CanonMaker();
        x.note(60, 7);
        x.note(61, 8);
        int was = 60;
        for (int p : row) {
            due("pitch(0, " + p + ")", x.pitch(0, p), was);
            due("told(0, 0) then", x.told(0, 0), p);
            was = p;
        }
        due("its length stays", x.told(0, 1), 7);
        due("the other one stays", x.told(1, 0), 61);
        due("pitch(1, 62)", x.pitch(1, 62), 61);
        due("the first one stays", x.told(0, 0), 0);
    }

    private static void pitchOfNoSuchNote() {
        CanonMaker x = new CanonMaker();
        x.note(60, 1);
        x.note(61, 1);
        for (int n : new int[] {Integer.MIN_VALUE, -2, -1, 2, 23, 24, Integer.MAX_VALUE}) {
            due("pitch(" + n + ", 5)", x.pitch(n, 5), -1);
            due("pitch(" + n + ", 128): -1 fits first", x.pitch(n, 128), -1);
        }
        x.cut(1);
        due("pitch() of one that was cut", x.pitch(1, 5), -1);
        x.note(70, 1);
        due("the note of that number is another one", x.pitch(1, 71), 70);
    }

    private static void pitchOutsideItsBounds() {
        for (int p : new int[] {Integer.MIN_VALUE, -4, -3, 128, 129, Integer.MAX_VALUE}) {
            CanonMaker x = Canons.subject(0, 1, 60);
            due("pitch(0, " + p + ")", x.pitch(0, p), -2);
            due("told(0, 0) then", x.told(0, 0), 60);
        }
    }

    private static void toldOfNoSuchNote() {
        CanonMaker x = Canons.notes(0, new int[][] {{-1, 3}, {-2, 4}});
        due("told(0, 0), a rest", x.told(0, 0), -1);
        due("told(1, 0), open", x.told(1, 0), -2);
        due("told(1, 1)", x.told(1, 1), 4);
        for (int n : new int[] {Integer.MIN_VALUE, -1, 2, 24, Integer.MAX_VALUE}) {
            due("told(" + n + ", 0)", x.told(n, 0), -1);
            due("told(" + n + ", 1)", x.told(n, 1), -1);
            due("told(" + n + ", 2): -1 fits first", x.told(n, 2), -1);
        }
    }

    private static void toldOfNoSuchWhat() {
        CanonMaker x = Canons.subject(0, 5, 60);
        due("told(0, 0)", x.told(0, 0), 60);
        due("told(0, 1)", x.told(0, 1), 5);
        for (int what : new int[] {Integer.MIN_VALUE, -1, 2, 3, Integer.MAX_VALUE}) {
            due("told(0, " + what + ")", x.told(0, what), -2);
        }
    }

    private static void cutKeepsTheFirst() {
        for (int n = 0; n <= 24; n++) {
            CanonMaker x = new CanonMaker();
            for (int i = 0; i < 24; i++) {
                x.note(i, 2);
            }
            due("cut(" + n + ")", x.cut(n), 24);
            due("size() then", x.size(), 2 * n);
            due("the last one that stays", x.told(n - 1, 0), n - 1);
            due("the first one that does not", x.told(n, 0), -1);
            due("the number of the next one", x.note(99, 1), n == 24 ? -4 : n);
        }
    }

    private static void cutOutsideItsBounds() {
        CanonMaker x = Canons.subject(0, 1, 60, 61);
        for (int n : new int[] {Integer.MIN_VALUE, -1, 3, 24, 25, Integer.MAX_VALUE}) {
            due("cut(" + n + ")", x.cut(n), -2);
            due("size() then", x.size(), 2);
        }
        due("cut(2) of two", x.cut(2), 2);
        due("cut(1) of two", x.cut(1), 2);
        due("cut(2) of one", x.cut(2), -2);
        due("cut(0) of one", x.cut(0), 1);
        due("cut(0) of none", x.cut(0), 0);
        due("cut(1) of none", x.cut(1), -2);
    }

    private static void sizeOfNoneAndOfMost() {
        CanonMaker x = new CanonMaker();
        for (int n = 0; n < 24; n++) {
            due("size() of " + n, x.size(), 16 * n);
            x.note(n % 3 - 2, 16);
        }
        due("size() of 24", x.size(), 384);
        x.voice(1, 100, 0, 0, 3);
        due("size() with voices", x.size(), 384);
        x.round(5);
        due("size() with a round", x.size(), 384);
    }

    /** "An object is used for at most 512 calls": the last of them answers as the first. */
    private static void lastCallOfAnObject() {
        CanonMaker x = Canons.subject(255, 1, 60, 62);
        x.voice(1, 2, -12, 0, 1);
        for (int call = 5; call < 512; call++) {
            due("call " + call, call % 2 == 0 ? x.shifts(1) > 0 ? 1 : 0 : x.solve(3000), 1);
        }
        due("call 512", x.at(1, 3), 50);
    }
}
