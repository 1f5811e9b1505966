/** Promises 1 to 6: a new object, note, pitch, told, cut, size. */
public final class SubjectTest {
    private static final Checks CHECKS = new Checks();

    private static void due(String call, int got, int want) {
        CHECKS.due(call, got, want);
    }

    public static void main(String[] args) {
        newObject();
        newObjectsBounds();
        notes();
        noRoom();
        pitches();
        cuts();
        objectsAreApart();
        CHECKS.finish();
    }

    private static void newObject() {
        CanonMaker x = new CanonMaker();
        due("new size()", x.size(), 0);
        due("new end()", x.end(), 0);
        due("new told(0, 0)", x.told(0, 0), -1);
        due("new at(0, 0)", x.at(0, 0), 1000);
        for (int v = 1; v < 4; v++) {
            due("new at(v, 0)", x.at(v, 0), 1002);
            due("new shifts(v)", x.shifts(v), -3);
            due("new off(v)", x.off(v), 0);
        }
        due("new steps()", x.steps(), 0);
        due("new shift(0, 0)", x.shift(0, 0), -1);
        due("new faults()", x.faults(), 0);
        due("new cut(0)", x.cut(0), 0);
        due("new scale", x.scale(0), 4095);
        due("new beat", x.beat(1), 4);
        due("new round", x.round(1), 0);
        due("new rules", x.rules(1), 0);
    }

    /** LOW 0 and HIGH 127 show in what SPAN tells and in how many steps a search has. */
    private static void newObjectsBounds() {
        CanonMaker x = new CanonMaker();
        x.rules(1);
        x.note(0, 1);
        x.note(127, 1);
        due("0 and 127 are in the new span", x.faults(), 0);
        x.voice(1, 0, 1, 0, 1);
        due("128 is not", x.faults(), 1);
        x.voice(1, 0, -1, 0, 1);
        due("-1 is not", x.faults(), 1);
        x.off(1);
        x.rules(2);
        x.scale(0);
        x.cut(0);
        x.note(-2, 1);
        due("no pitch is in an empty scale", x.solve(3000), 0);
        due("all 128 pitches were tried", x.steps(), 128);
    }

    private static void notes() {
        CanonMaker x = new CanonMaker();
        due("note(0, 1)", x.note(0, 1), 0);
        due("note(127, 16)", x.note(127, 16), 1);
        due("note(-1, 2)", x.note(-1, 2), 2);
        due("note(-2, 3)", x.note(-2, 3), 3);
        due("note(128, 1)", x.note(128, 1), -2);
        due("note(-3, 1)", x.note(-3, 1), -2);
        due("note(60, 0)", x.note(60, 0), -2);
        due("note(60, 17)", x.note(60, 17), -2);
        due("note(60, -1)", x.note(60, -1), -2);
        due("note(MAX, MIN)", x.note(Integer.MAX_VALUE, Integer.MIN_VALUE), -2);
        due("size()", x.size(), 22);
        int[][] want = {{0, 1}, {127, 16}, {-1, 2}, {-2, 3}};
        for (int n = 0; n < want.length; n++) {
            due("told(n, 0)", x.told(n, 0), want[n][0]);
            due("told(n, 1)", x.told(n, 1), want[n][1]);
        }
        due("told(0, 2)", x.told(0, 2), -2);
        due("told(0, -1)", x.told(0, -1), -2);
        due("told(4, 0)", x.told(4, 0), -1);
        due("told(4, 2)", x.told(4, 2), -1);
        due("told(-1, 0)", x.told(-1, 0), -1);
        due("told(MIN, MAX)", x.told(Integer.MIN_VALUE, Integer.MAX_VALUE), -1);
    }

    private static void noRoom() {
        CanonMaker x = new CanonMaker();
        for (int n = 0; n < 24; n++) {
            due("note " + n, x.note(n, 16), n);
        }
        due("the 25th", x.note(60, 1), -4);
        due("the 25th, wrong too", x.note(60, 17), -2);
        due("size() of 24", x.size(), 384);
        due("told(23, 0)", x.told(23, 0), 23);
        due("told(24, 0)", x.told(24, 0), -1);
        due("cut(23)", x.cut(23), 24);
        due("room again", x.note(60, 1), 23);
    }

    private static void pitches() {
        CanonMaker x = new CanonMaker();
        x.note(60, 4);
        due("pitch(0, -1)", x.pitch(0, -1), 60);
        due("pitch(0, -2)", x.pitch(0, -2), -1);
        due("pitch(0, 127)", x.pitch(0, 127), -2);
        due("pitch(0, 0)", x.pitch(0, 0), 127);
        due("pitch(0, 128)", x.pitch(0, 128), -2);
        due("pitch(0, -3)", x.pitch(0, -3), -2);
        due("pitch(1, 60)", x.pitch(1, 60), -1);
        due("pitch(-1, 128)", x.pitch(-1, 128), -1);
        due("it stays", x.told(0, 0), 0);
        due("its length stays", x.told(0, 1), 4);
    }

    private static void cuts() {
        CanonMaker x = new CanonMaker();
        x.note(60, 1);
        x.note(61, 2);
        x.note(62, 4);
        due("cut(-1)", x.cut(-1), -2);
        due("cut(4)", x.cut(4), -2);
        due("cut(3)", x.cut(3), 3);
        due("cut(2)", x.cut(2), 3);
        due("size()", x.size(), 3);
        due("told(2, 0)", x.told(2, 0), -1);
        due("told(1, 0)", x.told(1, 0), 61);
        due("a note behind the cut", x.note(70, 5), 2);
        due("told(2, 1)", x.told(2, 1), 5);
        due("cut(0)", x.cut(0), 3);
        due("size() of none", x.size(), 0);
    }

    private static void objectsAreApart() {
        CanonMaker x = new CanonMaker();
        CanonMaker y = new CanonMaker();
        x.note(60, 4);
        x.voice(1, 1, 1, 1, 1);
        due("the other one's size()", y.size(), 0);
        due("the other one's voice", y.off(1), 0);
    }
}
