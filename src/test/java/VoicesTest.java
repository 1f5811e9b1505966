/** Promises 7 to 15: voice, off, span, scale, beat, round, rules, end, at. */
public final class VoicesTest {
    private static final Checks CHECKS = new Checks();

    private static void due(String call, int got, int want) {
        CHECKS.due(call, got, want);
    }

    public static void main(String[] args) {
        voiceBounds();
        offs();
        spans();
        masksAndNumbers();
        ends();
        atPlain();
        atModes();
        atInvertedOpen();
        atRests();
        atRound();
        atLongerThanRound();
        CHECKS.finish();
    }

    private static void voiceBounds() {
        CanonMaker x = new CanonMaker();
        x.note(60, 1);
        due("voice(1, lowest)", x.voice(1, 0, -24, 0, 1), 1);
        due("voice(3, highest)", x.voice(3, 100, 24, 3, 3), 1);
        due("voice(0)", x.voice(0, 0, 0, 0, 1), -1);
        due("voice(4)", x.voice(4, 0, 0, 0, 1), -1);
        due("voice(-1), wrong too", x.voice(-1, 101, 0, 0, 1), -1);
        int[][] wrong = {{-1, 0, 0, 1}, {101, 0, 0, 1}, {0, -25, 0, 1}, {0, 25, 0, 1},
            {0, 0, -1, 1}, {0, 0, 4, 1}, {0, 0, 0, 0}, {0, 0, 0, 4}};
        for (int[] w : wrong) {
            due("voice(2, wrong)", x.voice(2, w[0], w[1], w[2], w[3]), -2);
            due("it stays off", x.off(2), 0);
            due("voice(1, wrong)", x.voice(1, w[0], w[1], w[2], w[3]), -2);
        }
        due("it stays as it was", x.at(1, 0), 36);
        due("voice(1) anew", x.voice(1, 0, 5, 0, 1), 1);
        due("it is another", x.at(1, 0), 65);
    }

    private static void offs() {
        CanonMaker x = new CanonMaker();
        x.note(60, 1);
        x.voice(2, 0, 0, 0, 1);
        due("off(2)", x.off(2), 1);
        due("off(2) again", x.off(2), 0);
        due("off(0)", x.off(0), -1);
        due("off(4)", x.off(4), -1);
        due("off(-1)", x.off(-1), -1);
        due("at(2, 0)", x.at(2, 0), 1002);
    }

    private static void spans() {
        CanonMaker x = new CanonMaker();
        x.note(60, 1);
        x.rules(1);
        due("span(60, 60)", x.span(60, 60), 1);
        due("60 is in it", x.faults(), 0);
        due("span(0, 127)", x.span(0, 127), 1);
        due("span(61, 127)", x.span(61, 127), 1);
        due("span(-1, 127)", x.span(-1, 127), -2);
        due("span(0, 128)", x.span(0, 128), -2);
        due("span(61, 60)", x.span(61, 60), -2);
        due("60 is not in it", x.faults(), 1);
    }

    private static void masksAndNumbers() {
        CanonMaker x = new CanonMaker();
        due("scale(0)", x.scale(0), 4095);
        due("scale(4096)", x.scale(4096), -2);
        due("scale(-1)", x.scale(-1), -2);
        due("scale(4095)", x.scale(4095), 0);
        due("beat(64)", x.beat(64), 4);
        due("beat(65)", x.beat(65), -2);
        due("beat(0)", x.beat(0), -2);
        due("beat(1)", x.beat(1), 64);
        due("round(400)", x.round(400), 0);
        due("round(401)", x.round(401), -2);
        due("round(-1)", x.round(-1), -2);
        due("round(0)", x.round(0), 400);
        due("rules(255)", x.rules(255), 0);
        due("rules(256)", x.rules(256), -2);
        due("rules(-1)", x.rules(-1), -2);
        due("rules(0)", x.rules(0), 255);
    }

    private static void ends() {
        CanonMaker x = new CanonMaker();
        x.note(60, 4);
        x.note(-1, 3);
        due("end() of the subject", x.end(), 7);
        x.voice(1, 2, 0, 0, 1);
        due("end() of a later line", x.end(), 9);
        x.voice(2, 1, 0, 2, 3);
        due("end() of a slower line", x.end(), 22);
        x.off(2);
        due("end() without it", x.end(), 9);
        x.round(5);
        due("end() of a round", x.end(), 5);
        x.round(400);
        due("end() of a long round", x.end(), 400);
        for (int n = 2; n < 24; n++) {
            x.note(60, 16);
        }
        x.round(0);
        x.voice(3, 100, 0, 0, 3);
        due("end() of a long subject", x.end(), 100 + 3 * 359);
    }

    private static void atPlain() {
        CanonMaker x = subject();
        int[] want = {60, 60, 64, 1000, 67, 67, 67};
        for (int t = 0; t < want.length; t++) {
            due("at(0, " + t + ")", x.at(0, t), want[t]);
        }
        due("at(0, -1)", x.at(0, -1), 1000);
        due("at(0, 7)", x.at(0, 7), 1000);
        due("at(0, MAX)", x.at(0, Integer.MAX_VALUE), 1000);
        due("at(0, MIN)", x.at(0, Integer.MIN_VALUE), 1000);
        due("at(4, 0)", x.at(4, 0), 1002);
        due("at(-1, 0)", x.at(-1, 0), 1002);
        due("at(MIN, MIN)", x.at(Integer.MIN_VALUE, Integer.MIN_VALUE), 1002);
        due("at(1, 99)", x.at(1, 99), 1002);
        x.pitch(1, -2);
        due("at() of an open note", x.at(0, 2), 1001);
    }

    private static void atModes() {
        CanonMaker x = subject();
        dueLine(x, 0, 1, new int[] {1000, 67, 67, 71, 1000, 74, 74, 74, 1000});
        dueLine(x, 1, 1, new int[] {1000, 67, 67, 63, 1000, 60, 60, 60, 1000});
        dueLine(x, 2, 1, new int[] {1000, 74, 74, 74, 1000, 71, 67, 67, 1000});
        dueLine(x, 3, 1, new int[] {1000, 60, 60, 60, 1000, 63, 67, 67, 1000});
        dueLine(x, 2, 2, new int[] {1000, 74, 74, 74, 74, 74, 74, 1000, 1000, 71, 71, 67, 67, 67, 67, 1000});
        x.cut(0);
        x.note(-1, 1);
        x.note(127, 1);
        x.note(0, 1);
        x.voice(1, 0, 24, 1, 1);
        due("beyond 127", x.at(1, 2), 278);
        x.pitch(1, 0);
        x.pitch(2, 127);
        x.voice(1, 0, -24, 1, 1);
        due("below 0", x.at(1, 2), -151);
    }

    private static void dueLine(CanonMaker x, int mode, int factor, int[] want) {
        x.voice(1, 1, 7, mode, factor);
        for (int t = 0; t < want.length; t++) {
            due("mode " + mode + " factor " + factor + " at(1, " + t + ")", x.at(1, t), want[t]);
        }
    }

    private static void atInvertedOpen() {
        CanonMaker x = new CanonMaker();
        x.note(-1, 1);
        x.note(-2, 1);
        x.note(62, 1);
        x.voice(1, 0, 0, 1, 1);
        x.voice(2, 0, 0, 2, 1);
        due("the rest of a line without C", x.at(1, 0), 1000);
        due("all else is open", x.at(1, 2), 1001);
        due("not in a line that is not inverted", x.at(2, 0), 62);
        x.pitch(1, 60);
        due("with C", x.at(1, 2), 58);
        x.pitch(2, -2);
        due("an open one with C", x.at(1, 2), 1001);
        due("C itself", x.at(1, 1), 60);
    }

    private static void atRests() {
        CanonMaker x = new CanonMaker();
        for (int n = 0; n < 24; n++) {
            x.note(-1, 1);
        }
        x.voice(1, 0, 5, 3, 2);
        x.rules(255);
        due("a line of rests", x.at(0, 23), 1000);
        due("an inverted line of rests", x.at(1, 47), 1000);
        due("no faults of rests", x.faults(), 0);
        due("shifts of rests", x.shifts(1), 625);
    }

    private static void atRound() {
        CanonMaker x = subject();
        x.voice(1, 23, 1, 0, 1);
        x.round(10);
        int[] want = {1000, 1000, 1000, 61, 61, 65, 1000, 68, 68, 68};
        for (int t = 0; t < want.length; t++) {
            due("round at(1, " + t + ")", x.at(1, t), want[t]);
        }
        due("behind the round", x.at(1, 10), 1000);
        due("before the round", x.at(1, -1), 1000);
        x.voice(1, 8, 1, 0, 1);
        int[] over = {65, 1000, 68, 68, 68, 1000, 1000, 1000, 61, 61};
        for (int t = 0; t < over.length; t++) {
            due("over the round's end at(1, " + t + ")", x.at(1, t), over[t]);
        }
    }

    private static void atLongerThanRound() {
        CanonMaker x = subject();
        x.voice(1, 1, 0, 0, 2);
        x.round(4);
        due("the first that begins, a rest too", x.at(0, 3), 1000);
        due("the first that begins", x.at(0, 0), 60);
        due("the first of a late line", x.at(1, 0), 60);
        due("the first of a slow line", x.at(1, 1), 60);
        due("faults()", x.faults(), -3);
    }

    private static CanonMaker subject() {
        CanonMaker x = new CanonMaker();
        x.note(60, 2);
        x.note(64, 1);
        x.note(-1, 1);
        x.note(67, 3);
        return x;
    }
}
