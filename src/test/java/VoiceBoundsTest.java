/** The boundary cases of VOICES and TIMES and of promises 7 to 15, a method for each sentence. */
public final class VoiceBoundsTest {
    private static final Checks CHECKS = new Checks();
    private static final int[] FAR = {Integer.MIN_VALUE, Integer.MIN_VALUE + 1, Integer.MAX_VALUE - 1, Integer.MAX_VALUE};

    private static void due(String call, int got, int want) {
        CHECKS.due(call, got, want);
    }

    public static void main(String[] args) {
        voicesAreOneToThree();
        delays();
        intervals();
        modes();
        factors();
        voiceIsToldAnew();
        offs();
        spans();
        scales();
        beats();
        rounds();
        rulesMasks();
        pitchesBeyond();
        centreIsTheFirstThatIsNoRest();
        centreIsOpen();
        centreIsMissing();
        endIsWhereTheLastLineEnds();
        endOfARound();
        timesThatThereAreNot();
        voicesThatThereAreNot();
        silence();
        linesComeAgain();
        lineLongerThanTheRound();
        roundOfOne();
        CHECKS.finish();
    }

    private static void voicesAreOneToThree() {
        for (int v = -2; v <= 5; v++) {
            CanonMaker x = Canons.subject(0, 1, 60);
            boolean good = v >= 1 && v <= 3;
            due("voice(" + v + ")", x.voice(v, 0, 1, 0, 1), good ? 1 : -1);
            due("wrong too: -1 fits first", x.voice(v, 101, 25, 4, 4), good ? -2 : -1);
            due("voice 0 stays", x.at(0, 0), 60);
            for (int w = 1; w <= 3; w++) {
                due("voice " + w + " after voice(" + v + ")", x.at(w, 0), w == v ? 61 : 1002);
            }
        }
        for (int v : FAR) {
            due("voice(" + v + ")", new CanonMaker().voice(v, 0, 0, 0, 1), -1);
        }
    }

    private static void delays() {
        for (int delay : new int[] {Integer.MIN_VALUE, -1, 0, 1, 99, 100, 101, Integer.MAX_VALUE}) {
            CanonMaker x = Canons.subject(0, 1, 60);
            boolean good = delay >= 0 && delay <= 100;
            due("delay " + delay, x.voice(2, delay, 0, 0, 1), good ? 1 : -2);
            due("end() then", x.end(), good ? delay + 1 : 1);
            due("the voice then", x.off(2), good ? 1 : 0);
        }
    }

    private static void intervals() {
        for (int interval : new int[] {Integer.MIN_VALUE, -25, -24, -23, 0, 23, 24, 25, Integer.MAX_VALUE}) {
            CanonMaker x = Canons.subject(0, 1, 60);
            boolean good = interval >= -24 && interval <= 24;
            due("interval " + interval, x.voice(3, 0, interval, 0, 1), good ? 1 : -2);
            due("at() then", x.at(3, 0), good ? 60 + interval : 1002);
        }
    }

    private static void modes() {
        // By mode what is at 0, 1 and 2: neither, inverted, backward, both.
        int[][] want = {{60, 61, 63}, {60, 59, 57}, {63, 61, 60}, {57, 59, 60}};
        for (int mode = -2; mode <= 5; mode++) {
            CanonMaker x = Canons.subject(0, 1, 60, 61, 63);
            boolean good = mode >= 0 && mode <= 3;
            due("mode " + mode, x.voice(1, 0, 0, mode, 1), good ? 1 : -2);
            for (int t = 0; t < 3; t++) {
                due("mode " + mode + " at(1, " + t + ")", x.at(1, t), good ? want[mode][t] : 1002);
            }
        }
        for (int mode : FAR) {
            due("mode " + mode, new CanonMaker().voice(1, 0, 0, mode, 1), -2);
        }
    }

    private static void factors() {
        for (int factor = -2; factor <= 5; factor++) {
            CanonMaker x = Canons.subject(0, 16, 60, 61);
            boolean good = factor >= 1 && factor <= 3;
            due("factor " + factor, x.voice(1, 5, 0, 0, factor), good ? 1 : -2);
            due("end() then", x.end(), good ? 5 + 32 * factor : 32);
            if (good) {
                due("before it", x.at(1, 4), 1000);
                due("its first time", x.at(1, 5), 60);
                due("the first note's last time", x.at(1, 4 + 16 * factor), 60);
                due("the second one's first", x.at(1, 5 + 16 * factor), 61);
                due("its last time", x.at(1, 4 + 32 * factor), 61);
                due("behind it", x.at(1, 5 + 32 * factor), 1000);
            }
        }
        for (int factor : FAR) {
            due("factor " + factor, new CanonMaker().voice(1, 0, 0, 0, factor), -2);
        }
    }

    private static void voiceIsToldAnew() {
        CanonMaker x = Canons.subject(0, 1, 60, 64);
        due("voice(1)", x.voice(1, 9, 9, 3, 3), 1);
        due("voice(1) anew", x.voice(1, 0, 0, 0, 1), 1);
        due("end()", x.end(), 2);
        due("at(1, 0)", x.at(1, 0), 60);
        due("at(1, 1)", x.at(1, 1), 64);
        due("off(1)", x.off(1), 1);
        due("voice(1) again", x.voice(1, 1, 1, 0, 1), 1);
        due("at(1, 2)", x.at(1, 2), 65);
    }

    private static void offs() {
        for (int v = -2; v <= 5; v++) {
            CanonMaker x = Canons.subject(0, 1, 60);
            for (int w = 1; w <= 3; w++) {
                x.voice(w, w, 0, 0, 1);
            }
            boolean good = v >= 1 && v <= 3;
            due("off(" + v + ")", x.off(v), good ? 1 : -1);
            due("off(" + v + ") again", x.off(v), good ? 0 : -1);
            due("voice 0 stays", x.at(0, 0), 60);
            for (int w = 1; w <= 3; w++) {
                due("voice " + w + " then", x.at(w, w), w == v ? 1002 : 60);
            }
            due("end() then", x.end(), v == 3 ? 3 : 4);
        }
        for (int v : FAR) {
            due("off(" + v + ")", new CanonMaker().off(v), -1);
        }
    }

    private static void spans() {
        int[][] spans = {{0, 127, 1}, {0, 0, 1}, {127, 127, 1}, {60, 61, 1}, {-1, 127, -2}, {-1, -1, -2}, {0, 128, -2},
            {128, 128, -2}, {61, 60, -2}, {127, 0, -2}, {Integer.MIN_VALUE, Integer.MAX_VALUE, -2},
            {Integer.MAX_VALUE, Integer.MIN_VALUE, -2}};
        for (int[] s : spans) {
            for (int p = 0; p <= 127; p++) {
                CanonMaker x = Canons.subject(1, 1, p);
                x.span(50, 70);
                due("span(" + s[0] + ", " + s[1] + ")", x.span(s[0], s[1]), s[2]);
                int low = s[2] == 1 ? s[0] : 50;
                int high = s[2] == 1 ? s[1] : 70;
                due("faults() of " + p + " then", x.faults(), p < low || p > high ? 1 : 0);
            }
        }
    }

    private static void scales() {
        int was = 4095;
        CanonMaker x = new CanonMaker();
        for (int mask : new int[] {0, -1, 4095, 4096, 1, 2048, 8191, Integer.MIN_VALUE, 2741, Integer.MAX_VALUE, 0}) {
            boolean good = mask >= 0 && mask <= 4095;
            due("scale(" + mask + ")", x.scale(mask), good ? was : -2);
            was = good ? mask : was;
        }
    }

    private static void beats() {
        int was = 4;
        CanonMaker x = new CanonMaker();
        for (int n : new int[] {0, 1, -1, 64, 65, 63, Integer.MIN_VALUE, 2, Integer.MAX_VALUE, 4, 4}) {
            boolean good = n >= 1 && n <= 64;
            due("beat(" + n + ")", x.beat(n), good ? was : -2);
            was = good ? n : was;
        }
    }

    private static void rounds() {
        int was = 0;
        CanonMaker x = new CanonMaker();
        for (int n : new int[] {0, -1, 1, 400, 401, 399, Integer.MIN_VALUE, 2, Integer.MAX_VALUE, 0, 0}) {
            boolean good = n >= 0 && n <= 400;
            due("round(" + n + ")", x.round(n), good ? was : -2);
            was = good ? n : was;
            due("end() then", x.end(), was);
        }
    }

    private static void rulesMasks() {
        int was = 0;
        CanonMaker x = new CanonMaker();
        for (int mask : new int[] {0, -1, 255, 256, 1, 128, 8, Integer.MIN_VALUE, 511, 254, Integer.MAX_VALUE, 0}) {
            boolean good = mask >= 0 && mask <= 255;
            due("rules(" + mask + ")", x.rules(mask), good ? was : -2);
            was = good ? mask : was;
        }
    }

    /** "They may lie beyond 0 .. 127." */
    private static void pitchesBeyond() {
        CanonMaker x = Canons.subject(0, 1, 127, 0);
        x.voice(1, 0, 24, 0, 1);
        x.voice(2, 0, 24, 1, 1);
        x.voice(3, 0, -24, 0, 1);
        due("127 and 24", x.at(1, 0), 151);
        due("2 * 127 less 0, and 24", x.at(2, 1), 278);
        due("0 less 24", x.at(3, 1), -24);
        x.pitch(0, 0);
        x.pitch(1, 127);
        x.voice(1, 0, -24, 1, 1);
        due("2 * 0 less 127, less 24", x.at(1, 1), -151);
    }

    /** Also where the line is backward: C is the subject's, not the line's first one. */
    private static void centreIsTheFirstThatIsNoRest() {
        for (int mode = 1; mode <= 3; mode += 2) {
            CanonMaker x = Canons.subject(0, 1, -1, -1, 60, 64, -1);
            x.voice(1, 0, 1, mode, 1);
            int[] want = {1000, 1000, 61, 57, 1000};
            for (int t = 0; t < 5; t++) {
                due("mode " + mode + " at(1, " + t + ")", x.at(1, t), want[mode == 3 ? 4 - t : t]);
            }
        }
    }

    private static void centreIsOpen() {
        CanonMaker x = Canons.subject(0, 1, -1, -2, 64, -1);
        x.voice(1, 0, 0, 1, 1);
        x.voice(2, 0, 0, 3, 1);
        x.voice(3, 0, 0, 2, 1);
        int[] want = {1000, 1001, 1001, 1000};
        int[] backward = {1000, 64, 1001, 1000};
        for (int t = 0; t < 4; t++) {
            due("inverted at(1, " + t + ")", x.at(1, t), want[t]);
            due("both at(2, " + t + ")", x.at(2, t), want[3 - t]);
            due("backward at(3, " + t + ")", x.at(3, t), backward[t]);
        }
        due("the subject itself", x.at(0, 2), 64);
        x.pitch(1, -1);
        due("64 is C now", x.at(1, 2), 64);
        x.pitch(1, 60);
        due("60 is C now", x.at(1, 2), 56);
        x.pitch(2, -2);
        due("open behind C", x.at(1, 2), 1001);
        due("C itself", x.at(1, 1), 60);
    }

    private static void centreIsMissing() {
        CanonMaker x = Canons.subject(255, 3, -1, -1);
        x.voice(1, 0, 5, 1, 2);
        x.voice(2, 1, 5, 3, 1);
        for (int t = 0; t < 12; t++) {
            due("at(1, " + t + ") of rests", x.at(1, t), 1000);
            due("at(2, " + t + ") of rests", x.at(2, t), 1000);
        }
        due("end() of rests", x.end(), 12);
        due("faults() of rests", x.faults(), 0);
        CanonMaker most = new CanonMaker();
        for (int n = 0; n < 24; n++) {
            most.note(-1, 1);
        }
        most.voice(1, 0, 5, 1, 1);
        due("at(1, 23) of 24 rests", most.at(1, 23), 1000);
        due("at(1, 0) of 24 rests", most.at(1, 0), 1000);
        most.pitch(23, 60);
        due("the last one is C", most.at(1, 23), 65);
    }

    private static void endIsWhereTheLastLineEnds() {
        CanonMaker x = new CanonMaker();
        due("end() of nothing", x.end(), 0);
        x.note(-1, 1);
        due("end() of a rest", x.end(), 1);
        x.cut(0);
        x.note(60, 2);
        x.voice(1, 1, 0, 0, 1);
        due("the later line", x.end(), 3);
        x.voice(2, 0, 0, 0, 2);
        due("the slower line", x.end(), 4);
        x.voice(3, 4, 0, 0, 1);
        due("the last line", x.end(), 6);
        x.voice(3, 0, 0, 0, 1);
        due("all others", x.end(), 4);
        x.off(2);
        due("without the slower line", x.end(), 3);
        x.off(1);
        due("without the later line", x.end(), 2);
        CanonMaker most = new CanonMaker();
        for (int n = 0; n < 24; n++) {
            most.note(60, 16);
        }
        most.voice(1, 100, 0, 0, 3);
        due("the latest end", most.end(), 1252);
        due("its last time", most.at(1, 1251), 60);
        due("behind it", most.at(1, 1252), 1000);
        due("the subject there", most.at(0, 1251), 1000);
    }

    private static void endOfARound() {
        for (int r : new int[] {1, 2, 7, 8, 9, 399, 400}) {
            CanonMaker x = Canons.subject(0, 4, 60, 61);
            x.voice(1, 100, 0, 0, 3);
            x.round(r);
            due("end() of a round of " + r, x.end(), r);
            due("the last time", x.at(0, r - 1) == 1000 ? 1 : 0, r > 8 ? 1 : 0);
            due("behind it", x.at(0, r), 1000);
            x.cut(0);
            due("end() of a round of nothing", x.end(), r);
            x.round(0);
            x.off(1);
            due("end() without it", x.end(), 0);
        }
    }

    private static void timesThatThereAreNot() {
        CanonMaker x = Canons.subject(0, 2, 60);
        for (int r : new int[] {0, 2}) {
            x.round(r);
            due("at(0, 0)", x.at(0, 0), 60);
            due("at(0, 1)", x.at(0, 1), 60);
            for (int t : new int[] {Integer.MIN_VALUE, -2, -1, 2, 3, 4, 400, Integer.MAX_VALUE}) {
                due("at(0, " + t + ") with a round of " + r, x.at(0, t), 1000);
            }
        }
        due("nothing has no time 0", new CanonMaker().at(0, 0), 1000);
    }

    private static void voicesThatThereAreNot() {
        CanonMaker x = Canons.subject(0, 1, 60);
        x.voice(3, 0, 0, 0, 1);
        for (int v : new int[] {Integer.MIN_VALUE, -1, 4, Integer.MAX_VALUE, 1, 2}) {
            for (int t : new int[] {Integer.MIN_VALUE, -1, 0, 1, Integer.MAX_VALUE}) {
                due("at(" + v + ", " + t + ")", x.at(v, t), 1002);
            }
        }
        due("at(3, 0)", x.at(3, 0), 60);
        due("a voice that is off at nothing's time 0", new CanonMaker().at(1, 0), 1002);
    }

    private static void silence() {
        CanonMaker x = Canons.notes(0, new int[][] {{-1, 2}, {60, 1}, {-1, 1}, {-2, 1}, {-1, 1}});
        x.voice(1, 2, 0, 0, 1);
        int[] want = {1000, 1000, 60, 1000, 1001, 1000};
        for (int t = 0; t < 8; t++) {
            due("at(0, " + t + ")", x.at(0, t), t < 6 ? want[t] : 1000);
            due("at(1, " + t + ")", x.at(1, t), t >= 2 ? want[t - 2] : 1000);
        }
    }

    /** "Each LINE comes again each r units": also before its delay, and for delays above the round. */
    private static void linesComeAgain() {
        int[] line = {60, 60, 61, 1000, 62};
        for (int r = 5; r <= 8; r++) {
            for (int delay = 0; delay <= 100; delay += delay < 20 ? 1 : 7) {
                CanonMaker x = Canons.notes(0, new int[][] {{60, 2}, {61, 1}, {-1, 1}, {62, 1}});
                x.voice(1, delay, 3, 0, 1);
                x.round(r);
                for (int i = 0; i < r; i++) {
                    int want = i >= line.length || line[i] == 1000 ? 1000 : line[i] + 3;
                    due("round " + r + " delay " + delay + " place " + i, x.at(1, (delay + i) % r), want);
                    due("the subject at " + i, x.at(0, i), i < line.length ? line[i] : 1000);
                }
            }
        }
    }

    /** "Also where a LINE is longer than the ROUND: the NOTE that began first." */
    private static void lineLongerThanTheRound() {
        int[] line = {60, 60, 61, 1000, 62};
        for (int r = 1; r < 5; r++) {
            for (int delay = 0; delay <= 9; delay++) {
                CanonMaker x = Canons.notes(0, new int[][] {{60, 2}, {61, 1}, {-1, 1}, {62, 1}});
                x.voice(1, delay, 3, 0, 1);
                x.round(r);
                for (int i = 0; i < r; i++) {
                    int want = line[i] == 1000 ? 1000 : line[i] + 3;
                    due("round " + r + " delay " + delay + " place " + i, x.at(1, (delay + i) % r), want);
                }
            }
        }
        CanonMaker slow = Canons.subject(0, 16, 60, 61);
        slow.voice(1, 100, 0, 2, 3);
        slow.round(49);
        due("48 units of the last note", slow.at(1, (100 + 47) % 49), 61);
        due("then one of the first note", slow.at(1, (100 + 48) % 49), 60);
        slow.round(48);
        due("only the last note", slow.at(1, (100 + 47) % 48), 61);
    }

    private static void roundOfOne() {
        CanonMaker x = Canons.subject(255, 1, 60);
        x.round(1);
        for (int delay : new int[] {0, 1, 99, 100}) {
            x.voice(1, delay, -12, 0, 1);
            due("at(1, 0)", x.at(1, 0), 48);
            due("faults()", x.faults(), 0);
        }
        due("at(0, 1)", x.at(0, 1), 1000);
        for (int delay : new int[] {0, 1, 99, 100}) {
            x.voice(1, delay, 1, 0, 1);
            CHECKS.dueFaults("of one time", x, new int[][] {{0, 4, 0, 1}, {0, 64, 0, 1}});
            x.span(0, 60);
            CHECKS.dueFaults("struck at it", x, new int[][] {{0, 1, 1, 1}, {0, 4, 0, 1}, {0, 64, 0, 1}});
            x.span(0, 127);
        }
        x.voice(1, 0, 1, 0, 2);
        due("a line of two", x.faults(), -3);
    }
}
