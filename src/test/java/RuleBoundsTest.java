/** The boundary cases of RULES and FAULTS and of promises 16 and 17, a method for each sentence. */
public final class RuleBoundsTest {
    private static final Checks CHECKS = new Checks();
    private static final int[][] NONE = {};

    private static void due(String call, int got, int want) {
        CHECKS.due(call, got, want);
    }

    private static void dueFaults(String name, CanonMaker x, int[]... want) {
        CHECKS.dueFaults(name, x, want);
    }

    private static int[] f(int time, int rule, int a, int b) {
        return new int[] {time, rule, a, b};
    }

    public static void main(String[] args) {
        onlyRulesThatAreOn();
        spanOfLines();
        onceWhereItIsStruck();
        scaleModuloTwelve();
        leapsByDistance();
        leapsNeedOneBefore();
        leapsInARound();
        consonanceByDistance();
        consonanceWhereOneIsStruck();
        fourthAboveAnother();
        fourthAboveAnyOther();
        fourthNeedsAllPitches();
        passingOffTheBeat();
        passingInSteps();
        passingOfBoth();
        passingInARound();
        movesOfTwo();
        movesNeedFourPitches();
        movesFromSilence();
        movesInARound();
        crossing();
        bothHaveANote();
        orderOfRules();
        orderOfTimesInARound();
        lineAsLongAsTheRound();
        refusalsInTheirOrder();
        CHECKS.finish();
    }

    /** One canon that breaks each rule, with one rule on at a time. */
    private static void onlyRulesThatAreOn() {
        for (int mask = 0; mask <= 255; mask++) {
            CanonMaker x = Canons.subject(mask, 1, 60, 73, 60);
            x.span(0, 60);
            x.scale(1);
            x.voice(1, 0, 12, 0, 1);
            x.voice(2, 0, 1, 0, 1);
            x.beat(64);
            int all = x.faults();
            for (int k = 0; k < all; k++) {
                int rule = x.fault(k, 1);
                due("rule " + rule + " of mask " + mask, rule & mask, rule);
                due("PASSING is none's rule", rule == 8 ? 1 : 0, 0);
            }
            due("mask " + mask + " has faults", all > 0 ? 1 : 0, (mask & (1 | 2 | 4 | 16 | 64 | 128)) != 0 ? 1 : 0);
        }
    }

    private static void spanOfLines() {
        for (int interval = -24; interval <= 24; interval++) {
            CanonMaker x = Canons.subject(1, 1, 60);
            x.span(50, 70);
            x.voice(2, 0, interval, 0, 1);
            boolean good = interval >= -10 && interval <= 10;
            dueFaults("SPAN with " + interval, x, good ? NONE : new int[][] {f(0, 1, 2, 2)});
        }
    }

    private static void onceWhereItIsStruck() {
        CanonMaker x = Canons.subject(3, 16, 60, 60);
        x.span(61, 61);
        x.scale(2);
        x.voice(3, 7, 0, 0, 3);
        dueFaults("long notes", x, f(0, 1, 0, 0), f(0, 2, 0, 0), f(7, 1, 3, 3), f(7, 2, 3, 3),
            f(16, 1, 0, 0), f(16, 2, 0, 0), f(55, 1, 3, 3), f(55, 2, 3, 3));
        x.round(96);
        due("in a round", x.faults(), 8);
    }

    /** The inverted line goes from -151 to 278. */
    private static void scaleModuloTwelve() {
        for (int pitch = -151; pitch <= 278; pitch++) {
            int c = pitch < 0 ? 0 : 127;
            int over = 2 * c - pitch;
            int p = Math.max(0, Math.min(127, over));
            int interval = over - p;
            if (Math.abs(interval) > 24) {
                continue;
            }
            CanonMaker x = Canons.subject(2, 1, c, p);
            x.voice(1, 0, -interval, 1, 1);
            due("the line has " + pitch, x.at(1, 1), pitch);
            int k = ((pitch % 12) + 12) % 12;
            x.scale(1 << k);
            due("SCALE of " + k + " with " + pitch, Canons.count(x, 1, 2, 1, 1), 0);
            x.scale(4095 - (1 << k));
            due("SCALE without " + k + " with " + pitch, Canons.count(x, 1, 2, 1, 1), 1);
        }
    }

    private static void leapsByDistance() {
        for (int d = 0; d <= 127; d++) {
            boolean good = d <= 12 && d != 6 && d != 10 && d != 11;
            int[][] want = good ? NONE : new int[][] {f(2, 128, 0, 0)};
            dueFaults(d + " up", Canons.subject(128, 2, 0, d), want);
            dueFaults(d + " down", Canons.subject(128, 2, d, 0), want);
        }
    }

    private static void leapsNeedOneBefore() {
        dueFaults("a first note", Canons.subject(128, 1, 127), NONE);
        dueFaults("a rest between", Canons.subject(128, 1, 60, -1, 90), NONE);
        dueFaults("an open one between", Canons.subject(128, 1, 60, -2, 90), NONE);
        dueFaults("an open one before", Canons.subject(128, 1, -2, 90), NONE);
        dueFaults("an open one behind", Canons.subject(128, 1, 90, -2), NONE);
        CanonMaker x = Canons.subject(128, 1, 60, 73, -2);
        x.voice(1, 3, 0, 2, 2);
        dueFaults("backward", x, f(1, 128, 0, 0), f(7, 128, 1, 1));
        CanonMaker open = Canons.subject(128, 1, -2, 60, 73);
        open.voice(1, 0, 0, 1, 1);
        dueFaults("an inverted line with an open C", open, f(2, 128, 0, 0));
    }

    private static void leapsInARound() {
        CanonMaker x = Canons.subject(128, 1, 60, 65, 66);
        for (int r = 2; r <= 5; r++) {
            x.round(r);
            int[][] want = r == 3 ? new int[][] {f(0, 128, 0, 0)} : NONE;
            due("round " + r, x.faults(), r == 2 ? -3 : want.length);
        }
        x.round(6);
        x.voice(1, 4, 0, 0, 2);
        dueFaults("the slow line is as long as the round", x, f(4, 128, 1, 1));
        x.voice(1, 4, 0, 2, 2);
        dueFaults("backward 60 is before 66", x, f(4, 128, 1, 1));
        x.round(7);
        dueFaults("neither is", x, NONE);
        CanonMaker last = Canons.subject(128, 1, 60, 65, 66, -1);
        last.round(4);
        dueFaults("the last one is a rest", last, NONE);
        CanonMaker first = Canons.subject(128, 1, -1, 60, 65, 66);
        first.round(4);
        dueFaults("the first one is a rest", first, NONE);
        CanonMaker open = Canons.subject(128, 1, 60, 65, -2);
        open.round(3);
        dueFaults("the last one is open", open, NONE);
    }

    private static boolean isDissonant(int far) {
        int k = far % 12;
        return k == 1 || k == 2 || k == 5 || k == 6 || k == 10 || k == 11;
    }

    private static void consonanceByDistance() {
        for (int far = 0; far <= 151; far++) {
            int interval = Math.max(0, far - 127);
            int other = far - interval;
            CanonMaker up = Canons.subject(4, 1, 0, other);
            up.voice(1, 0, interval, 2, 1);
            due(far + " above", Canons.count(up, 0, 4, 0, 1), isDissonant(far) ? 1 : 0);
            CanonMaker down = Canons.subject(4, 1, other, 0);
            down.voice(3, 0, -interval, 2, 1);
            due(far + " below", Canons.count(down, 0, 4, 0, 3), isDissonant(far) ? 1 : 0);
        }
    }

    private static void consonanceWhereOneIsStruck() {
        CanonMaker x = Canons.subject(4, 6, 60);
        x.voice(1, 2, 1, 0, 1);
        dueFaults("the later one is struck", x, f(2, 4, 0, 1));
        x.voice(1, 5, 1, 0, 1);
        dueFaults("at the last time", x, f(5, 4, 0, 1));
        x.voice(1, 6, 1, 0, 1);
        dueFaults("behind it", x, NONE);
        x.round(7);
        dueFaults("it wraps around: at 6 voice 0 is silent, at 0 it is struck", x, f(0, 4, 0, 1));
    }

    private static void fourthAboveAnother() {
        for (int low = -24; low <= 24; low++) {
            CanonMaker x = Canons.subject(4, 1, 60);
            x.voice(1, 0, 5, 0, 1);
            x.voice(3, 0, low, 0, 1);
            due("a fourth with another at " + low, Canons.count(x, 0, 4, 0, 1), low < 0 ? 0 : 1);
        }
        CanonMaker wide = Canons.subject(4, 1, 60);
        wide.voice(1, 0, -17, 0, 1);
        due("17 is 5 modulo 12", Canons.count(wide, 0, 4, 0, 1), 1);
        wide.voice(2, 0, -18, 0, 1);
        due("with one below", Canons.count(wide, 0, 4, 0, 1), 0);
        wide.voice(2, 0, -17, 0, 1);
        due("with one as low", Canons.count(wide, 0, 4, 0, 1), 1);
        wide.voice(2, 0, -16, 0, 1);
        due("with one between", Canons.count(wide, 0, 4, 0, 1), 1);
        wide.voice(2, 1, -24, 0, 1);
        due("with one that comes later", Canons.count(wide, 0, 4, 0, 1), 1);
        CanonMaker six = Canons.subject(4, 1, 60);
        six.voice(1, 0, 6, 0, 1);
        six.voice(2, 0, -24, 0, 1);
        due("6 is never good", Canons.count(six, 0, 4, 0, 1), 1);
        CanonMaker held = Canons.subject(4, 4, 60, 65);
        held.voice(1, 4, 0, 0, 1);
        held.voice(2, 3, -12, 0, 1);
        due("a held one below is enough", Canons.count(held, 4, 4, 0, 1), 0);
    }

    /** Told by the intervals of voices 1 to 3, the two that are a fourth apart, and which one is below. */
    private static void fourthAboveAnyOther() {
        int[][] rows = {{12, 17, 17, 1, 2, 0}, {-20, 0, 5, 2, 3, 1}, {-20, 0, 5, 0, 3, 1}, {5, -20, 0, 0, 1, 2},
            {5, -20, 0, 1, 3, 2}, {5, 0, -20, 0, 1, 3}, {5, 0, -20, 1, 2, 3}};
        for (int[] row : rows) {
            CanonMaker x = Canons.subject(4, 1, 60);
            for (int v = 1; v <= 3; v++) {
                x.voice(v, 0, row[v - 1], 0, 1);
            }
            String name = "a fourth of " + row[3] + " and " + row[4];
            due(name, Math.abs(x.at(row[3], 0) - x.at(row[4], 0)), 5);
            due(name + " above " + row[5], Canons.count(x, 0, 4, row[3], row[4]), 0);
        }
    }

    /** At 0 voice 0 has 60, voice 1 has 65, voice 2 the subject's last note. */
    private static void fourthNeedsAllPitches() {
        int[] last = {-2, -1, 59, 60, 61};
        int[] want = {0, 1, 0, 1, 1};
        for (int i = 0; i < last.length; i++) {
            CanonMaker x = Canons.subject(4, 1, 60, 70, last[i]);
            x.voice(1, 0, 5, 0, 1);
            x.voice(2, 0, 0, 2, 1);
            due("a fourth with " + last[i], Canons.count(x, 0, 4, 0, 1), want[i]);
            x.voice(1, 0, 6, 0, 1);
            due("6 needs no other: " + last[i], Canons.count(x, 0, 4, 0, 1), 1);
        }
        CanonMaker both = Canons.subject(4, 1, 60, 70, -2);
        both.voice(1, 0, 5, 0, 1);
        both.voice(2, 0, 0, 2, 1);
        both.voice(3, 0, -1, 0, 1);
        due("one below, one open", Canons.count(both, 0, 4, 0, 1), 0);
    }

    /** 61 passes at a time above a held 60, from 60 to 62. */
    private static void passingOffTheBeat() {
        for (int beat = 1; beat <= 64; beat++) {
            for (int time = 1; time <= 16; time++) {
                CanonMaker x = Canons.notes(12, new int[][] {{60, time}, {61, 1}, {62, 1}});
                x.voice(1, 0, 0, 0, 3);
                x.beat(beat);
                due("beat " + beat + " at " + time, Canons.count(x, time, 4, 0, 1), time % beat == 0 ? 1 : 0);
                x.rules(4);
                due("without PASSING at " + time, Canons.count(x, time, 4, 0, 1), 1);
            }
        }
        CanonMaker zero = Canons.subject(12, 2, 61, 62, 60);
        zero.voice(1, 1, -1, 0, 1);
        zero.beat(64);
        zero.round(6);
        // At 0 61 comes from 60 and goes on to 62, above a held 59.
        due("the dissonance at 0", zero.at(1, 0), 59);
        due("time 0 is a beat", Canons.count(zero, 0, 4, 0, 1), 1);
    }

    private static void passingInSteps() {
        for (int first = -4; first <= 4; first++) {
            for (int second = -4; second <= 4; second++) {
                CanonMaker x = Canons.subject(12, 1, 60 - first, 60, 60 + second);
                x.voice(1, 0, 1 + first, 0, 3);
                boolean up = first >= 1 && first <= 2 && second >= 1 && second <= 2;
                boolean down = first <= -1 && first >= -2 && second <= -1 && second >= -2;
                due("61 is held", x.at(1, 2), 61);
                due("steps " + first + ", " + second, Canons.count(x, 1, 4, 0, 1), up || down ? 0 : 1);
            }
        }
        int[][] around = {{-1, 62}, {59, -1}, {-1, -1}, {-2, 61}, {59, -2}, {-2, -2}, {-2, 90}, {30, -2}};
        int[] want = {1, 1, 1, 0, 0, 0, 0, 0};
        for (int i = 0; i < want.length; i++) {
            CanonMaker x = Canons.notes(12, new int[][] {{61, 1}, {-1, 1}, {around[i][0], 1}, {60, 1}, {around[i][1], 1}});
            x.voice(1, 2, 0, 0, 3);
            x.beat(64);
            due("61 is held at 3", x.at(1, 3), 61);
            due("between " + around[i][0] + " and " + around[i][1], Canons.count(x, 3, 4, 0, 1), want[i]);
        }
    }

    /** At 2 voice 0 strikes 64 between 62 and d, voice 1 strikes 62 between a and 64. */
    private static void passingOfBoth() {
        int[][] ends = {{60, 65, 0}, {61, 66, 0}, {59, 65, 1}, {60, 67, 1}, {60, 64, 1}, {62, 65, 1}, {60, 63, 1},
            {64, 65, 1}, {-1, 65, 1}, {60, -1, 1}, {-2, 65, 0}, {60, -2, 0}, {-2, -2, 0}, {-1, -2, 1}, {-2, -1, 1},
            {-2, 90, 0}, {30, -2, 0}};
        for (int[] e : ends) {
            CanonMaker x = Canons.subject(12, 1, e[0], 62, 64, e[1]);
            x.voice(1, 1, 0, 0, 1);
            x.beat(64);
            due("both, from " + e[0] + " and to " + e[1], Canons.count(x, 2, 4, 0, 1), e[2]);
            x.beat(2);
            due("on the beat", Canons.count(x, 2, 4, 0, 1), 1);
        }
    }

    /** At 3 voice 1 strikes its first note, 61, above a held 60; what is before it is its last one. */
    private static void passingInARound() {
        for (int r = 7; r <= 9; r++) {
            CanonMaker x = Canons.notes(12, new int[][] {{60, 1}, {61, 1}, {59, 6}});
            x.voice(1, 3, 1, 0, 1);
            x.beat(64);
            x.round(r);
            due("round " + r, r == 7 ? x.faults() : Canons.count(x, 3, 4, 0, 1), r == 7 ? -3 : r == 8 ? 0 : 1);
        }
        // The last note, 61 at 5 above a held 60, goes on to the first one.
        for (int r = 6; r <= 7; r++) {
            CanonMaker x = Canons.notes(12, new int[][] {{62, 4}, {60, 1}, {61, 1}});
            x.voice(1, 3, -2, 0, 1);
            x.beat(64);
            x.round(r);
            due("60 is held at 5", x.at(1, 5), 60);
            due("the last one in a round of " + r, Canons.count(x, 5, 4, 0, 1), r == 6 ? 0 : 1);
        }
    }

    private static int distance(int p, int q) {
        return Math.abs(p - q) % 12;
    }

    /** PARALLELS and HIDDEN of all small moves from all small distances. */
    private static void movesOfTwo() {
        for (int q = 56; q <= 64; q++) {
            for (int r = 33; r <= 87; r++) {
                for (int s = r - 4; s <= r + 4; s++) {
                    CanonMaker x = Canons.moves(48, 60, q, r, s);
                    boolean alike = q > 60 && s > r || q < 60 && s < r;
                    int k = distance(q, s);
                    boolean perfect = alike && (k == 0 || k == 7);
                    boolean same = k == distance(60, r);
                    boolean jumps = Math.abs(q >= s ? q - 60 : s - r) > 2;
                    String name = "60 to " + q + " with " + r + " to " + s;
                    due("PARALLELS " + name, Canons.count(x, 3, 16, 0, 1), perfect && same ? 1 : 0);
                    due("HIDDEN " + name, Canons.count(x, 3, 32, 0, 1), perfect && !same && jumps ? 1 : 0);
                }
            }
        }
    }

    private static void movesNeedFourPitches() {
        // Octaves from 60 and 72 to 62 and 74; then 60 and 64 to 62 and 69: a fifth, hidden.
        int[][] parallel = {{60, 62, 72, 74}, {-2, 62, 72, 74}, {60, -2, 72, 74}, {60, 62, -2, 74}, {60, 62, 72, -2}};
        int[][] hidden = {{60, 62, 64, 69}, {-2, 62, 64, 69}, {60, -2, 64, 69}, {60, 62, -2, 69}, {60, 62, 64, -2}};
        for (int i = 0; i < 5; i++) {
            int[] m = parallel[i];
            int[] h = hidden[i];
            due("PARALLELS, open " + i, Canons.count(Canons.moves(16, m[0], m[1], m[2], m[3]), 3, 16, 0, 1), i == 0 ? 1 : 0);
            due("HIDDEN, open " + i, Canons.count(Canons.moves(32, h[0], h[1], h[2], h[3]), 3, 32, 0, 1), i == 0 ? 1 : 0);
        }
    }

    private static void movesFromSilence() {
        due("voice 0 had a rest", Canons.moves(48, -1, 62, 72, 74).faults(), 0);
        due("voice 1 had a rest", Canons.moves(48, 60, 62, -1, 74).faults(), 0);
        due("voice 0 had a rest, voice 1 goes down", Canons.moves(48, -1, 62, 76, 74).faults(), 0);
        due("voice 1 had a rest, voice 0 goes down", Canons.moves(48, 64, 62, -1, 74).faults(), 0);
        CanonMaker first = Canons.subject(48, 1, 60);
        first.voice(1, 0, 12, 0, 1);
        dueFaults("nothing is before time 0", first, NONE);
        CanonMaker held = Canons.subject(48, 2, 60, 62);
        held.voice(1, 0, 12, 0, 2);
        dueFaults("one is held", held, NONE);
        // Both go from 60 to 62 to 64, one of them a unit later.
        CanonMaker later = Canons.subject(48, 2, 60, 62, 64);
        later.voice(1, 1, 12, 0, 1);
        dueFaults("voice 1 moves alone", later, NONE);
        later.voice(1, 3, -12, 0, 1);
        dueFaults("and voice 0 alone", later, NONE);
        later.round(6);
        dueFaults("in a round too", later, NONE);
    }

    private static void movesInARound() {
        for (int r = 2; r <= 4; r++) {
            CanonMaker x = Canons.subject(48, 1, 60, 62, 64);
            x.voice(1, 0, -12, 0, 1);
            x.round(r);
            if (r == 2) {
                due("a line too long", x.faults(), -3);
            } else if (r == 3) {
                dueFaults("time 2 is before time 0", x, f(0, 16, 0, 1), f(1, 16, 0, 1), f(2, 16, 0, 1));
            } else {
                dueFaults("time 3 is silent", x, f(1, 16, 0, 1), f(2, 16, 0, 1));
            }
        }
        // Inverted 60 62 65 is 60 58 55: at 0 they come from 65 and 55 to 60 both, against one another.
        CanonMaker against = Canons.subject(48, 1, 60, 62, 65);
        against.voice(1, 0, 0, 1, 1);
        against.round(3);
        dueFaults("against one another around the end", against, NONE);
        // Backward and a unit later: 60 65 64 with 60 64 65; at 0 from 64 to 60 with 65 to 60.
        CanonMaker hidden = Canons.subject(48, 1, 60, 65, 64);
        hidden.voice(1, 1, 0, 2, 1);
        hidden.round(3);
        dueFaults("hidden around the end", hidden, f(0, 32, 0, 1));
    }

    private static void crossing() {
        for (int interval = -24; interval <= 24; interval++) {
            CanonMaker x = Canons.subject(64, 2, 60);
            x.voice(2, 1, interval, 0, 1);
            dueFaults("CROSSING with " + interval, x, interval > 0 ? new int[][] {f(1, 64, 0, 2)} : NONE);
        }
        CanonMaker later = Canons.subject(64, 2, 60);
        later.voice(1, 2, -5, 0, 1);
        later.voice(3, 3, -4, 0, 1);
        dueFaults("of two that follow", later, f(3, 64, 1, 3));
        later.round(4);
        // At 0 voice 0 strikes 60 above the held 56.
        dueFaults("in a round", later, f(3, 64, 1, 3));
    }

    private static void bothHaveANote() {
        CanonMaker x = Canons.subject(4 | 64, 2, 60, -1, 60);
        x.voice(1, 2, 1, 0, 1);
        // Voice 1 has 61 at 2 and 3, where voice 0 rests, and at 6 and 7, where it has ended.
        dueFaults("one of both rests", x, NONE);
        x.voice(1, 4, 1, 0, 1);
        dueFaults("both have one", x, f(4, 4, 0, 1), f(4, 64, 0, 1));
        x.off(1);
        dueFaults("one of both is off", x, NONE);
    }

    /** All seven rules at one time, though voices 0 and 1 are first in most of them. */
    private static void orderOfRules() {
        CanonMaker x = Canons.moves(255 - 8, 60, 62, 64, 69);
        x.voice(2, 0, -12, 0, 1);
        x.voice(3, 0, 1, 0, 1);
        x.span(0, 49);
        x.scale(4095 - (1 << 9));
        int all = x.faults();
        int ranks = 0;
        for (int k = 1; k < all; k++) {
            int rank = rank(x, k);
            due("fault " + k + " is behind fault " + (k - 1), rank > rank(x, k - 1) ? 1 : 0, 1);
            ranks |= x.fault(k, 0) == 3 ? x.fault(k, 1) : 0;
        }
        due("the rules at 3", ranks, 1 | 2 | 4 | 16 | 32 | 64);
        CanonMaker leap = Canons.subject(64 | 128, 1, 60, 73);
        leap.voice(1, 0, 1, 0, 1);
        dueFaults("LEAPS are last", leap, f(0, 64, 0, 1), f(1, 64, 0, 1), f(1, 128, 0, 0), f(1, 128, 1, 1));
    }

    private static int rank(CanonMaker x, int k) {
        return ((x.fault(k, 0) * 256 + x.fault(k, 1)) * 4 + x.fault(k, 2)) * 4 + x.fault(k, 3);
    }

    private static void orderOfTimesInARound() {
        CanonMaker x = Canons.subject(1, 2, 60, 61, 62);
        x.span(0, 10);
        x.voice(1, 9, 0, 0, 1);
        x.round(7);
        // Voice 1 begins at 9, which is 2, then at 4 and 6.
        dueFaults("by their times in the round", x, f(0, 1, 0, 0), f(2, 1, 0, 0), f(2, 1, 1, 1), f(4, 1, 0, 0),
            f(4, 1, 1, 1), f(6, 1, 1, 1));
        x.voice(1, 100, 0, 0, 1);
        // Now it begins at 2 as well: 100 is 14 * 7 and 2.
        due("a delay far above the round", x.fault(5, 0), 6);
    }

    /** "A LINE must not be longer than the ROUND": as long is good, and voices that are off do not count. */
    private static void lineAsLongAsTheRound() {
        for (int factor = 1; factor <= 3; factor++) {
            for (int by = -1; by <= 1; by++) {
                CanonMaker x = Canons.subject(1, 5, 60, 61);
                x.span(0, 60);
                x.voice(3, 50, 0, 0, factor);
                x.round(10 * factor + by);
                String name = "factor " + factor + " round " + (10 * factor + by);
                due(name + " faults()", x.faults(), by < 0 ? -3 : 2);
                due(name + " fault(0, 1)", x.fault(0, 1), by < 0 ? -3 : 1);
                x.off(3);
                due(name + " without it", x.faults(), by < 0 && factor == 1 ? -3 : 1);
                x.round(0);
                due(name + " without a round", x.faults(), 1);
            }
        }
        CanonMaker nothing = new CanonMaker();
        nothing.rules(255);
        nothing.voice(1, 100, 0, 3, 3);
        nothing.round(1);
        due("no line is too long without notes", nothing.faults(), 0);
        CanonMaker most = new CanonMaker();
        for (int n = 0; n < 24; n++) {
            most.note(60, 16);
        }
        most.round(383);
        due("384 in 383", most.faults(), -3);
        most.round(384);
        due("384 in 384", most.faults(), 0);
        most.voice(1, 0, 0, 0, 2);
        most.round(400);
        due("768 in 400", most.faults(), -3);
    }

    private static void refusalsInTheirOrder() {
        CanonMaker x = Canons.subject(1, 4, 60, 61);
        x.span(0, 10);
        for (int what : new int[] {Integer.MIN_VALUE, -1, 4, 5, Integer.MAX_VALUE}) {
            due("fault(0, " + what + ")", x.fault(0, what), -2);
            due("fault(1, " + what + ")", x.fault(1, what), -2);
        }
        for (int k : new int[] {Integer.MIN_VALUE, -2, -1, 2, 3, 1000000, Integer.MAX_VALUE}) {
            due("fault(" + k + ", 0)", x.fault(k, 0), -1);
            due("fault(" + k + ", 4): -1 fits first", x.fault(k, 4), -1);
        }
        due("the last one's time", x.fault(1, 0), 4);
        x.round(7);
        for (int k = -1; k <= 2; k++) {
            due("fault(" + k + ", 4): -3 fits first", x.fault(k, 4), -3);
        }
        x.round(0);
        x.rules(0);
        due("no fault 0", x.fault(0, 0), -1);
    }
}
