/** The boundary cases of SOLVING and SHIFTS and of promises 18 to 21, a method for each sentence. */
public final class FindingBoundsTest {
    private static final Checks CHECKS = new Checks();
    private static final int[] FAR = {Integer.MIN_VALUE, Integer.MIN_VALUE + 1, Integer.MAX_VALUE - 1, Integer.MAX_VALUE};

    private static void due(String call, int got, int want) {
        CHECKS.due(call, got, want);
    }

    public static void main(String[] args) {
        stepsAreZeroTo3000();
        nothingToTell();
        pitchesFromLowToHigh();
        eachOneTriedIsAStep();
        allNotesOpen();
        justEnoughSteps();
        theOneBeforeGetsItsNext();
        noWayAtAll();
        onlyOpenOnesAreTold();
        rulesThatAreOffDoNotCount();
        faultAtTheBeginning();
        solvingInARound();
        solvingAnInvertedLine();
        solvingWhatIsPassing();
        solvingNeedsNoLineTooLong();
        stepsOfTheLatest();
        delaysToTheSize();
        delaysTo100();
        intervalsOfShifts();
        risingDelaysThenIntervals();
        shiftsOfTheVoiceAlone();
        shiftsByModeAndFactor();
        shiftsInARound();
        shiftsRefused();
        shiftsOfALineTooLong();
        shiftsOfTheLatest();
        CHECKS.finish();
    }

    private static void stepsAreZeroTo3000() {
        for (int steps : new int[] {-2, -1, 0, 1, 2999, 3000, 3001, 3002}) {
            CanonMaker x = Canons.subject(0, 1, -2);
            boolean good = steps >= 0 && steps <= 3000;
            due("solve(" + steps + ")", x.solve(steps), !good ? -2 : steps == 0 ? -6 : 1);
            due("told(0, 0) then", x.told(0, 0), good && steps > 0 ? 0 : -2);
        }
        for (int steps : FAR) {
            due("solve(" + steps + ")", Canons.subject(0, 1, 60).solve(steps), -2);
        }
    }

    private static void nothingToTell() {
        CanonMaker empty = new CanonMaker();
        empty.rules(255);
        due("solve(0) of no notes", empty.solve(0), 1);
        due("steps() then", empty.steps(), 0);
        CanonMaker told = Canons.subject(255, 1, 60, -1, 62);
        due("solve(0) of told notes", told.solve(0), 1);
        due("solve(3000) of told notes", told.solve(3000), 1);
        due("steps() then", told.steps(), 0);
        due("the rest stays", told.told(1, 0), -1);
    }

    private static void pitchesFromLowToHigh() {
        for (int[] span : new int[][] {{0, 127}, {0, 0}, {127, 127}, {60, 61}, {5, 100}}) {
            CanonMaker x = Canons.subject(0, 1, -2);
            x.span(span[0], span[1]);
            due("the first one", x.solve(1), 1);
            due("is LOW", x.told(0, 0), span[0]);
            // At 0 it is against HIGH in the voice below it: only HIGH does not cross.
            CanonMaker last = Canons.subject(64, 1, -2, span[1]);
            last.span(span[0], span[1]);
            last.voice(1, 0, 0, 2, 1);
            due("the last one", last.solve(3000), 1);
            due("is HIGH", last.told(0, 0), span[1]);
            due("behind all others", last.steps(), span[1] - span[0] + 1);
        }
        CanonMaker wide = Canons.subject(2, 1, -2);
        wide.scale(0);
        due("none of 0 .. 127", wide.solve(128), 0);
        due("are 128", wide.steps(), 128);
    }

    private static void eachOneTriedIsAStep() {
        for (int p = 0; p <= 127; p++) {
            CanonMaker x = Canons.subject(2, 1, -2);
            x.span(p, 127);
            x.scale(1 << 7);
            int first = p;
            while (first <= 127 && first % 12 != 7) {
                first++;
            }
            due("solve() from " + p, x.solve(3000), first <= 127 ? 1 : 0);
            due("steps() from " + p, x.steps(), Math.min(first, 127) - p + 1);
            due("told() from " + p, x.told(0, 0), first <= 127 ? first : -2);
        }
    }

    private static void allNotesOpen() {
        CanonMaker x = new CanonMaker();
        for (int n = 0; n < 24; n++) {
            x.note(-2, 16);
        }
        x.span(60, 72);
        x.rules(255);
        due("23 steps for 24 notes", x.solve(23), -6);
        for (int n = 0; n < 24; n++) {
            due("note " + n + " is open", x.told(n, 0), -2);
        }
        due("24 steps for 24 notes", x.solve(24), 1);
        due("steps()", x.steps(), 24);
        for (int n = 0; n < 24; n++) {
            due("note " + n + " is LOW", x.told(n, 0), 60);
        }
    }

    private static void justEnoughSteps() {
        // 60 61 62 63 64: 64 is the first one 4 above 60.
        for (int most = 0; most <= 7; most++) {
            CanonMaker x = Canons.subject(2, 1, -2);
            x.span(60, 65);
            x.scale(1 << 4);
            due("solve(" + most + ")", x.solve(most), most < 5 ? -6 : 1);
            due("steps()", x.steps(), Math.min(most, 5));
            due("told(0, 0)", x.told(0, 0), most < 5 ? -2 : 64);
        }
        for (int most = 0; most <= 8; most++) {
            CanonMaker x = Canons.subject(2, 1, -2);
            x.span(60, 65);
            x.scale(1 << 9);
            due("no way in " + most, x.solve(most), most < 6 ? -6 : 0);
            due("steps()", x.steps(), Math.min(most, 6));
            due("told(0, 0)", x.told(0, 0), -2);
        }
        CanonMaker most = Canons.subject(128, 1, -2, -2, -2, 127);
        most.span(0, 15);
        due("3000 are too few", most.solve(3000), -6);
        due("all 3000 were tried", most.steps(), 3000);
    }

    /** The first one's next one is tried only when the second one has none left. */
    private static void theOneBeforeGetsItsNext() {
        CanonMaker x = Canons.subject(128, 1, -2, -2, 75);
        x.span(60, 66);
        // Only 63, 66, 67 .. reach 75; 66 is 6 from 60 and 63 is good from 60: steps 60; 60 61 62 63.
        due("solve(4)", x.solve(4), -6);
        due("solve(5)", x.solve(5), 1);
        due("the first one", x.told(0, 0), 60);
        due("the second one", x.told(1, 0), 63);
        CanonMaker back = Canons.subject(128, 1, -2, -2, 78);
        back.span(60, 66);
        // Only 66 reaches 78, and 60 does not reach 66: 60; 60 .. 66; 61; 60 .. 66.
        due("solve(15)", back.solve(15), -6);
        due("solve(16)", back.solve(16), 1);
        due("the first one then", back.told(0, 0), 61);
        due("the second one then", back.told(1, 0), 66);
        due("steps()", back.steps(), 16);
        due("told ones are told", back.solve(0), 1);
        due("without steps", back.steps(), 0);
    }

    private static void noWayAtAll() {
        for (int width = 1; width <= 12; width++) {
            CanonMaker x = Canons.subject(128, 1, 100, -1, -2, -2, -2, 127);
            x.span(0, width - 1);
            // The second one may be anything but 6, 10 and 11 from the first one, the third one likewise.
            int good = 0;
            for (int p = 0; p < width; p++) {
                for (int q = 0; q < width; q++) {
                    good += isLeap(p - q) ? 0 : 1;
                }
            }
            int all = width + width * width + good * width;
            due("no way with " + width, x.solve(all), 0);
            due("steps()", x.steps(), all);
            due("one less", x.solve(all - 1), -6);
            due("steps() then", x.steps(), all - 1);
            for (int n = 2; n <= 4; n++) {
                due("open as before", x.told(n, 0), -2);
            }
            due("told as before", x.told(0, 0), 100);
            due("a rest as before", x.told(1, 0), -1);
        }
    }

    private static boolean isLeap(int move) {
        int far = Math.abs(move);
        return far > 12 || far == 6 || far == 10 || far == 11;
    }

    private static void onlyOpenOnesAreTold() {
        CanonMaker x = Canons.subject(0, 3, 127, -2, -1, -2, 0);
        x.span(5, 6);
        due("solve(2)", x.solve(2), 1);
        int[] want = {127, 5, -1, 5, 0};
        for (int n = 0; n < 5; n++) {
            due("told(" + n + ", 0)", x.told(n, 0), want[n]);
            due("told(" + n + ", 1)", x.told(n, 1), 3);
        }
    }

    private static void rulesThatAreOffDoNotCount() {
        for (int rule = 1; rule <= 128; rule *= 2) {
            CanonMaker x = Canons.subject(255 - rule, 1, -2);
            x.span(60, 61);
            x.scale(2);
            due("without rule " + rule, x.solve(3000), 1);
            due("told(0, 0)", x.told(0, 0), rule == 2 ? 60 : 61);
        }
        CanonMaker outside = Canons.subject(0, 1, -2);
        outside.span(100, 101);
        due("SPAN is off", outside.solve(3), 1);
        due("LOW still counts", outside.told(0, 0), 100);
    }

    private static void faultAtTheBeginning() {
        CanonMaker x = Canons.subject(1, 1, -2, 60);
        x.span(10, 20);
        for (int steps : new int[] {0, 1, 3000}) {
            due("solve(" + steps + ")", x.solve(steps), 0);
            due("steps()", x.steps(), 0);
            due("told(0, 0)", x.told(0, 0), -2);
        }
        x.cut(1);
        due("without it", x.solve(1), 1);
        x.note(60, 1);
        due("a fault and nothing open", x.solve(3000), 0);
        due("steps() of it", x.steps(), 0);
    }

    private static void solvingInARound() {
        // The last one is before the first one: 6 from 60 is a leap in a round of 2 alone.
        for (int r : new int[] {0, 2, 3}) {
            CanonMaker x = Canons.subject(128, 1, -2, 60);
            x.voice(1, 1, 0, 0, 1);
            x.round(r);
            x.span(66, 70);
            due("round " + r, x.solve(3000), 1);
            due("steps()", x.steps(), 2);
            due("told(0, 0)", x.told(0, 0), 67);
        }
        for (int r : new int[] {0, 3, 4}) {
            CanonMaker x = Canons.subject(128, 1, 60, -1, -2);
            x.round(r);
            x.span(66, 70);
            due("round " + r, x.solve(3000), 1);
            due("told(2, 0)", x.told(2, 0), r == 3 ? 67 : 66);
        }
    }

    /** C settles all of an inverted line, also what is far from it. */
    private static void solvingAnInvertedLine() {
        CanonMaker x = Canons.notes(1, new int[][] {{-1, 1}, {-2, 1}, {-1, 1}, {62, 1}, {-1, 1}, {70, 1}});
        x.voice(1, 0, 0, 1, 1);
        x.span(60, 70);
        // 2 C less 70 is in the span from 65 on, 2 C less 62 up to 66.
        due("solve(5)", x.solve(5), -6);
        due("solve(6)", x.solve(6), 1);
        due("C", x.told(1, 0), 65);
        due("the inverted 70", x.at(1, 5), 60);
        x.pitch(1, -2);
        x.span(62, 66);
        x.pitch(5, 66);
        x.voice(1, 0, 6, 1, 1);
        // 2 C less 66 and 6 is in 62 .. 66 for 61 .. 63, 2 C less 62 and 6 for 59 .. 61: none of 62 .. 66.
        due("no C", x.solve(5), 0);
        due("all five were tried", x.steps(), 5);
    }

    /** What is behind a note settles whether it was passing, at a time before its own. */
    private static void solvingWhatIsPassing() {
        CanonMaker x = Canons.notes(4 | 8, new int[][] {{60, 4}, {-1, 1}, {60, 1}, {62, 1}, {-2, 1}});
        x.voice(1, 5, 0, 0, 1);
        x.span(60, 70);
        // At 6 62 is above a held 60; at 7 63 and 64 are good with it, and are steps from 62.
        due("solve(3)", x.solve(3), -6);
        due("solve(4)", x.solve(4), 1);
        due("a step on", x.told(4, 0), 63);
        x.pitch(4, -2);
        x.span(65, 127);
        due("no step on", x.solve(3000), 0);
        due("all were tried", x.steps(), 63);
        x.rules(4);
        due("without PASSING", x.solve(3000), 0);
        due("62 is a fault at the beginning", x.steps(), 0);
    }

    private static void solvingNeedsNoLineTooLong() {
        for (int r = 3; r <= 5; r++) {
            CanonMaker x = Canons.subject(0, 2, -2, -2);
            x.round(r);
            due("solve(2) in a round of " + r, x.solve(2), r == 3 ? -3 : 1);
            due("solve(3001): -2 fits first", x.solve(3001), -2);
            due("told(1, 0)", x.told(1, 0), r == 3 ? -2 : 0);
        }
        for (int v = 1; v <= 3; v++) {
            CanonMaker x = Canons.subject(0, 2, -2, -2);
            x.round(7);
            x.voice(v, 0, 0, 0, 2);
            due("solve(2) with a slow line", x.solve(2), -3);
            due("solve(0) with a slow line: -3 fits first", x.solve(0), -3);
            x.off(v);
            due("solve(0) without it", x.solve(0), -6);
            due("solve(2) without it", x.solve(2), 1);
        }
    }

    private static void stepsOfTheLatest() {
        CanonMaker x = Canons.subject(0, 1, -2, -2, -2);
        due("steps() before", x.steps(), 0);
        due("refused by -2", x.solve(3001), -2);
        due("steps()", x.steps(), 0);
        due("refused by -6", x.solve(2), -6);
        due("steps()", x.steps(), 2);
        due("refused by -2", x.solve(-1), -2);
        due("steps() stays", x.steps(), 2);
        x.round(2);
        due("refused by -3", x.solve(3), -3);
        due("steps() stays", x.steps(), 2);
        x.round(0);
        due("a way", x.solve(3), 1);
        due("steps()", x.steps(), 3);
        x.rules(1);
        x.span(5, 9);
        due("steps() is not of another call", x.steps(), 3);
        due("a fault at the beginning", x.solve(3), 0);
        due("steps()", x.steps(), 0);
    }

    private static void delaysToTheSize() {
        for (int size = 0; size <= 16; size++) {
            CanonMaker x = new CanonMaker();
            if (size > 0) {
                x.note(60, size);
            }
            x.voice(1, 50, 24, 3, 3);
            int all = (size + 1) * 25;
            due("shifts(1) of size " + size, x.shifts(1), all);
            due("the first delay", x.shift(0, 0), 0);
            due("the last delay", x.shift(all - 1, 0), size);
            due("no more", x.shift(all, 0), -1);
        }
    }

    private static void delaysTo100() {
        for (int size : new int[] {98, 99, 100, 101, 102, 384}) {
            CanonMaker x = new CanonMaker();
            for (int n = 0; n < size / 16; n++) {
                x.note(60, 16);
            }
            if (size % 16 > 0) {
                x.note(60, size % 16);
            }
            x.voice(2, 0, 0, 0, 1);
            due("size()", x.size(), size);
            int all = (Math.min(size, 100) + 1) * 25;
            due("shifts(2) of size " + size, x.shifts(2), all);
            due("the last delay", x.shift(all - 1, 0), Math.min(size, 100));
            due("the last interval", x.shift(all - 1, 1), 12);
            due("no more", x.shift(all, 0), -1);
        }
    }

    private static void intervalsOfShifts() {
        CanonMaker x = Canons.subject(1, 1, 60);
        x.voice(1, 0, 24, 0, 1);
        for (int edge = 10; edge <= 14; edge++) {
            x.span(60 - edge, 60 + edge);
            int reach = Math.min(edge, 12);
            due("shifts(1) in a span of " + edge, x.shifts(1), 2 * (2 * reach + 1));
            due("the lowest", x.shift(0, 1), -reach);
            due("the highest", x.shift(2 * reach, 1), reach);
            due("then the next delay", x.shift(2 * reach + 1, 0), 1);
            due("from the lowest on", x.shift(2 * reach + 1, 1), -reach);
            for (int k = 0; k <= 2 * reach; k++) {
                due("an interval that may look like a refusal", x.shift(k, 1), k - reach);
            }
        }
    }

    private static void risingDelaysThenIntervals() {
        CanonMaker x = Canons.subject(4 | 64 | 128, 2, 60, 62, 64, 65);
        x.voice(3, 7, 7, 2, 1);
        int all = x.shifts(3);
        due("there are some", all > 20 ? 1 : 0, 1);
        for (int k = 1; k < all && k < 200; k++) {
            int before = x.shift(k - 1, 0) * 100 + x.shift(k - 1, 1);
            due("shift " + k + " is behind the one before", x.shift(k, 0) * 100 + x.shift(k, 1) > before ? 1 : 0, 1);
        }
    }

    /** The other voices clash with all that there is, and one of them is too long. */
    private static void shiftsOfTheVoiceAlone() {
        CanonMaker x = Canons.subject(4, 2, 60);
        x.voice(1, 0, 1, 0, 1);
        x.voice(2, 0, 2, 0, 1);
        x.voice(3, 0, 6, 0, 3);
        // 0, 3, 4, 7, 8, 9, 12 above or below, at 0 and 1; anything at 2.
        due("shifts(2)", x.shifts(2), 13 + 13 + 25);
        x.round(5);
        due("shifts(2) beside a line too long", x.shifts(2), 13 + 13 + 25);
        due("shifts(3), a line too long", x.shifts(3), -3);
        x.voice(1, 0, 1, 0, 3);
        due("shifts(2) beside two lines too long", x.shifts(2), 13 + 13 + 25);
        x.round(2);
        // In a round of 2 they are always together.
        due("shifts(2) in a round as long", x.shifts(2), 13 * 3);
        x.round(1);
        due("shifts(2) with a subject too long", x.shifts(2), -3);
        due("voice 2 stays", x.at(2, 0), 62);
        CanonMaker own = Canons.subject(128, 1, 60, 66);
        own.voice(1, 0, 0, 0, 1);
        due("a fault of the subject alone", own.shifts(1), 0);
        due("shift(0, 0)", own.shift(0, 0), -1);
    }

    private static void shiftsByModeAndFactor() {
        // The line's two pitches at delay 0, by mode, with the subject's 60 67.
        int[][] line = {{60, 67}, {60, 53}, {67, 60}, {53, 60}};
        for (int mode = 0; mode <= 3; mode++) {
            for (int factor = 1; factor <= 3; factor++) {
                CanonMaker x = Canons.subject(64, 1, 60, 67);
                x.voice(1, 9, 24, mode, factor);
                int count = 0;
                for (int delay = 0; delay <= 2; delay++) {
                    for (int interval = -12; interval <= 12; interval++) {
                        count += crosses(line[mode], delay, interval, factor) ? 0 : 1;
                    }
                }
                due("mode " + mode + " factor " + factor, x.shifts(1), count);
            }
        }
    }

    private static boolean crosses(int[] line, int delay, int interval, int factor) {
        int[] subject = {60, 67};
        for (int t = delay; t < 2; t++) {
            if (subject[t] < line[(t - delay) / factor] + interval) {
                return true;
            }
        }
        return false;
    }

    /** Delays go to the size; those behind the round's end wrap around. */
    private static void shiftsInARound() {
        CanonMaker x = Canons.subject(64, 1, 60, 67);
        x.voice(1, 0, 0, 0, 1);
        x.round(2);
        // At 0 and 2 they are together: up to 0; at 1 67 is against 60: up to -7.
        due("shifts(1)", x.shifts(1), 13 + 6 + 13);
        due("the last one of delay 1", x.shift(18, 1), -7);
        due("the first one of delay 2", x.shift(19, 0), 2);
        x.round(3);
        // With delay 1 60 is against 67, up to 7; with delay 2 67 is against 60, up to -7.
        due("shifts(1) in a longer round", x.shifts(1), 13 + 20 + 6);
    }

    private static void shiftsRefused() {
        CanonMaker x = Canons.subject(0, 1, 60);
        for (int v = -2; v <= 5; v++) {
            due("shifts(" + v + ") that is off", x.shifts(v), v >= 1 && v <= 3 ? -3 : -1);
        }
        for (int v : FAR) {
            due("shifts(" + v + ")", x.shifts(v), -1);
        }
        for (int v = 1; v <= 3; v++) {
            x.voice(v, 0, 0, 0, 1);
            due("shifts(" + v + ") that is on", x.shifts(v), 50);
        }
        x.note(-2, 1);
        for (int v = -1; v <= 4; v++) {
            due("shifts(" + v + ") with an open note", x.shifts(v), v >= 1 && v <= 3 ? -3 : -1);
        }
        x.pitch(0, -2);
        x.pitch(1, 60);
        due("shifts(1) with an open first note", x.shifts(1), -3);
        x.pitch(0, 60);
        x.pitch(1, -1);
        due("shifts(1) with a rest", x.shifts(1), 75);
        for (int k : new int[] {Integer.MIN_VALUE, -1, 75, 76, 2525, Integer.MAX_VALUE}) {
            due("shift(" + k + ", 0)", x.shift(k, 0), -1);
            due("shift(" + k + ", 2): -1 fits first", x.shift(k, 2), -1);
        }
        for (int what : new int[] {Integer.MIN_VALUE, -1, 2, 3, Integer.MAX_VALUE}) {
            due("shift(74, " + what + ")", x.shift(74, what), -2);
        }
        due("shift(74, 0)", x.shift(74, 0), 2);
        due("shift(74, 1)", x.shift(74, 1), 12);
    }

    private static void shiftsOfALineTooLong() {
        for (int factor = 1; factor <= 3; factor++) {
            for (int by = -1; by <= 1; by++) {
                CanonMaker x = Canons.subject(0, 2, 60, 61);
                x.voice(1, 0, 0, 0, factor);
                x.round(4 * factor + by);
                due("factor " + factor + " round " + (4 * factor + by), x.shifts(1), by < 0 ? -3 : 125);
            }
        }
    }

    private static void shiftsOfTheLatest() {
        CanonMaker x = Canons.subject(0, 1, 60);
        due("shift() before", x.shift(0, 0), -1);
        due("wrong too: -1 fits first", x.shift(0, 5), -1);
        x.voice(1, 0, 0, 0, 1);
        due("shifts(1)", x.shifts(1), 50);
        due("refused by -1", x.shifts(0), -1);
        due("shift(49, 1) stays", x.shift(49, 1), 12);
        due("refused by -3", x.shifts(2), -3);
        due("shift(49, 0) stays", x.shift(49, 0), 1);
        x.cut(0);
        x.off(1);
        x.rules(255);
        due("shift(49, 0) is not of another call", x.shift(49, 0), 1);
        x.voice(3, 0, 0, 0, 1);
        due("shifts(3)", x.shifts(3), 25);
        due("shift(25, 0)", x.shift(25, 0), -1);
        x.note(60, 1);
        x.scale(0);
        due("shifts(3) that are none", x.shifts(3), 0);
        due("shift(0, 0)", x.shift(0, 0), -1);
    }
}
