import java.util.Arrays;

/**
 * Canons: a subject that up to three other voices follow, the rules of counterpoint that it is
 * judged by, the shifts that work, and the open notes that are found so that they do.
 */
public final class CanonMaker {
    private static final int MOST_NOTES = 24;
    private static final int MOST_LENGTH = 16;
    private static final int MOST_PITCH = 127;
    private static final int VOICES = 4;
    private static final int MOST_DELAY = 100;
    private static final int MOST_INTERVAL = 24;
    private static final int MOST_MODE = 3;
    private static final int MOST_FACTOR = 3;
    private static final int MOST_SCALE = 4095;
    private static final int MOST_BEAT = 64;
    private static final int MOST_ROUND = 400;
    private static final int MOST_MASK = 255;
    private static final int MOST_STEPS = 3000;
    /** Each step back in a search needs a step that was tried before, but for the very last one. */
    private static final int MOST_TURNS = 2 * MOST_STEPS + 2;
    private static final int MOST_MOMENTS = MOST_NOTES * VOICES;
    private static final int SHIFT_REACH = 12;
    private static final int SHIFT_WIDTH = 2 * SHIFT_REACH + 1;
    private static final int MOST_SHIFTS = (MOST_DELAY + 1) * SHIFT_WIDTH;

    private static final int NO_SUCH = -1;
    private static final int OUT_OF_BOUNDS = -2;
    private static final int WRONG_STATE = -3;
    private static final int NO_ROOM = -4;
    private static final int TOO_MANY_STEPS = -6;

    /** What the subject holds in place of a pitch. */
    private static final int REST = -1;
    private static final int OPEN = -2;

    /** What a line holds in place of a pitch: far from those that intervals and inversion reach. */
    private static final int SILENT = 1000;
    private static final int UNKNOWN = 1001;
    private static final int ABSENT = 1002;

    private static final int NONE = -1;
    /** Far above the number of faults that there can be. */
    private static final int NEVER = 1000000;
    private static final int ALL_NOTES = -1;

    private static final int INVERTED = 1;
    private static final int BACKWARD = 2;

    private static final int SPAN = 1;
    private static final int SCALE = 2;
    private static final int CONSONANCE = 4;
    private static final int PASSING = 8;
    private static final int PARALLELS = 16;
    private static final int HIDDEN = 32;
    private static final int CROSSING = 64;
    private static final int LEAPS = 128;
    private static final int OF_ONE_VOICE = SPAN | SCALE | LEAPS;
    private static final int[] TOLD_ORDER = {SPAN, SCALE, CONSONANCE, PARALLELS, HIDDEN, CROSSING, LEAPS};

    private static final int OCTAVE = 12;
    private static final int FOURTH = 5;
    private static final int FIFTH = 7;
    private static final int WIDEST_STEP = 2;
    /** Bit k is set for 0, 3, 4, 7, 8, 9. */
    private static final int CONSONANT = 1 | 1 << 3 | 1 << 4 | 1 << 7 | 1 << 8 | 1 << 9;

    /** How a note stands between its neighbours in its line. */
    private static final int LONELY = 0;
    private static final int UNDECIDED = 1;
    private static final int STEPWISE = 2;
    private static final int OTHERWISE = 3;

    private final Subject subject = new Subject();
    private final Voice[] voices = new Voice[VOICES];
    private final Bounds bounds = new Bounds();
    private final Score score = new Score();
    private final Judge judge = new Judge(score, bounds);
    private final int[] openNotes = new int[MOST_NOTES];
    private final int[] shiftsFound = new int[MOST_SHIFTS];
    private int roundLength;
    private int openCount;
    private int stepsTried;
    private int shiftCount;

    public CanonMaker() {
        for (int v = 0; v < VOICES; v++) {
            voices[v] = new Voice();
        }
        voices[0].on = true;
    }

    // ---- the subject

    public int note(int pitch, int length) {
        if (!isPitch(pitch) || length < 1 || length > MOST_LENGTH) {
            return OUT_OF_BOUNDS;
        }
        if (subject.count >= MOST_NOTES) {
            return NO_ROOM;
        }
        int number = subject.count;
        subject.pitches[number] = pitch;
        subject.lengths[number] = length;
        subject.count = number + 1;
        return number;
    }

    public int pitch(int note, int pitch) {
        if (!subject.has(note)) {
            return NO_SUCH;
        }
        if (!isPitch(pitch)) {
            return OUT_OF_BOUNDS;
        }
        int old = subject.pitches[note];
        subject.pitches[note] = pitch;
        return old;
    }

    public int told(int note, int what) {
        if (!subject.has(note)) {
            return NO_SUCH;
        }
        switch (what) {
            case 0: return subject.pitches[note];
            case 1: return subject.lengths[note];
            default: return OUT_OF_BOUNDS;
        }
    }

    public int cut(int n) {
        if (n < 0 || n > subject.count) {
            return OUT_OF_BOUNDS;
        }
        int old = subject.count;
        subject.count = n;
        return old;
    }

    public int size() {
        return subject.units();
    }

    // ---- voices and rules

    public int voice(int v, int delay, int interval, int mode, int factor) {
        if (!isFollower(v)) {
            return NO_SUCH;
        }
        if (delay < 0 || delay > MOST_DELAY || interval < -MOST_INTERVAL || interval > MOST_INTERVAL) {
            return OUT_OF_BOUNDS;
        }
        if (mode < 0 || mode > MOST_MODE || factor < 1 || factor > MOST_FACTOR) {
            return OUT_OF_BOUNDS;
        }
        Voice voice = voices[v];
        voice.on = true;
        voice.delay = delay;
        voice.interval = interval;
        voice.mode = mode;
        voice.factor = factor;
        return 1;
    }

    public int off(int v) {
        if (!isFollower(v)) {
            return NO_SUCH;
        }
        boolean was = voices[v].on;
        voices[v].on = false;
        return was ? 1 : 0;
    }

    public int span(int low, int high) {
        if (low < 0 || high > MOST_PITCH || low > high) {
            return OUT_OF_BOUNDS;
        }
        bounds.low = low;
        bounds.high = high;
        return 1;
    }

    public int scale(int mask) {
        if (mask < 0 || mask > MOST_SCALE) {
            return OUT_OF_BOUNDS;
        }
        int old = bounds.scaleMask;
        bounds.scaleMask = mask;
        return old;
    }

    public int beat(int n) {
        if (n < 1 || n > MOST_BEAT) {
            return OUT_OF_BOUNDS;
        }
        int old = bounds.beatLength;
        bounds.beatLength = n;
        return old;
    }

    public int round(int n) {
        if (n < 0 || n > MOST_ROUND) {
            return OUT_OF_BOUNDS;
        }
        int old = roundLength;
        roundLength = n;
        return old;
    }

    public int rules(int mask) {
        if (mask < 0 || mask > MOST_MASK) {
            return OUT_OF_BOUNDS;
        }
        int old = bounds.ruleMask;
        bounds.ruleMask = mask;
        return old;
    }

    // ---- judging

    public int end() {
        return countTimes();
    }

    public int at(int v, int time) {
        if (v < 0 || v >= VOICES || !voices[v].on) {
            return ABSENT;
        }
        if (time < 0 || time >= countTimes()) {
            return SILENT;
        }
        Line line = score.lines[v];
        line.lay(subject, voices[v], roundLength);
        line.tune(subject);
        int place = line.placeAt(time);
        return place == NONE ? SILENT : line.pitches[place];
    }

    public int faults() {
        if (isAnyTooLong()) {
            return WRONG_STATE;
        }
        layAll();
        return judge.countFaults(NEVER, ALL_NOTES);
    }

    public int fault(int k, int what) {
        if (isAnyTooLong()) {
            return WRONG_STATE;
        }
        if (k < 0) {
            return NO_SUCH;
        }
        layAll();
        if (judge.countFaults(k, ALL_NOTES) <= k) {
            return NO_SUCH;
        }
        switch (what) {
            case 0: return judge.soughtTime;
            case 1: return judge.soughtRule;
            case 2: return judge.soughtA;
            case 3: return judge.soughtB;
            default: return OUT_OF_BOUNDS;
        }
    }

    // ---- finding

    public int solve(int steps) {
        if (steps < 0 || steps > MOST_STEPS) {
            return OUT_OF_BOUNDS;
        }
        if (isAnyTooLong()) {
            return WRONG_STATE;
        }
        stepsTried = 0;
        layAll();
        if (judge.countFaults(0, ALL_NOTES) > 0) {
            return 0;
        }
        listOpenNotes();
        int answer = searchPitches(steps);
        if (answer != 1) {
            reopenNotes();
        }
        return answer;
    }

    public int steps() {
        return stepsTried;
    }

    public int shifts(int v) {
        if (!isFollower(v)) {
            return NO_SUCH;
        }
        if (!voices[v].on || subject.hasOpen() || isTooLong(voices[0]) || isTooLong(voices[v])) {
            return WRONG_STATE;
        }
        layPair(v);
        shiftCount = 0;
        int last = Math.min(subject.units(), MOST_DELAY);
        for (int delay = 0; delay <= last; delay++) {
            searchIntervals(score.lines[v], delay);
        }
        return shiftCount;
    }

    public int shift(int k, int what) {
        if (k < 0 || k >= shiftCount) {
            return NO_SUCH;
        }
        switch (what) {
            case 0: return shiftsFound[k] / SHIFT_WIDTH;
            case 1: return shiftsFound[k] % SHIFT_WIDTH - SHIFT_REACH;
            default: return OUT_OF_BOUNDS;
        }
    }

    // ---- what the calls share

    private static boolean isPitch(int pitch) {
        return pitch >= OPEN && pitch <= MOST_PITCH;
    }

    private static boolean isFollower(int v) {
        return v >= 1 && v < VOICES;
    }

    private int countTimes() {
        if (roundLength > 0) {
            return roundLength;
        }
        int units = subject.units();
        int last = 0;
        for (int v = 0; v < VOICES; v++) {
            if (voices[v].on) {
                last = Math.max(last, voices[v].delay + units * voices[v].factor);
            }
        }
        return last;
    }

    private boolean isTooLong(Voice voice) {
        return voice.on && roundLength > 0 && subject.units() * voice.factor > roundLength;
    }

    private boolean isAnyTooLong() {
        for (int v = 0; v < VOICES; v++) {
            if (isTooLong(voices[v])) {
                return true;
            }
        }
        return false;
    }

    private void layAll() {
        for (int v = 0; v < VOICES; v++) {
            score.lines[v].lay(subject, voices[v], roundLength);
        }
        score.tune(subject);
        score.gatherMoments();
        score.placeVoices(subject.firstSounding());
    }

    /** Lays the subject and one voice behind it; all others are off, whatever they were told. */
    private void layPair(int follower) {
        for (int v = 0; v < VOICES; v++) {
            score.lines[v].lay(subject, voices[v], roundLength);
            score.lines[v].on = v == 0 || v == follower;
        }
        score.tune(subject);
    }

    private void listOpenNotes() {
        openCount = 0;
        for (int n = 0; n < subject.count; n++) {
            if (subject.pitches[n] == OPEN) {
                openNotes[openCount] = n;
                openCount++;
            }
        }
    }

    private void reopenNotes() {
        for (int i = 0; i < openCount; i++) {
            subject.pitches[openNotes[i]] = OPEN;
        }
    }

    /**
     * Tells the open notes in turn. A fault stays one whatever is told later, so that after each
     * step only the moments that its note touches need to be judged.
     */
    private int searchPitches(int most) {
        int i = 0;
        for (int turn = 0; turn < MOST_TURNS && i >= 0 && i < openCount; turn++) {
            int n = openNotes[i];
            int next = subject.pitches[n] == OPEN ? bounds.low : subject.pitches[n] + 1;
            if (next > bounds.high) {
                subject.pitches[n] = OPEN;
                i--;
            } else if (stepsTried >= most) {
                return TOO_MANY_STEPS;
            } else {
                stepsTried++;
                subject.pitches[n] = next;
                score.tune(subject);
                i += judge.countFaults(0, 1 << n) == 0 ? 1 : 0;
            }
        }
        return i < 0 ? 0 : 1;
    }

    /** Keeps the intervals that work with a delay; the moments are the same for all of them. */
    private void searchIntervals(Line line, int delay) {
        line.delay = delay;
        score.gatherMoments();
        score.placeVoices(subject.firstSounding());
        for (int interval = -SHIFT_REACH; interval <= SHIFT_REACH; interval++) {
            line.interval = interval;
            line.tune(subject);
            if (judge.countFaults(0, ALL_NOTES) == 0 && shiftCount < MOST_SHIFTS) {
                shiftsFound[shiftCount] = delay * SHIFT_WIDTH + interval + SHIFT_REACH;
                shiftCount++;
            }
        }
    }

    /** The notes as they were told. */
    private static final class Subject {
        final int[] pitches = new int[MOST_NOTES];
        final int[] lengths = new int[MOST_NOTES];
        int count;

        boolean has(int n) {
            return n >= 0 && n < count;
        }

        int units() {
            int sum = 0;
            for (int n = 0; n < count; n++) {
                sum += lengths[n];
            }
            return sum;
        }

        boolean hasOpen() {
            for (int n = 0; n < count; n++) {
                if (pitches[n] == OPEN) {
                    return true;
                }
            }
            return false;
        }

        /** The note that inverted lines turn around, NONE if there are but rests. */
        int firstSounding() {
            for (int n = 0; n < count; n++) {
                if (pitches[n] != REST) {
                    return n;
                }
            }
            return NONE;
        }
    }

    /** How a voice was told to follow. */
    private static final class Voice {
        boolean on;
        int delay;
        int interval;
        int mode;
        int factor = 1;
    }

    /** What the rules ask for, and which of them are on. */
    private static final class Bounds {
        int low;
        int high = MOST_PITCH;
        int scaleMask = MOST_SCALE;
        int beatLength = 4;
        int ruleMask;
    }

    /** A voice's notes in the order in which it has them: place 0 comes first. */
    private static final class Line {
        final int[] notes = new int[MOST_NOTES];
        final int[] begins = new int[MOST_NOTES];
        final int[] pitches = new int[MOST_NOTES];
        /** The places of the neighbours, NONE where there is none or a rest. */
        final int[] before = new int[MOST_NOTES];
        final int[] behind = new int[MOST_NOTES];
        int count;
        int units;
        int cycle;
        int delay;
        int interval;
        boolean on;
        boolean inverted;

        void lay(Subject subject, Voice voice, int round) {
            boolean backward = (voice.mode & BACKWARD) != 0;
            on = voice.on;
            inverted = (voice.mode & INVERTED) != 0;
            delay = voice.delay;
            interval = voice.interval;
            cycle = round;
            count = subject.count;
            units = 0;
            for (int p = 0; p < count; p++) {
                notes[p] = backward ? count - 1 - p : p;
                begins[p] = units;
                units += subject.lengths[notes[p]] * voice.factor;
            }
            joinNeighbours(subject);
        }

        private void joinNeighbours(Subject subject) {
            Arrays.fill(before, NONE);
            Arrays.fill(behind, NONE);
            boolean closed = units == cycle;
            for (int p = 0; p < count; p++) {
                int next = p + 1 < count ? p + 1 : 0;
                boolean adjoining = next > 0 || closed;
                if (adjoining && subject.pitches[notes[p]] != REST && subject.pitches[notes[next]] != REST) {
                    behind[p] = next;
                    before[next] = p;
                }
            }
        }

        void tune(Subject subject) {
            int first = subject.firstSounding();
            int centre = first == NONE ? REST : subject.pitches[first];
            for (int p = 0; p < count; p++) {
                int pitch = subject.pitches[notes[p]];
                if (pitch == REST) {
                    pitches[p] = SILENT;
                } else if (pitch == OPEN || inverted && centre == OPEN) {
                    pitches[p] = UNKNOWN;
                } else {
                    pitches[p] = (inverted ? 2 * centre - pitch : pitch) + interval;
                }
            }
        }

        /** How far a time is behind the line's beginning, the latest one of them in a round. */
        int sinceBegin(int time) {
            return cycle > 0 ? Math.floorMod(time - delay, cycle) : time - delay;
        }

        /** The place at a time, a rest's too; NONE before the line and behind it. */
        int placeAt(int time) {
            int since = sinceBegin(time);
            if (since < 0 || since >= units) {
                return NONE;
            }
            int place = 0;
            for (int p = 1; p < count && begins[p] <= since; p++) {
                place = p;
            }
            return place;
        }

        int timeOf(int place) {
            int time = delay + begins[place];
            return cycle > 0 ? Math.floorMod(time, cycle) : time;
        }
    }

    /** The lines side by side, with the moments at which one of them strikes a note. */
    private static final class Score {
        final Line[] lines = new Line[VOICES];
        final int[] moments = new int[MOST_MOMENTS];
        /** Bit n: what is judged at this moment may need the pitch of the subject's note n. */
        final int[] touched = new int[MOST_MOMENTS];
        /** For each moment the voices' places, NONE for those that are silent. */
        final int[] places = new int[MOST_MOMENTS * VOICES];
        /** Bit v: voice v's note begins at this moment. */
        final int[] strikes = new int[MOST_MOMENTS];
        int count;

        Score() {
            for (int v = 0; v < VOICES; v++) {
                lines[v] = new Line();
            }
        }

        void tune(Subject subject) {
            for (int v = 0; v < VOICES; v++) {
                if (lines[v].on) {
                    lines[v].tune(subject);
                }
            }
        }

        /** No rule is broken at a time at which nothing is struck, so no other times are kept. */
        void gatherMoments() {
            count = 0;
            for (int v = 0; v < VOICES; v++) {
                Line line = lines[v];
                for (int p = 0; line.on && p < line.count; p++) {
                    if (line.pitches[p] != SILENT) {
                        keepMoment(line.timeOf(p));
                    }
                }
            }
        }

        private void keepMoment(int time) {
            int slot = count;
            while (slot > 0 && moments[slot - 1] > time) {
                slot--;
            }
            boolean known = slot > 0 && moments[slot - 1] == time;
            if (known || count >= MOST_MOMENTS) {
                return;
            }
            for (int m = count; m > slot; m--) {
                moments[m] = moments[m - 1];
            }
            moments[slot] = time;
            count++;
        }

        void placeVoices(int centreNote) {
            for (int m = 0; m < count; m++) {
                touched[m] = 0;
                strikes[m] = 0;
                for (int v = 0; v < VOICES; v++) {
                    Line line = lines[v];
                    int place = line.on ? line.placeAt(moments[m]) : NONE;
                    if (place != NONE && line.pitches[place] == SILENT) {
                        place = NONE;
                    }
                    places[m * VOICES + v] = place;
                    if (place != NONE) {
                        touched[m] |= notesAround(line, place, centreNote);
                        strikes[m] |= line.timeOf(place) == moments[m] ? 1 << v : 0;
                    }
                }
            }
        }

        private static int notesAround(Line line, int place, int centreNote) {
            int needed = 1 << line.notes[place];
            if (line.before[place] != NONE) {
                needed |= 1 << line.notes[line.before[place]];
            }
            if (line.behind[place] != NONE) {
                needed |= 1 << line.notes[line.behind[place]];
            }
            if (line.inverted && centreNote != NONE) {
                needed |= 1 << centreNote;
            }
            return needed;
        }
    }

    /** Looks for faults, one moment of a score after the other. */
    private static final class Judge {
        private final Score score;
        private final Bounds bounds;
        /** The voices that have a note at this moment, rising. */
        private final int[] present = new int[VOICES];
        private final boolean[] struck = new boolean[VOICES];
        /** By voice: its pitch, and those of the neighbours in its line, SILENT if it has none. */
        private final int[] now = new int[VOICES];
        private final int[] old = new int[VOICES];
        private final int[] next = new int[VOICES];
        private int presentCount;
        private int time;
        private int found;
        private int sought;
        int soughtTime;
        int soughtRule;
        int soughtA;
        int soughtB;

        Judge(Score score, Bounds bounds) {
            this.score = score;
            this.bounds = bounds;
        }

        /**
         * How many faults there are at the moments that one of these notes touches. It keeps the
         * fault that is sought and may stop counting behind it.
         */
        int countFaults(int soughtNumber, int notes) {
            found = 0;
            sought = soughtNumber;
            boolean idle = (bounds.ruleMask & ~PASSING) == 0;
            for (int m = 0; !idle && m < score.count && found <= sought; m++) {
                if ((score.touched[m] & notes) == 0) {
                    continue;
                }
                hear(m);
                for (int rule : TOLD_ORDER) {
                    if ((bounds.ruleMask & rule & OF_ONE_VOICE) != 0) {
                        judgeEach(rule);
                    } else if ((bounds.ruleMask & rule) != 0) {
                        judgePairs(rule);
                    }
                }
            }
            return found;
        }

        private void hear(int m) {
            time = score.moments[m];
            presentCount = 0;
            for (int v = 0; v < VOICES; v++) {
                int p = score.places[m * VOICES + v];
                if (p != NONE) {
                    Line line = score.lines[v];
                    present[presentCount] = v;
                    presentCount++;
                    struck[v] = (score.strikes[m] >> v & 1) != 0;
                    now[v] = line.pitches[p];
                    old[v] = line.before[p] == NONE ? SILENT : line.pitches[line.before[p]];
                    next[v] = line.behind[p] == NONE ? SILENT : line.pitches[line.behind[p]];
                }
            }
        }

        private void judgeEach(int rule) {
            for (int i = 0; i < presentCount; i++) {
                int v = present[i];
                if (struck[v] && now[v] != UNKNOWN && breaksAlone(rule, v)) {
                    keepFault(rule, v, v);
                }
            }
        }

        private void judgePairs(int rule) {
            for (int i = 0; i < presentCount; i++) {
                int a = present[i];
                for (int j = i + 1; j < presentCount; j++) {
                    int b = present[j];
                    boolean known = now[a] != UNKNOWN && now[b] != UNKNOWN;
                    if (known && (struck[a] || struck[b]) && breakTogether(rule, a, b)) {
                        keepFault(rule, a, b);
                    }
                }
            }
        }

        private void keepFault(int rule, int a, int b) {
            if (found == sought) {
                soughtTime = time;
                soughtRule = rule;
                soughtA = a;
                soughtB = b;
            }
            found++;
        }

        private boolean breaksAlone(int rule, int v) {
            switch (rule) {
                case SPAN: return now[v] < bounds.low || now[v] > bounds.high;
                case SCALE: return (bounds.scaleMask >> Math.floorMod(now[v], OCTAVE) & 1) == 0;
                case LEAPS: return leaps(v);
                default: return false;
            }
        }

        private boolean breakTogether(int rule, int a, int b) {
            switch (rule) {
                case CONSONANCE: return clash(a, b);
                case PARALLELS: return moveAlike(a, b) && !changeDistance(a, b);
                case HIDDEN: return moveAlike(a, b) && changeDistance(a, b) && upperJumps(a, b);
                case CROSSING: return now[a] < now[b];
                default: return false;
            }
        }

        private boolean leaps(int v) {
            int far = Math.abs(now[v] - old[v]);
            return isKnown(old[v]) && (far > OCTAVE || far == 6 || far == 10 || far == 11);
        }

        private boolean clash(int a, int b) {
            int k = Math.abs(now[a] - now[b]) % OCTAVE;
            if ((CONSONANT >> k & 1) != 0 || k == FOURTH && isFourthGood(a, b)) {
                return false;
            }
            boolean mayPass = (bounds.ruleMask & PASSING) != 0 && bounds.beatLength > 0
                    && time % bounds.beatLength != 0;
            return !mayPass || !isExcused(gait(a), gait(b));
        }

        /** Also where an open pitch leaves it undecided: then it is no fault yet. */
        private boolean isFourthGood(int a, int b) {
            for (int i = 0; i < presentCount; i++) {
                int pitch = now[present[i]];
                if (pitch == UNKNOWN || pitch < now[a] && pitch < now[b]) {
                    return true;
                }
            }
            return false;
        }

        /** A lonely note is never excused; else an open neighbour leaves it undecided: no fault yet. */
        private static boolean isExcused(int gaitA, int gaitB) {
            if (gaitA == LONELY || gaitB == LONELY) {
                return false;
            }
            if (gaitA == UNDECIDED || gaitB == UNDECIDED) {
                return true;
            }
            return gaitA == STEPWISE && gaitB == STEPWISE;
        }

        /** How the line goes through its note of now; nothing is asked of one that is held. */
        private int gait(int v) {
            if (!struck[v]) {
                return STEPWISE;
            }
            if (old[v] == SILENT || next[v] == SILENT) {
                return LONELY;
            }
            if (old[v] == UNKNOWN || next[v] == UNKNOWN) {
                return UNDECIDED;
            }
            int first = now[v] - old[v];
            int second = next[v] - now[v];
            boolean up = isStepUp(first) && isStepUp(second);
            boolean down = isStepUp(-first) && isStepUp(-second);
            return up || down ? STEPWISE : OTHERWISE;
        }

        private static boolean isStepUp(int move) {
            return move >= 1 && move <= WIDEST_STEP;
        }

        /**
         * Both are struck on 0 or 7, from notes that both had at the time before, in the same
         * direction. What a struck voice had at the time before is its neighbour in the line.
         */
        private boolean moveAlike(int a, int b) {
            int k = Math.abs(now[a] - now[b]) % OCTAVE;
            if (!struck[a] || !struck[b] || k != 0 && k != FIFTH) {
                return false;
            }
            if (!isKnown(old[a]) || !isKnown(old[b])) {
                return false;
            }
            return now[a] > old[a] && now[b] > old[b] || now[a] < old[a] && now[b] < old[b];
        }

        private boolean changeDistance(int a, int b) {
            int k = Math.abs(now[a] - now[b]) % OCTAVE;
            return k != Math.abs(old[a] - old[b]) % OCTAVE;
        }

        private boolean upperJumps(int a, int b) {
            int upper = now[b] > now[a] ? b : a;
            return Math.abs(now[upper] - old[upper]) > WIDEST_STEP;
        }

        private static boolean isKnown(int pitch) {
            return pitch != SILENT && pitch != UNKNOWN;
        }
    }
}
