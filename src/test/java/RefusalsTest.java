import java.util.ArrayList;
import java.util.Arrays;
import java.util.List;
import java.util.function.Supplier;
import java.util.function.ToIntFunction;

/**
 * REFUSALS "change nothing": two canons are made alike, one of them gets a refused call, and all
 * that can be asked of them is asked of both. Each question has objects of its own, as an object
 * has but 512 calls.
 */
public final class RefusalsTest {
    private static final Checks CHECKS = new Checks();
    private static final int MIN = Integer.MIN_VALUE;
    private static final int MAX = Integer.MAX_VALUE;

    private record Refused(String name, int want, ToIntFunction<CanonMaker> call) { }

    private interface Question {
        int[] ask(CanonMaker x);
    }

    private record Asked(String name, Question question) { }

    public static void main(String[] args) {
        refuseAll("empty", RefusalsTest::empty, List.of(anywhere(0), withoutShifts(), voicesOff()));
        refuseAll("short", RefusalsTest::shortOne, List.of(anywhere(5), openNotes()));
        refuseAll("told", RefusalsTest::toldOne, List.of(anywhere(5), faultsAndShifts()));
        refuseAll("full", RefusalsTest::full, List.of(anywhere(24), noRoom()));
        refuseAll("too long", RefusalsTest::tooLong, List.of(anywhere(5), lineTooLong()));
        refuseSteps();
        tellAll("told", RefusalsTest::toldOne);
        tellAll("short", RefusalsTest::shortOne);
        tellAll("full", RefusalsTest::full);
        CHECKS.finish();
    }

    // ---- the canons

    private static CanonMaker empty() {
        return new CanonMaker();
    }

    /** With a rest and open notes, three voices, a latest solve() and a latest shifts(). */
    private static CanonMaker shortOne() {
        CanonMaker x = toldOne();
        x.pitch(1, -2);
        x.pitch(3, -2);
        return x;
    }

    /** From 50 on: 51 is no leap from 60, and 55 none to 67. */
    private static CanonMaker solvable() {
        CanonMaker x = shortOne();
        x.rules(128);
        return x;
    }

    private static CanonMaker toldOne() {
        CanonMaker x = Canons.notes(1 | 2 | 4 | 16 | 64, new int[][] {{60, 4}, {-2, 3}, {-1, 1}, {65, 16}, {67, 2}});
        x.span(50, 77);
        x.scale(4095 - 2);
        x.beat(3);
        x.voice(1, 26, -10, 0, 1);
        CHECKS.due("solve(3000) of the canon that is refused", x.solve(3000), 1);
        CHECKS.due("it has shifts", x.shifts(1) > 0 ? 1 : 0, 1);
        x.voice(1, 4, -5, 1, 1);
        x.voice(2, 7, 1, 2, 2);
        x.voice(3, 100, 24, 3, 3);
        x.round(80);
        return x;
    }

    private static CanonMaker full() {
        CanonMaker x = new CanonMaker();
        for (int n = 0; n < 24; n++) {
            x.note(60 + n % 5, 1 + n % 4);
        }
        x.rules(64 | 4);
        x.voice(2, 3, -9, 3, 3);
        x.shifts(2);
        return x;
    }

    /** The subject is longer than the round. */
    private static CanonMaker tooLong() {
        CanonMaker x = toldOne();
        x.round(25);
        return x;
    }

    // ---- the calls that are refused in them

    /** What is refused in every state, with so many notes. */
    private static List<Refused> anywhere(int notes) {
        List<Refused> all = new ArrayList<>();
        for (int p : new int[] {MIN, -3, 128, MAX}) {
            all.add(new Refused("note(" + p + ", 1)", -2, x -> x.note(p, 1)));
            if (notes > 0) {
                all.add(new Refused("pitch(0, " + p + ")", -2, x -> x.pitch(0, p)));
                all.add(new Refused("pitch(last, " + p + ")", -2, x -> x.pitch(notes - 1, p)));
            }
        }
        for (int length : new int[] {MIN, -1, 0, 17, MAX}) {
            all.add(new Refused("note(60, " + length + ")", -2, x -> x.note(60, length)));
        }
        for (int n : new int[] {MIN, -1, notes, notes + 1, MAX}) {
            all.add(new Refused("pitch(" + n + ", 60)", -1, x -> x.pitch(n, 60)));
            all.add(new Refused("told(" + n + ", 0)", -1, x -> x.told(n, 0)));
        }
        for (int n : new int[] {MIN, -1, notes + 1, MAX}) {
            all.add(new Refused("cut(" + n + ")", -2, x -> x.cut(n)));
        }
        for (int what : new int[] {MIN, -1, 2, MAX}) {
            all.add(new Refused("told(0, " + what + ")", notes > 0 ? -2 : -1, x -> x.told(0, what)));
        }
        addVoices(all);
        addSettings(all);
        for (int v : new int[] {MIN, -1, 0, 4, MAX}) {
            all.add(new Refused("shifts(" + v + ")", -1, x -> x.shifts(v)));
        }
        for (int steps : new int[] {MIN, -1, 3001, MAX}) {
            all.add(new Refused("solve(" + steps + ")", -2, x -> x.solve(steps)));
        }
        for (int k : new int[] {MIN, -1, 2526, MAX}) {
            all.add(new Refused("shift(" + k + ", 0)", -1, x -> x.shift(k, 0)));
        }
        return all;
    }

    private static void addVoices(List<Refused> all) {
        for (int v : new int[] {MIN, -1, 0, 4, MAX}) {
            all.add(new Refused("voice(" + v + ")", -1, x -> x.voice(v, 0, 0, 0, 1)));
            all.add(new Refused("off(" + v + ")", -1, x -> x.off(v)));
        }
        int[][] wrong = {{-1, 0, 0, 1}, {101, 0, 0, 1}, {0, -25, 0, 1}, {0, 25, 0, 1}, {0, 0, -1, 1}, {0, 0, 4, 1},
            {0, 0, 0, 0}, {0, 0, 0, 4}, {MIN, MAX, MIN, MAX}};
        for (int[] w : wrong) {
            for (int v = 1; v <= 3; v++) {
                int which = v;
                all.add(new Refused("voice(" + v + ", " + Arrays.toString(w) + ")", -2,
                    x -> x.voice(which, w[0], w[1], w[2], w[3])));
            }
        }
    }

    private static void addSettings(List<Refused> all) {
        for (int[] s : new int[][] {{-1, 60}, {60, 128}, {61, 60}, {128, 128}, {-1, -1}, {MIN, MAX}, {MAX, MIN}}) {
            all.add(new Refused("span(" + s[0] + ", " + s[1] + ")", -2, x -> x.span(s[0], s[1])));
        }
        for (int n : new int[] {MIN, -1, MAX}) {
            all.add(new Refused("scale(" + n + ")", -2, x -> x.scale(n)));
            all.add(new Refused("beat(" + n + ")", -2, x -> x.beat(n)));
            all.add(new Refused("round(" + n + ")", -2, x -> x.round(n)));
            all.add(new Refused("rules(" + n + ")", -2, x -> x.rules(n)));
        }
        all.add(new Refused("scale(4096)", -2, x -> x.scale(4096)));
        all.add(new Refused("beat(0)", -2, x -> x.beat(0)));
        all.add(new Refused("beat(65)", -2, x -> x.beat(65)));
        all.add(new Refused("round(401)", -2, x -> x.round(401)));
        all.add(new Refused("rules(256)", -2, x -> x.rules(256)));
    }

    private static List<Refused> withoutShifts() {
        return List.of(new Refused("shift(0, 0)", -1, x -> x.shift(0, 0)),
            new Refused("fault(0, 0)", -1, x -> x.fault(0, 0)));
    }

    private static List<Refused> voicesOff() {
        return List.of(new Refused("shifts(1)", -3, x -> x.shifts(1)),
            new Refused("shifts(2)", -3, x -> x.shifts(2)),
            new Refused("shifts(3)", -3, x -> x.shifts(3)));
    }

    private static List<Refused> openNotes() {
        return List.of(new Refused("shifts(1)", -3, x -> x.shifts(1)),
            new Refused("shifts(2)", -3, x -> x.shifts(2)),
            new Refused("fault(2000, 0)", -1, x -> x.fault(2000, 0)),
            new Refused("shift(0, 2)", -2, x -> x.shift(0, 2)));
    }

    private static List<Refused> faultsAndShifts() {
        return List.of(new Refused("fault(0, 4)", -2, x -> x.fault(0, 4)),
            new Refused("fault(0, -1)", -2, x -> x.fault(0, -1)),
            new Refused("fault(-1, 0)", -1, x -> x.fault(-1, 0)),
            new Refused("fault(2000, 0)", -1, x -> x.fault(2000, 0)),
            new Refused("shift(0, 2)", -2, x -> x.shift(0, 2)),
            new Refused("shift(0, -1)", -2, x -> x.shift(0, -1)));
    }

    private static List<Refused> noRoom() {
        return List.of(new Refused("note(60, 1)", -4, x -> x.note(60, 1)),
            new Refused("note(-1, 16)", -4, x -> x.note(-1, 16)),
            new Refused("note(-2, 16)", -4, x -> x.note(-2, 16)),
            new Refused("shifts(1)", -3, x -> x.shifts(1)),
            new Refused("shifts(3)", -3, x -> x.shifts(3)));
    }

    private static List<Refused> lineTooLong() {
        return List.of(new Refused("faults()", -3, x -> x.faults()),
            new Refused("fault(0, 0)", -3, x -> x.fault(0, 0)),
            new Refused("fault(-1, 9)", -3, x -> x.fault(-1, 9)),
            new Refused("solve(0)", -3, x -> x.solve(0)),
            new Refused("solve(3000)", -3, x -> x.solve(3000)),
            new Refused("shifts(1)", -3, x -> x.shifts(1)),
            new Refused("shifts(2)", -3, x -> x.shifts(2)));
    }

    // ---- what is asked of both

    private static List<Asked> questions() {
        List<Asked> all = new ArrayList<>();
        all.add(new Asked("told", RefusalsTest::askNotes));
        for (int v = 0; v <= 3; v++) {
            int which = v;
            all.add(new Asked("at " + v, x -> askTimes(x, which)));
            all.add(new Asked("off " + v, x -> new int[] {x.off(which), x.end()}));
        }
        all.add(new Asked("settings", x -> new int[] {x.scale(0), x.beat(1), x.round(0), x.rules(0), x.end()}));
        all.add(new Asked("span", RefusalsTest::askSpan));
        all.add(new Asked("faults", RefusalsTest::askFaults));
        all.add(new Asked("steps and shift", RefusalsTest::askFound));
        all.add(new Asked("solve", RefusalsTest::askSolve));
        all.add(new Asked("shifts", x -> new int[] {x.shifts(1), x.shift(0, 1), x.shifts(2), x.shift(0, 1), x.shifts(3)}));
        return all;
    }

    private static int[] askNotes(CanonMaker x) {
        int[] answers = new int[53];
        for (int n = 0; n < 25; n++) {
            answers[2 * n] = x.told(n, 0);
            answers[2 * n + 1] = x.told(n, 1);
        }
        answers[50] = x.size();
        answers[51] = x.end();
        answers[52] = x.note(1, 1);
        return answers;
    }

    private static int[] askTimes(CanonMaker x, int v) {
        int[] answers = new int[250];
        for (int t = 0; t < answers.length; t++) {
            answers[t] = x.at(v, t);
        }
        return answers;
    }

    /** LOW and HIGH show in which pitches of a lonely note SPAN finds. */
    private static int[] askSpan(CanonMaker x) {
        int[] answers = new int[128];
        x.cut(0);
        x.note(0, 1);
        x.round(0);
        x.rules(1);
        for (int v = 1; v <= 3; v++) {
            x.off(v);
        }
        for (int p = 0; p < answers.length; p++) {
            x.pitch(0, p);
            answers[p] = x.faults();
        }
        return answers;
    }

    private static int[] askFaults(CanonMaker x) {
        int[] answers = new int[401];
        answers[400] = x.faults();
        for (int k = 0; k < 100; k++) {
            for (int what = 0; what < 4; what++) {
                answers[4 * k + what] = x.fault(k, what);
            }
        }
        return answers;
    }

    private static int[] askFound(CanonMaker x) {
        int[] answers = new int[401];
        answers[400] = x.steps();
        for (int k = 0; k < 200; k++) {
            answers[2 * k] = x.shift(k, 0);
            answers[2 * k + 1] = x.shift(k, 1);
        }
        return answers;
    }

    private static int[] askSolve(CanonMaker x) {
        int[] answers = new int[50];
        answers[48] = x.solve(3000);
        answers[49] = x.steps();
        for (int n = 0; n < 24; n++) {
            answers[2 * n] = x.told(n, 0);
            answers[2 * n + 1] = x.told(n, 1);
        }
        return answers;
    }

    private static void refuseAll(String state, Supplier<CanonMaker> maker, List<List<Refused>> lists) {
        for (Asked asked : questions()) {
            int[] want = asked.question.ask(maker.get());
            for (List<Refused> list : lists) {
                for (Refused refused : list) {
                    CanonMaker x = maker.get();
                    CHECKS.due(state + ": " + refused.name, refused.call.applyAsInt(x), refused.want);
                    int[] got = asked.question.ask(x);
                    String name = state + ": " + asked.name + " stays after " + refused.name;
                    CHECKS.due(name, Arrays.equals(got, want) ? 1 : 0, 1);
                }
            }
        }
    }

    /** Calls that only tell something change nothing either; shifts() only what shift() tells. */
    private static void tellAll(String state, Supplier<CanonMaker> maker) {
        List<ToIntFunction<CanonMaker>> telling = List.of(x -> x.told(0, 0), x -> x.size(), x -> x.end(), x -> x.at(0, 0),
            x -> x.at(1, 5), x -> x.at(2, 9), x -> x.faults(), x -> x.fault(0, 0), x -> x.fault(7, 3), x -> x.steps(),
            x -> x.shift(0, 0), x -> x.shifts(2));
        for (int i = 0; i < telling.size(); i++) {
            for (Asked asked : questions()) {
                CanonMaker x = maker.get();
                telling.get(i).applyAsInt(x);
                boolean same = Arrays.equals(asked.question.ask(x), asked.question.ask(maker.get()));
                boolean last = i == telling.size() - 1;
                String name = state + ": " + asked.name + " stays after telling call " + i;
                CHECKS.due(name, same || last && asked.name.startsWith("steps") ? 1 : 0, 1);
            }
        }
    }

    /** -6 is a refusal too, but steps() tells of it. */
    private static void refuseSteps() {
        for (Asked asked : questions()) {
            for (int steps : new int[] {0, 1, 7}) {
                CanonMaker x = solvable();
                CHECKS.due("solve(" + steps + ")", x.solve(steps), -6);
                CHECKS.due("steps() then", x.steps(), steps);
                boolean same = Arrays.equals(asked.question.ask(x), asked.question.ask(solvable()));
                if (!asked.name.startsWith("steps")) {
                    CHECKS.due(asked.name + " stays after solve(" + steps + ")", same ? 1 : 0, 1);
                }
            }
        }
        CHECKS.due("solve(8)", solvable().solve(8), 1);
    }
}
