import java.util.Random;

/** Runs of 512 calls, the same each time, in which program and model must answer alike. */
public final class ModelTest {
    private static final int RUNS = 3000;
    private static final int CALLS = 512;
    private static final int LEAST_DEEDS = 100;
    private static final int MOST_DEEDS = 450;
    private static final int MOST_WRONG = 20;

    private static final Due DUE = new Due("ModelTest");

    private final Random random;
    private final HouseWorkers house = new HouseWorkers();
    private final HouseModel model = new HouseModel();
    private final int run;
    private final int[] weights;
    private int begun;
    private int calls;

    private ModelTest(int run) {
        this.run = run;
        random = new Random(run);
        weights = new int[14];
        for (int i = 0; i < weights.length; i++) {
            weights[i] = 1 + random.nextInt(8);
        }
        // A house that closes early has little to tell, and one that runs to its end at once too.
        weights[9] = run % 4 == 0 ? 1 : 0;
        weights[7] = run % 3;
        weights[6] = 10 + random.nextInt(30);
    }

    public static void main(String[] args) {
        for (int run = 0; run < RUNS && DUE.wrong() < MOST_WRONG; run++) {
            ModelTest test = new ModelTest(run);
            test.mixedCalls();
            test.lastQuestions();
        }
        DUE.close();
    }

    private void mixedCalls() {
        int until = LEAST_DEEDS + random.nextInt(MOST_DEEDS - LEAST_DEEDS);
        for (int i = 0; calls < until && DUE.wrong() < MOST_WRONG; i++) {
            call(i);
        }
    }

    /** What the run has come to, up to the last call that the document promises an answer to. */
    private void lastQuestions() {
        while (calls < CALLS) {
            int most = Math.max(0, begun - 1);
            switch (random.nextInt(4)) {
                case 0 -> tellCall(near(0, most), near(0, 5));
                case 1 -> endedCall(near(0, begun), near(0, 2));
                case 2 -> countCall(near(0, 5));
                default -> cellCall(near(0, begun), near(0, 15));
            }
        }
    }

    private int near(int least, int most) {
        int chance = random.nextInt(40);
        if (chance == 0) {
            return least - 1;
        }
        if (chance == 1) {
            return most + 1;
        }
        if (chance == 2) {
            return random.nextInt();
        }
        return least + random.nextInt(most - least + 1);
    }

    private int number() {
        return random.nextInt(3) == 0 ? random.nextInt() : random.nextInt(41) - 20;
    }

    private int steps() {
        return random.nextInt(3) == 0 ? near(1, 20) : near(1, 4);
    }

    private int failsAt() {
        return random.nextInt(2) == 0 ? 0 : near(0, random.nextInt(2) == 0 ? 5 : 30);
    }

    private int pick(int step) {
        if (step < 10 && random.nextInt(2) == 0) {
            return 0;
        }
        int all = 0;
        for (int w : weights) {
            all += w;
        }
        int left = random.nextInt(all);
        int which = 0;
        while (left >= weights[which]) {
            left -= weights[which];
            which++;
        }
        return which;
    }

    private void same(String call, int want, int got) {
        calls++;
        DUE.is("run " + run + ": " + call, want, got);
    }

    private void call(int step) {
        int which = pick(step);
        if (which >= 2 && which <= 5 && begun > 5 && random.nextInt(6) != 0) {
            which = 6;
        }
        int a = near(0, Math.max(0, begun - 1));
        switch (which) {
            case 0 -> putCall(near(0, 15), number());
            case 1 -> runCall(near(0, random.nextInt(2) == 0 ? 6 : 1000));
            case 2 -> questionCall(steps(), failsAt(), near(0, 15));
            case 3 -> writerCall(steps(), failsAt(), near(0, 15), number());
            case 4 -> reasonCall(steps(), failsAt());
            case 5 -> streamCall();
            case 6 -> same("turn(" + a + ")", model.turn(a), house.turn(a));
            case 7 -> runCall(near(0, 3));
            case 8 -> same("cancel(" + a + ")", model.cancel(a), house.cancel(a));
            case 9 -> same("close()", model.close(), house.close());
            case 10 -> tellCall(a, near(0, 5));
            case 11 -> endedCall(near(0, begun), near(0, 2));
            case 12 -> countCall(near(0, 5));
            default -> cellCall(near(0, begun), near(0, 15));
        }
    }

    private void began(String call, int want, int got) {
        same(call, want, got);
        if (want >= 0) {
            begun = want + 1;
        }
    }

    private void putCall(int cell, int v) {
        same("put(" + cell + ", " + v + ")", model.put(cell, v), house.put(cell, v));
    }

    private void questionCall(int steps, int failsAt, int first) {
        began("question(" + steps + ", " + failsAt + ", " + first + ")",
            model.question(steps, failsAt, first), house.question(steps, failsAt, first));
    }

    private void writerCall(int steps, int failsAt, int first, int by) {
        began("writer(" + steps + ", " + failsAt + ", " + first + ", " + by + ")",
            model.writer(steps, failsAt, first, by), house.writer(steps, failsAt, first, by));
    }

    private void reasonCall(int rounds, int failsAt) {
        began("reason(" + rounds + ", " + failsAt + ")", model.reason(rounds, failsAt), house.reason(rounds, failsAt));
    }

    private void streamCall() {
        began("stream()", model.stream(), house.stream());
    }

    private void runCall(int most) {
        same("run(" + most + ")", model.run(most), house.run(most));
    }

    private void tellCall(int work, int what) {
        same("told(" + work + ", " + what + ")", model.told(work, what), house.told(work, what));
    }

    private void endedCall(int i, int what) {
        same("ended(" + i + ", " + what + ")", model.ended(i, what), house.ended(i, what));
    }

    private void countCall(int what) {
        same("count(" + what + ")", model.count(what), house.count(what));
    }

    private void cellCall(int version, int cell) {
        same("cell(" + version + ", " + cell + ")", model.cell(version, cell), house.cell(version, cell));
    }
}
