import java.util.Random;

/** Runs of drawn calls on a new object and on PlainModel: every answer must be the same, and every digest. */
public final class ModelTest {
    private static final int RUNS = 1500;
    /** The document promises nothing of later calls of an object. */
    private static final int CALLS = 512;
    private static final int MOST_CALLS_A_STEP = 10;
    private static final Check CHECK = new Check("ModelTest");

    private final LateCopies x = new LateCopies();
    private final PlainModel model = new PlainModel();
    private final Random random;
    private final StringBuilder told = new StringBuilder();
    private final int mood;
    private int calls = 0;

    private ModelTest(long seed) {
        random = new Random(seed);
        mood = random.nextInt(4);
    }

    public static void main(String[] args) {
        for (int run = 0; run < RUNS && CHECK.wrong() == 0; run++) {
            new ModelTest(run).play(run);
        }
        CHECK.end();
    }

    private void play(int run) {
        for (int n = 0; calls + MOST_CALLS_A_STEP <= CALLS && CHECK.wrong() == 0; n++) {
            if (model.count(1) == 0 && n > 20 || random.nextInt(120) == 0) {
                readLine();
            } else {
                call();
            }
            if (n % 32 == 31) {
                due("digest()", x.digest(), model.digest());
            }
        }
        if (CHECK.wrong() != 0) {
            System.out.println("run " + run + ":" + told);
        }
    }

    private void due(String call, long got, long want) {
        calls++;
        told.append(' ').append(call);
        CHECK.due(call, got, want);
    }

    /** Mostly within the bounds, now and then at their edges or far outside. */
    private int near(int least, int most) {
        int dice = random.nextInt(40);
        if (dice == 0) {
            return least - 1;
        }
        if (dice == 1) {
            return most + 1;
        }
        if (dice == 2) {
            return random.nextInt();
        }
        return least + random.nextInt(most - least + 1);
    }

    private int site() {
        return near(0, Math.max(0, model.count(1) - 1));
    }

    private int key() {
        return mood == 0 ? near(0, 3) : near(0, 1);
    }

    private int seed() {
        return random.nextInt(20) == 0 ? random.nextInt() : random.nextInt(Integer.MAX_VALUE);
    }

    private void readLine() {
        due("blank()", x.blank(), model.blank());
        int length = 2 + random.nextInt(5);
        int position = random.nextInt(4);
        for (int i = 0; i < length; i++) {
            int code = '0' + position;
            due("letter(" + code + ")", x.letter(code), model.letter(code));
            position = Math.min(9, position + random.nextInt(4));
        }
        due("fault()", x.fault(), model.fault());
        due("line()", x.line(), model.line());
    }

    private void call() {
        int dice = random.nextInt(100);
        if (dice < 8) {
            text();
        } else if (dice < 60) {
            deed();
        } else {
            question();
        }
    }

    private void text() {
        switch (random.nextInt(6)) {
            case 0 -> due("blank()", x.blank(), model.blank());
            case 1 -> due("fault()", x.fault(), model.fault());
            case 2 -> {
                if (random.nextInt(8) == 0) {
                    due("line()", x.line(), model.line());
                }
            }
            default -> {
                int code = random.nextInt(3) == 0 ? near(32, 126) : near('0', '9');
                due("letter(" + code + ")", x.letter(code), model.letter(code));
            }
        }
    }

    private void deed() {
        int a = site();
        int b = site();
        int k = key();
        switch (random.nextInt(mood == 1 ? 13 : 15)) {
            case 0 -> {
                int what = near(0, 3);
                int v = near(0, new int[] {12, 20, 3, 12}[what & 3]);
                due("set(" + what + ", " + v + ")", x.set(what, v), model.set(what, v));
            }
            case 1, 2 -> {
                int v = near(0, 9);
                due("put(" + a + ", " + k + ", " + v + ")", x.put(a, k, v), model.put(a, k, v));
            }
            case 3, 4 -> {
                int n = near(1, 3);
                due("remove(" + a + ", " + k + ", " + n + ")", x.remove(a, k, n), model.remove(a, k, n));
            }
            case 5, 6, 7 -> {
                int n = mood == 3 && random.nextInt(3) == 0 ? near(1, 300) : near(1, 4);
                due("pass(" + n + ")", x.pass(n), model.pass(n));
            }
            case 8 -> {
                boolean is = random.nextInt(5) < 2;
                due("off(" + a + ", " + is + ")", x.off(a, is), model.off(a, is));
            }
            case 9, 10, 13 -> due("exchange(" + a + ", " + b + ")", x.exchange(a, b), model.exchange(a, b));
            default -> due("rumour(" + a + ", " + b + ")", x.rumour(a, b), model.rumour(a, b));
        }
    }

    private void question() {
        int a = site();
        int b = site();
        switch (random.nextInt(9)) {
            case 0, 1 -> {
                int k = key();
                int what = near(0, 6);
                due("has(" + a + ", " + k + ", " + what + ")", x.has(a, k, what), model.has(a, k, what));
            }
            case 2 -> {
                int kind = near(0, 2);
                due("newest(" + a + ", " + kind + ")", x.newest(a, kind), model.newest(a, kind));
            }
            case 3 -> due("alike(" + a + ", " + b + ")", x.alike(a, b), model.alike(a, b));
            case 4 -> {
                int k = key();
                due("risen(" + k + ")", x.risen(k), model.risen(k));
            }
            case 5 -> {
                int seed = seed();
                int what = near(0, 1);
                due("partner(" + a + ", " + seed + ", " + what + ")", x.partner(a, seed, what),
                    model.partner(a, seed, what));
            }
            case 6, 7 -> {
                int seed = seed();
                int what = near(0, 2);
                boolean rumours = random.nextBoolean();
                due("settle(" + seed + ", " + rumours + ", " + what + ")", x.settle(seed, rumours, what),
                    model.settle(seed, rumours, what));
            }
            default -> {
                int what = near(0, 11);
                due("count(" + what + ")", x.count(what), model.count(what));
            }
        }
    }
}
