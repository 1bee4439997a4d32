import java.util.Random;

/** All promises: runs of random calls, each answered as the model answers it. */
public final class RandomRunsTest {
    private static final int RUNS = 1500;
    private static final int MOST_CALLS = 512;
    /** What one step of a run makes at most: three calls of put and one of read. */
    private static final int MOST_CALLS_A_STEP = 4;
    private static final int[] EXTREMES = {Integer.MIN_VALUE, -7, -6, -1, 12, 13, 101, 1000, Integer.MAX_VALUE};
    private static final int[] GREATEST = {999, 999, 100, 100, 5, 100};
    private static final String[] PLANS = {"5@0,6@2", "1@11,9@4,3", "7@10,7@1,7@5,7", "5@1,5@1", "9", "2@3,4@5,6@7,8@9,1@0",
        "1,2,3,4,5,6,7,8", "1,2,3,4,5,6,7,8,9", "5@12", "5@", ",", "0", "3@00"};

    private final Due due = new Due();
    private Random random;
    private PuppetPitches x;
    private Model model;
    /** Calls on x so far in this run. */
    private int calls;

    public static void main(String[] args) {
        RandomRunsTest test = new RandomRunsTest();
        for (int seed = 0; seed < RUNS; seed++) {
            test.run(seed);
        }
        test.due.end();
    }

    private void run(int seed) {
        random = new Random(seed);
        x = new PuppetPitches();
        model = new Model();
        calls = 0;
        while (calls + MOST_CALLS_A_STEP <= MOST_CALLS) {
            int kind = random.nextInt(30);
            String name = "run " + seed + ", call " + calls + ", kind " + kind;
            calls++;
            if (kind < 14) {
                change(name, kind);
            } else {
                ask(name, kind);
            }
        }
    }

    /** A number from least to greatest, now and then one beside them. */
    private int any(int least, int greatest) {
        switch (random.nextInt(20)) {
            case 0:
                return EXTREMES[random.nextInt(EXTREMES.length)];
            case 1:
                return least - 1;
            case 2:
                return greatest + 1;
            default:
                return least + random.nextInt(greatest - least + 1);
        }
    }

    private int anyBooth() {
        return any(0, Math.max(0, model.count(7) - 1));
    }

    private void change(String name, int kind) {
        int booth = anyBooth();
        int height = any(1, 9);
        int pitch = random.nextInt(6) == 0 ? PuppetPitches.NONE : any(0, 11);
        int setting = any(0, 5);
        int value = any(0, GREATEST[Math.floorMod(setting, 6)]);
        boolean isRoofed = random.nextBoolean();
        int number = random.nextInt();
        switch (kind) {
            case 0 -> due.is(name, x.set(setting, value), model.set(setting, value));
            case 1 -> due.is(name, x.roof(pitch, isRoofed), model.roof(pitch, isRoofed));
            case 2, 3 -> due.is(name, x.come(height), model.come(height));
            case 4 -> due.is(name, x.go(booth), model.go(booth));
            case 5 -> due.is(name, x.height(booth, height), model.height(booth, height));
            case 6, 7 -> due.is(name, x.stand(booth, pitch), model.stand(booth, pitch));
            case 8 -> due.is(name, x.shuffle(number), model.shuffle(number));
            case 9, 10 -> due.is(name, x.play(), model.play());
            case 11 -> readPlan(name);
            case 12 -> due.is(name, x.undo(), model.undo());
            default -> {
                int slot = any(0, 1);
                if (isRoofed) {
                    due.is(name, x.save(slot), model.save(slot));
                } else {
                    due.is(name, x.restore(slot), model.restore(slot));
                }
            }
        }
    }

    private void readPlan(String name) {
        if (random.nextInt(3) == 0) {
            String plan = PLANS[random.nextInt(PLANS.length)];
            for (int i = 0; i < plan.length(); i += 8) {
                long letters = Due.packed(plan.substring(i, Math.min(i + 8, plan.length())));
                due.is(name, x.put(letters), model.put(letters));
                calls++;
            }
        }
        due.is(name, x.read(), model.read());
    }

    private void ask(String name, int kind) {
        int booth = anyBooth();
        int pitch = any(0, 11);
        int what = any(0, kind < 17 ? 7 : 2);
        int number = any(0, 16);
        int place = any(0, 7);
        int side = any(0, 1);
        int way = any(0, 1);
        int days = random.nextInt(8) == 0 ? any(1, 100) : any(1, 3);
        switch (kind) {
            case 14, 15, 16 -> due.is(name, x.booth(booth, what), model.booth(booth, what));
            case 17 -> due.is(name, x.pitch(pitch, what), model.pitch(pitch, what));
            case 18, 19 -> due.is(name, x.seen(booth, side, way), model.seen(booth, side, way));
            case 20, 21 -> due.is(name, x.count(number), model.count(number));
            case 22 -> due.is(name, x.lot(place), model.lot(place));
            case 23 -> due.is(name, x.ifStood(booth, pitch), model.ifStood(booth, pitch));
            case 24 -> due.is(name, x.bestPitch(booth), model.bestPitch(booth));
            case 25 -> due.is(name, x.ifPlayed(days, side), model.ifPlayed(days, side));
            case 26 -> due.is(name, x.bestHeight(booth), model.bestHeight(booth));
            case 27 -> putAnything(name);
            case 28 -> due.is(name, x.fault(), model.fault());
            default -> due.is(name, x.wipe(), model.wipe());
        }
    }

    /** Letters of a plan for the most part, so that plans come near to being right. */
    private void putAnything(String name) {
        String letters = "123456789,,,,@@@@01";
        long packed = 0;
        for (int left = random.nextInt(9); left > 0; left--) {
            int code = random.nextInt(60) == 0 ? random.nextInt(256) : letters.charAt(random.nextInt(letters.length()));
            packed = packed << 8 | code;
        }
        due.is(name, x.put(packed), model.put(packed));
    }
}
