import java.util.Random;

/** Runs of up to 512 calls, always the same ones, on the class and on the model: the answers are the same. */
public final class ModelTest {
    private static final Check C = new Check();

    /** One run: its calls, and how its numbers are drawn. */
    private static final class Run {
        private final Random random;
        private final PatternColumns x = new PatternColumns();
        private final Model model = new Model();
        private final int widest;
        private final int mostSteps;
        private final StringBuilder told = new StringBuilder();

        Run(long seed) {
            random = new Random(seed);
            widest = new int[] {8, 40, 120, 1000}[random.nextInt(4)];
            mostSteps = new int[] {5, 60, 3000}[random.nextInt(3)];
        }

        /** Mostly from low to high, now and then just outside or far outside. */
        private int draw(int low, int high) {
            int kind = random.nextInt(40);
            if (kind == 0) return low - 1;
            if (kind == 1) return high + 1;
            if (kind == 2) return random.nextInt();
            if (kind == 3) return high;
            if (kind == 4) return low;
            return low + random.nextInt(high - low + 1);
        }

        private void both(String call, Check.Ask one, Check.Ask other) {
            told.append(call).append('\n');
            String got = Check.answer(one);
            String want = Check.answer(other);
            C.isTrue(call + " answered " + got + ", due is " + want, got.equals(want));
        }

        /** Five full orders and all the steps that there may be. */
        void designLong() {
            for (int i = 0; i < 5; i++) {
                int w = 10 + random.nextInt(50);
                both("order(" + w + ", 6)", () -> x.order(w, 6), () -> model.order(w, 6));
            }
            both("design(100000)", () -> x.design(100000), () -> model.design(100000));
            both("designed(0)", () -> x.designed(0), () -> model.designed(0));
            both("designed(1)", () -> x.designed(1), () -> model.designed(1));
            for (int k = 0; k <= 30; k++) {
                cutsOf(k);
            }
        }

        private void cutsOf(int k) {
            for (int i = 0; i < 5; i++) {
                int o = i;
                both("cut(" + k + ", " + o + ")", () -> x.cut(k, o), () -> model.cut(k, o));
            }
        }

        void call() {
            switch (random.nextInt(20)) {
                case 0: case 1: tell(); break;
                case 2: case 3: case 4: tellOrder(); break;
                case 5: {
                    int o = draw(0, 4);
                    int p = draw(0, random.nextBoolean() ? 1000 : 4);
                    both("price(" + o + ", " + p + ")", () -> { x.price(o, p); return 0; },
                            () -> { model.price(o, p); return 0; });
                    break;
                }
                case 6: both("column()", x::column, model::column); break;
                case 7: {
                    int o = draw(0, 4);
                    both("columnOf(" + o + ")", () -> x.columnOf(o), () -> model.columnOf(o));
                    break;
                }
                case 8: both("bound()", x::bound, model::bound); break;
                case 9: both("gap()", x::gap, model::gap); break;
                case 10: {
                    int w = draw(0, 1);
                    both("designed(" + w + ")", () -> x.designed(w), () -> model.designed(w));
                    break;
                }
                case 11: case 12: case 13: askKept(); break;
                default: designAndAsk(); break;
            }
        }

        private void tell() {
            int w = draw(1, widest);
            both("sheet(" + w + ")", () -> { x.sheet(w); return 0; }, () -> { model.sheet(w); return 0; });
        }

        private void tellOrder() {
            int n = draw(0, 6);
            if (random.nextInt(3) == 0) {
                int w = draw(1, Math.max(1, widest / 2));
                both("order(" + w + ", " + n + ")", () -> x.order(w, n), () -> model.order(w, n));
            } else {
                int o = draw(0, 4);
                both("pieces(" + o + ", " + n + ")", () -> { x.pieces(o, n); return 0; },
                        () -> { model.pieces(o, n); return 0; });
            }
        }

        private void askKept() {
            int i = draw(0, 6);
            int w = draw(0, 6);
            both("kept(" + i + ", " + w + ")", () -> x.kept(i, w), () -> model.kept(i, w));
            both("fitting(" + i + ")", () -> x.fitting(i), () -> model.fitting(i));
        }

        private void designAndAsk() {
            if (random.nextInt(3) == 0) {
                int n = random.nextInt(30) == 0 ? draw(0, 100000) : random.nextInt(mostSteps);
                both("design(" + n + ")", () -> x.design(n), () -> model.design(n));
            }
            int k = draw(0, 6);
            int o = draw(0, 4);
            int day = draw(0, 9999);
            both("cut(" + k + ", " + o + ")", () -> x.cut(k, o), () -> model.cut(k, o));
            both("over(" + k + ")", () -> x.over(k), () -> model.over(k));
            both("keep(" + k + ", " + day + ")", () -> x.keep(k, day), () -> model.keep(k, day));
        }
    }

    public static void main(String[] args) {
        for (long seed = 1; seed <= 1500; seed++) {
            Run run = new Run(seed);
            for (int n = 0; n < 120; n++) {
                run.call();
                endIfWrong(seed, run);
            }
        }
        for (long seed = 1; seed <= 30; seed++) {
            Run run = new Run(seed);
            run.designLong();
            endIfWrong(seed, run);
        }
        C.end("ModelTest");
    }

    private static void endIfWrong(long seed, Run run) {
        if (C.anyWrong()) {
            System.out.println("run " + seed + ", its calls:\n" + run.told);
            C.end("ModelTest");
        }
    }

    private ModelTest() {
    }
}
