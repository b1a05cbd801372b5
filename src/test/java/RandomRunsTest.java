import java.util.Random;

/** All promises: long runs of chance calls, by fixed seeds, answered as the model answers them. */
final class RandomRunsTest {
    private static final int RUNS = 400;
    private static final int CALLS = 512;
    private static final int[] WILD = {Integer.MIN_VALUE, Integer.MAX_VALUE, -1, -2, 1001, 100001};

    private final Random random;
    private final BoundDraws real = new BoundDraws();
    private final Model model = new Model();
    private final Check check;
    private final int run;
    /** Whether rows and tries are many in this run, and their numbers wide. */
    private final boolean crowded;

    private RandomRunsTest(int run, Check check) {
        this.run = run;
        this.check = check;
        random = new Random(run);
        crowded = random.nextBoolean();
    }

    public static void main(String[] args) {
        Check check = new Check("RandomRunsTest");
        for (int run = 1; run <= RUNS && check.wrong() < 20; run++) {
            new RandomRunsTest(run, check).go();
        }
        check.end();
    }

    private void go() {
        for (int call = 0; call < CALLS; call++) {
            one();
        }
    }

    private void same(String what, Check.Call want, Check.Call got) {
        check.compare("run " + run + ": " + what, Check.outcome(want), Check.outcome(got));
    }

    private int near(int least, int most) {
        int kind = random.nextInt(60);
        if (kind == 0) {
            return WILD[random.nextInt(WILD.length)];
        }
        if (kind == 1) {
            return least - 1;
        }
        if (kind == 2) {
            return most + 1;
        }
        if (kind < 6) {
            return least;
        }
        if (kind < 10) {
            return most;
        }
        return most <= least ? least : least + random.nextInt(most - least + 1);
    }

    private void one() {
        int kind = random.nextInt(crowded ? 34 : 40);
        if (kind < 5) {
            hitsCall(random.nextInt(12));
        } else if (kind < 14) {
            rowsCall(random.nextInt(20));
        } else if (kind < 19) {
            drawnCall(random.nextInt(8));
        } else if (kind < 24) {
            comparesCall(random.nextInt(20));
        } else if (kind < 32) {
            testCall(random.nextInt(80));
        } else if (random.nextInt(100) == 0) {
            same("clear()", model::clear, real::clear);
        } else {
            int what = near(0, 3);
            same("count(" + what + ")", () -> model.count(what), () -> real.count(what));
        }
    }

    private void hitsCall(int kind) {
        int n = near(0, 30);
        int k = near(0, Math.max(0, Math.min(n, 30)));
        int down = near(1, random.nextBoolean() ? 10 : 1000);
        int up = near(0, Math.max(0, Math.min(down, 1000)));
        int side = near(0, 1);
        int b = near(1, random.nextBoolean() ? 20 : 1000);
        int a = near(0, Math.max(0, Math.min(b, 1000)));
        if (kind < 7) {
            int i = near(0, 10);
            same("above(" + n + ", " + k + ", " + up + ", " + down + ", " + side + ", " + i + ")",
                    () -> model.above(n, k, up, down, side, i), () -> real.above(n, k, up, down, side, i));
        } else if (kind < 11) {
            same("odds(" + n + ", " + k + ", " + up + ", " + down + ", " + side + ", " + a + ", " + b + ")",
                    () -> model.odds(n, k, up, down, side, a, b), () -> real.odds(n, k, up, down, side, a, b));
        } else {
            same("bound(" + n + ", " + k + ", " + side + ", " + a + ", " + b + ")",
                    () -> model.bound(n, k, side, a, b), () -> real.bound(n, k, side, a, b));
        }
    }

    private void rowsCall(int kind) {
        int t = near(0, 101);
        int side = near(0, 1);
        if (kind < 8) {
            int group = near(0, 7);
            int x = near(0, crowded ? 100 : 5);
            int y = near(0, crowded ? 100 : 5);
            same("row(" + group + ", " + x + ", " + y + ")",
                    () -> model.row(group, x, y), () -> real.row(group, x, y));
        } else if (kind < 10) {
            same("drop()", model::drop, real::drop);
        } else if (kind < 14) {
            boolean groups = random.nextBoolean();
            int what = near(0, 2);
            same("turned(" + groups + ", " + what + ")",
                    () -> model.turned(groups, what), () -> real.turned(groups, what));
        } else if (kind < 17) {
            same("wins(" + t + ", " + side + ")", () -> model.wins(t, side), () -> real.wins(t, side));
        } else {
            same("even(" + t + ", " + side + ")", () -> model.even(t, side), () -> real.even(t, side));
        }
    }

    private void drawnCall(int kind) {
        int side = near(0, 1);
        if (kind < 2) {
            long seed = random.nextInt(4) == 0 ? near(-3, 3) : random.nextLong();
            int times = near(1, 60);
            boolean groups = random.nextBoolean();
            same("draw(" + seed + ", " + times + ", " + groups + ")",
                    () -> model.draw(seed, times, groups), () -> real.draw(seed, times, groups));
        } else if (kind < 4) {
            int i = near(0, 59);
            same("drawn(" + i + ", " + side + ")", () -> model.drawn(i, side), () -> real.drawn(i, side));
        } else if (kind < 7) {
            int down = near(1, random.nextBoolean() ? 10 : 1000);
            int up = near(0, Math.max(0, Math.min(down, 1000)));
            same("percentile(" + up + ", " + down + ", " + side + ")",
                    () -> model.percentile(up, down, side), () -> real.percentile(up, down, side));
        } else {
            same("share()", model::share, real::share);
        }
    }

    private void comparesCall(int kind) {
        if (kind < 7) {
            int down = near(1, random.nextBoolean() ? 20 : 100000);
            int up = near(0, Math.max(0, random.nextBoolean() ? Math.min(down, 3) : Math.min(down, 100000)));
            same("compare(" + up + ", " + down + ")", () -> model.compare(up, down), () -> real.compare(up, down));
        } else if (kind < 19 || random.nextInt(4) != 0) {
            int way = near(0, 2);
            int number = near(0, 9);
            int side = near(0, 1);
            same("raised(" + way + ", " + number + ", " + side + ")",
                    () -> model.raised(way, number, side), () -> real.raised(way, number, side));
        } else {
            same("forget()", model::forget, real::forget);
        }
    }

    private void testCall(int kind) {
        if (kind == 0 || kind == 1 && !crowded) {
            int down = near(2, random.nextBoolean() ? 10 : 100);
            int up = near(1, Math.max(1, Math.min(down, 100) - 1));
            int b = near(2, random.nextBoolean() ? 20 : 1000);
            int a = near(1, Math.max(1, Math.min(b, 1000) - 1));
            same("begin(" + up + ", " + down + ", " + a + ", " + b + ")",
                    () -> model.begin(up, down, a, b), () -> real.begin(up, down, a, b));
        } else if (kind < 50) {
            boolean is = random.nextInt(10) < 1 + run % 9;
            same("hit(" + is + ")", () -> model.hit(is), () -> real.hit(is));
        } else {
            int what = near(0, 3);
            same("test(" + what + ")", () -> model.test(what), () -> real.test(what));
        }
    }
}
