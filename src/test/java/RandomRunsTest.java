import java.util.ArrayList;
import java.util.List;
import java.util.Random;
import java.util.function.LongSupplier;

/** Runs of calls, the same ones at each test, on the program and on ReferenceStudio. */
public final class RandomRunsTest {
    private static final int RUNS = 300;
    private static final int CALLS = 512;

    private final Random random;
    private final StudioAirtime x = new StudioAirtime();
    private final ReferenceStudio y = new ReferenceStudio();
    private final List<String> calls = new ArrayList<>();
    private final int manner;
    private boolean wrong;

    private RandomRunsTest(int seed) {
        random = new Random(seed);
        manner = seed % 4;
    }

    public static void main(String[] args) {
        for (int seed = 0; seed < RUNS; seed++) {
            RandomRunsTest run = new RandomRunsTest(seed);
            for (int call = 0; call < CALLS && !run.wrong; call++) {
                run.step();
            }
            if (run.wrong) {
                System.out.println("run " + seed + " differs at its last call:");
                run.calls.forEach(System.out::println);
                System.exit(1);
            }
        }
        System.out.println(RUNS + " random runs are as the reference");
    }

    private static String answer(LongSupplier call) {
        try {
            return Long.toString(call.getAsLong());
        } catch (RuntimeException e) {
            return e.getClass().getSimpleName();
        }
    }

    private void same(String call, LongSupplier program, LongSupplier reference) {
        String want = answer(reference);
        String got = answer(program);
        calls.add(call + " -> " + got + (got.equals(want) ? "" : ", due is " + want));
        wrong |= !got.equals(want);
    }

    private int upTo(int greatest) {
        return random.nextInt(greatest + 1);
    }

    /** Mostly a number of the range, now and then its ends, what is just outside, or something far away. */
    private int near(int least, int greatest) {
        switch (random.nextInt(60)) {
            case 0: return least - 1;
            case 1: return greatest + 1;
            case 2: return least;
            case 3: return greatest;
            case 4: return random.nextInt();
            case 5: return random.nextBoolean() ? Integer.MAX_VALUE : Integer.MIN_VALUE;
            default: return least + random.nextInt(greatest - least + 1);
        }
    }

    private int someShow() {
        return near(0, Math.max(0, x.count(1) - 1));
    }

    /** Few days and starts that follow one another closely let shows meet, wait and be dropped. */
    private int someDay() {
        return manner == 0 ? near(0, 6) : manner == 1 && random.nextInt(8) > 0 ? 0 : near(0, 2 * manner);
    }

    private int someStart() {
        switch (random.nextInt(6)) {
            case 0: return near(0, 1439);
            case 1: return 480 + 5 * upTo(180);
            case 2: return 1200 + upTo(180);
            default: return behindSomeShow();
        }
    }

    private int behindSomeShow() {
        int shows = x.count(1);
        if (shows == 0) {
            return 480 + upTo(60);
        }
        int show = random.nextInt(shows);
        return Math.min(1439, x.show(show, 3) + x.show(show, 4) + (random.nextBoolean() ? 0 : upTo(20)));
    }

    private int someLength() {
        return random.nextInt(3) == 0 ? near(5, 240) : 5 + upTo(40);
    }

    private int someSponsors() {
        return random.nextInt(3) == 0 ? near(0, 30) : upTo(5);
    }

    private void step() {
        int dice = random.nextInt(100);
        if (dice < 26) {
            changeShows(dice);
        } else if (dice < 34) {
            changeSettings();
        } else if (dice < 42) {
            changeOverrun();
        } else if (dice < 46) {
            text();
        } else if (dice < 48) {
            same("closeWeek()", x::closeWeek, y::closeWeek);
        } else if (dice < 52) {
            same("undo()", x::undo, y::undo);
        } else if (dice < 60) {
            same("digest()", x::digest, y::digest);
        } else {
            ask();
        }
        if (calls.size() % 64 == 0) {
            same("digest()", x::digest, y::digest);
        }
    }

    private void changeShows(int dice) {
        int day = someDay();
        int start = someStart();
        if (dice < 14) {
            boolean live = random.nextBoolean();
            int group = near(0, 5);
            int length = someLength();
            int sponsors = someSponsors();
            same("add(" + live + ", " + group + ", " + day + ", " + start + ", " + length + ", " + sponsors + ")",
                    () -> x.add(live, group, day, start, length, sponsors),
                    () -> y.add(live, group, day, start, length, sponsors));
        } else if (dice < 24) {
            int original = someShow();
            int later = random.nextBoolean() ? day : near(0, 6);
            same("repeat(" + original + ", " + later + ", " + start + ")",
                    () -> x.repeat(original, later, start), () -> y.repeat(original, later, start));
        } else {
            int show = someShow();
            same("remove(" + show + ")", () -> x.remove(show), () -> y.remove(show));
        }
    }

    private void changeSettings() {
        int[][] ranges = {{0, 720}, {721, 1440}, {0, 120}, {0, 240}, {1, 100}, {0, 100}, {0, 30}, {0, 600}};
        if (random.nextInt(3) == 0) {
            int group = near(0, 5);
            int minutes = random.nextBoolean() ? near(0, 2000) : upTo(500);
            same("setQuota(" + group + ", " + minutes + ")",
                    () -> x.setQuota(group, minutes), () -> y.setQuota(group, minutes));
            return;
        }
        int setting = near(0, 7);
        int[] range = setting < 0 || setting > 7 ? new int[] {0, 2000} : ranges[setting];
        int value = random.nextInt(3) > 0 && setting < 5 ? mildValue(setting, range) : near(range[0], range[1]);
        same("set(" + setting + ", " + value + ")", () -> x.set(setting, value), () -> y.set(setting, value));
    }

    private int mildValue(int setting, int[] range) {
        switch (setting) {
            case 0: return 400 + upTo(160);
            case 1: return 1320 + upTo(120);
            case 4: return 1 + upTo(24);
            default: return near(range[0], range[1]);
        }
    }

    private void changeOverrun() {
        int show = someShow();
        int by = near(-60, 120);
        same("overrun(" + show + ", " + by + ")", () -> x.overrun(show, by), () -> y.overrun(show, by));
    }

    private void type(String characters) {
        for (int i = 0; i < characters.length(); i++) {
            int code = characters.charAt(i);
            same("append(" + code + ")", () -> x.append(code), () -> y.append(code));
        }
    }

    private void text() {
        int parts = 1 + upTo(2);
        for (int i = 0; i < parts; i++) {
            StringBuilder part = new StringBuilder(i == 0 ? "" : ";");
            if (random.nextInt(3) == 0) {
                part.append('R').append(Math.abs(someShow() % 30));
            } else {
                part.append(random.nextBoolean() ? 'L' : 'T').append(upTo(5));
            }
            boolean isRepeat = part.indexOf("R") >= 0;
            part.append('.').append(upTo(6)).append('@').append(Math.abs(someStart() % 10000));
            if (!isRepeat) {
                part.append('+').append(random.nextInt(10) == 0 ? upTo(400) : 5 + upTo(60));
                part.append(random.nextBoolean() ? "" : ":" + upTo(random.nextInt(10) == 0 ? 40 : 5));
            }
            if (random.nextInt(10) == 0) {
                part.insert(random.nextInt(part.length() + 1), (char) (33 + random.nextInt(94)));
            }
            if (random.nextInt(12) == 0) {
                part.deleteCharAt(random.nextInt(part.length()));
            }
            type(part.toString());
        }
        same("firstError()", x::firstError, y::firstError);
        same("digest()", x::digest, y::digest);
        same("load()", x::load, y::load);
        same("reason()", x::reason, y::reason);
        if (random.nextInt(3) > 0) {
            same("clearBuffer()", x::clearBuffer, y::clearBuffer);
        }
    }

    private void ask() {
        int show = someShow();
        int by = near(-60, 120);
        int group = near(0, 5);
        int day = near(0, 6);
        int start = someStart();
        int length = someLength();
        switch (random.nextInt(16)) {
            case 0: same("reason()", x::reason, y::reason); break;
            case 1: case 2: both("show", show, near(0, 11), x::show, y::show); break;
            case 3: both("group", group, near(0, 8), x::group, y::group); break;
            case 4: both("day", day, near(0, 7), x::day, y::day); break;
            case 5: askSponsors(day, near(0, 23), random.nextBoolean()); break;
            case 6: askCount(near(0, 7)); break;
            case 7: askSetting(near(0, 7)); break;
            case 8: case 9:
                same("why(" + group + ", " + day + ", " + start + ", " + length + ")",
                        () -> x.why(group, day, start, length), () -> y.why(group, day, start, length));
                break;
            case 10:
                same("firstTime(" + group + ", " + day + ", " + length + ")",
                        () -> x.firstTime(group, day, length), () -> y.firstTime(group, day, length));
                break;
            case 11: same("firstRepeat(" + show + ")", () -> x.firstRepeat(show), () -> y.firstRepeat(show)); break;
            case 12: askOverrun(show, by, near(0, 7)); break;
            case 13:
                same("greatestOverrun(" + show + ")", () -> x.greatestOverrun(show), () -> y.greatestOverrun(show));
                break;
            case 14:
                same("share()", () -> Double.doubleToLongBits(x.share()), () -> Double.doubleToLongBits(y.share()));
                break;
            default:
                type(String.valueOf((char) near(33, 126)));
                same("firstError()", x::firstError, y::firstError);
        }
    }

    private interface TwoNumbers {
        int of(int a, int b);
    }

    private void both(String name, int a, int b, TwoNumbers program, TwoNumbers reference) {
        same(name + "(" + a + ", " + b + ")", () -> program.of(a, b), () -> reference.of(a, b));
    }

    private void askSponsors(int day, int hour, boolean onAir) {
        same("sponsors(" + day + ", " + hour + ", " + onAir + ")",
                () -> x.sponsors(day, hour, onAir), () -> y.sponsors(day, hour, onAir));
    }

    private void askCount(int what) {
        same("count(" + what + ")", () -> x.count(what), () -> y.count(what));
    }

    private void askSetting(int setting) {
        same("setting(" + setting + ")", () -> x.setting(setting), () -> y.setting(setting));
    }

    private void askOverrun(int show, int by, int what) {
        same("ifOverrun(" + show + ", " + by + ", " + what + ")",
                () -> x.ifOverrun(show, by, what), () -> y.ifOverrun(show, by, what));
    }
}
