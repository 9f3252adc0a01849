import java.util.ArrayList;
import java.util.List;

/** What each promise of the document says, with answers worked out by hand. */
public final class PromiseTest {
    private static final int INDEX = 1;
    private static final int ARGUMENT = 2;
    private static final int STATE = 3;

    private static int wrong;
    private static int checks;
    private static String promise;

    private interface Call {
        long answer();
    }

    private static void due(long want, String what, Call call) {
        checks++;
        long got;
        try {
            got = call.answer();
        } catch (RuntimeException e) {
            tell(what + " throws " + e + ", due is " + want);
            return;
        }
        if (got != want) {
            tell(what + " answered " + got + ", due is " + want);
        }
    }

    private static void refused(int kind, String what, Call call) {
        checks++;
        Class<?> want = kind == INDEX ? IndexOutOfBoundsException.class
                : kind == ARGUMENT ? IllegalArgumentException.class : IllegalStateException.class;
        try {
            tell(what + " answered " + call.answer() + ", due is " + want);
        } catch (RuntimeException e) {
            if (e.getClass() != want) {
                tell(what + " throws " + e + ", due is " + want);
            }
        }
    }

    private static void tell(String what) {
        wrong++;
        System.out.println(promise + ": " + what);
    }

    public static void main(String[] args) {
        newObject();
        set();
        setQuota();
        add();
        addRefusals();
        addSponsorLimit();
        repeat();
        repeatRefusals();
        remove();
        overrun();
        closeWeek();
        lastWeek();
        append();
        clearBuffer();
        firstError();
        load();
        loadStops();
        undo();
        reason();
        show();
        group();
        sponsors();
        day();
        count();
        setting();
        why();
        firstTime();
        firstRepeat();
        ifOverrun();
        greatestOverrun();
        share();
        digest();
        System.out.println(checks + " checks, " + wrong + " wrong");
        System.exit(wrong == 0 ? 0 : 1);
    }

    private static void type(StudioAirtime x, String text) {
        for (char c : text.toCharArray()) {
            x.append(c);
        }
    }

    /** Day 2: a late live show, a delayed tape, dropped ones, one cut off by the close. */
    private static StudioAirtime busyDay() {
        StudioAirtime x = new StudioAirtime();
        x.add(true, 0, 2, 480, 60, 4);
        x.add(false, 1, 2, 545, 30, 6);
        x.add(true, 2, 2, 580, 20, 2);
        x.add(false, 3, 2, 605, 40, 0);
        x.add(true, 4, 2, 1300, 60, 3);
        x.add(false, 5, 2, 1360, 20, 1);
        x.overrun(0, 30);
        x.overrun(4, 120);
        return x;
    }

    private static void newObject() {
        promise = "promise 1";
        StudioAirtime x = new StudioAirtime();
        due(-1, "NONE", () -> StudioAirtime.NONE);
        int[] settings = {480, 1380, 10, 60, 20, 50, 8, 120};
        for (int i = 0; i < 8; i++) {
            int setting = i;
            due(0, "count(" + i + ")", () -> x.count(setting));
            due(settings[i], "setting(" + i + ")", () -> x.setting(setting));
        }
        for (int g = 0; g < 6; g++) {
            int group = g;
            due(300, "quota", () -> x.group(group, 0));
            due(0, "carried", () -> x.group(group, 1));
            due(300, "allowance", () -> x.group(group, 2));
        }
        due(0, "reason()", x::reason);
        due(0, "clearBuffer()", x::clearBuffer);
        refused(INDEX, "show(0, 0)", () -> x.show(0, 0));
        refused(STATE, "undo()", x::undo);
    }

    private static void set() {
        promise = "promise 2";
        StudioAirtime x = new StudioAirtime();
        int[][] ranges = {{0, 720}, {721, 1440}, {0, 120}, {0, 240}, {1, 100}, {0, 100}, {0, 30}, {0, 600}};
        int[] first = {480, 1380, 10, 60, 20, 50, 8, 120};
        for (int i = 0; i < 8; i++) {
            int setting = i;
            int[] range = ranges[i];
            due(first[i], "set " + i + " to its least", () -> x.set(setting, range[0]));
            due(range[0], "set " + i + " to its greatest", () -> x.set(setting, range[1]));
            due(range[1], "setting(" + i + ")", () -> x.setting(setting));
            refused(ARGUMENT, "set " + i + " below", () -> x.set(setting, range[0] - 1));
            refused(ARGUMENT, "set " + i + " above", () -> x.set(setting, range[1] + 1));
            refused(ARGUMENT, "set " + i + " far below", () -> x.set(setting, Integer.MIN_VALUE));
            due(range[1], "setting(" + i + ") is kept", () -> x.setting(setting));
            x.undo();
            x.undo();
            due(first[i], "setting(" + i + ") after undo", () -> x.setting(setting));
        }
        refused(INDEX, "set(-1, 0)", () -> x.set(-1, 0));
        refused(INDEX, "set(8, -1)", () -> x.set(8, -1));
        refused(INDEX, "set(max, 0)", () -> x.set(Integer.MAX_VALUE, 0));
        due(0, "saved states", () -> x.count(6));
        x.add(false, 0, 0, 480, 60, 8);
        x.set(0, 600);
        x.set(6, 0);
        due(1, "shows stay when settings change", () -> x.count(1));
    }

    private static void setQuota() {
        promise = "promise 3";
        StudioAirtime x = new StudioAirtime();
        for (int g = 0; g < 6; g++) {
            int group = g;
            due(300, "setQuota(" + g + ", 0)", () -> x.setQuota(group, 0));
            due(0, "setQuota(" + g + ", 2000)", () -> x.setQuota(group, 2000));
            due(2000, "quota of " + g, () -> x.group(group, 0));
            x.undo();
            due(0, "quota of " + g + " after undo", () -> x.group(group, 0));
            x.undo();
        }
        refused(INDEX, "setQuota(-1, 0)", () -> x.setQuota(-1, 0));
        refused(INDEX, "setQuota(6, -1)", () -> x.setQuota(6, -1));
        refused(ARGUMENT, "setQuota(0, -1)", () -> x.setQuota(0, -1));
        refused(ARGUMENT, "setQuota(5, 2001)", () -> x.setQuota(5, 2001));
        due(0, "saved states", () -> x.count(6));
    }

    private static void add() {
        promise = "promise 4";
        StudioAirtime x = new StudioAirtime();
        due(0, "the first", () -> x.add(true, 0, 3, 600, 60, 2));
        due(0, "one of an earlier day", () -> x.add(false, 1, 2, 700, 60, 3));
        due(2, "one of a later day", () -> x.add(false, 2, 4, 480, 60, 0));
        due(1, "one of the day, earlier", () -> x.add(true, 3, 3, 540, 60, 0));
        due(3, "one of the day, later", () -> x.add(true, 4, 3, 660, 5, 5));
        due(600, "start of 2", () -> x.show(2, 3));
        due(5, "saved states", () -> x.count(6));
        refused(ARGUMENT, "group -1", () -> x.add(true, -1, 0, 600, 60, 0));
        refused(ARGUMENT, "group 6", () -> x.add(true, 6, 0, 600, 60, 0));
        refused(ARGUMENT, "day -1", () -> x.add(true, 0, -1, 600, 60, 0));
        refused(ARGUMENT, "day 7", () -> x.add(true, 0, 7, 600, 60, 0));
        refused(ARGUMENT, "start -1", () -> x.add(true, 0, 0, -1, 60, 0));
        refused(ARGUMENT, "start 1440", () -> x.add(true, 0, 0, 1440, 60, 0));
        refused(ARGUMENT, "length 4", () -> x.add(true, 0, 0, 600, 4, 0));
        refused(ARGUMENT, "length 241", () -> x.add(true, 0, 0, 600, 241, 0));
        refused(ARGUMENT, "length max", () -> x.add(true, 0, 0, 600, Integer.MAX_VALUE, 0));
        refused(ARGUMENT, "sponsors -1", () -> x.add(true, 0, 0, 600, 60, -1));
        refused(ARGUMENT, "sponsors 31", () -> x.add(true, 0, 0, 600, 60, 31));
        refused(ARGUMENT, "more sponsors than length", () -> x.add(true, 0, 0, 600, 5, 6));
        due(5, "saved states after exceptions", () -> x.count(6));
        due(5, "shows after exceptions", () -> x.count(1));
        refused(STATE, "before the opening", () -> x.add(true, 0, 0, 0, 60, 0));
        refused(ARGUMENT, "day 7 again", () -> x.add(true, 0, 7, 600, 60, 0));
        due(3, "an exception for an argument leaves the reason", x::reason);
        x.undo();
        due(4, "shows after undo", () -> x.count(1));
    }

    private static void notAdded(StudioAirtime x, int reason, int group, int start, int length, int sponsors) {
        int saved = x.count(6);
        int shows = x.count(1);
        String call = "add at " + start + " + " + length + " : " + sponsors;
        refused(STATE, call, () -> x.add(false, group, 0, start, length, sponsors));
        due(reason, "reason of " + call, x::reason);
        due(saved, "saved states after " + call, () -> x.count(6));
        due(shows, "shows after " + call, () -> x.count(1));
    }

    private static void added(StudioAirtime x, int group, int start, int length, int sponsors) {
        int shows = x.count(1);
        x.add(false, group, 0, start, length, sponsors);
        due(0, "reason after adding at " + start, x::reason);
        due(shows + 1, "shows after adding at " + start, () -> x.count(1));
    }

    private static void addRefusals() {
        promise = "promise 4, refusals";
        StudioAirtime x = new StudioAirtime();
        notAdded(x, 3, 0, 479, 60, 0);
        notAdded(x, 3, 0, 1321, 60, 0);
        notAdded(x, 3, 0, 1439, 240, 0);
        added(x, 0, 480, 60, 0);
        added(x, 0, 1320, 60, 0);
        added(x, 0, 600, 60, 0);
        notAdded(x, 4, 0, 541, 60, 0);
        notAdded(x, 4, 0, 659, 60, 0);
        notAdded(x, 4, 0, 600, 60, 0);
        notAdded(x, 4, 0, 590, 240, 0);
        notAdded(x, 4, 0, 620, 10, 0);
        added(x, 1, 540, 60, 0);
        added(x, 0, 660, 60, 0);
        notAdded(x, 6, 0, 720, 61, 0);
        added(x, 0, 720, 60, 0);
        notAdded(x, 6, 0, 780, 5, 5);
        notAdded(x, 4, 0, 719, 5, 0);
        notAdded(x, 3, 0, 475, 6, 0);
        x.setQuota(2, 4);
        x.set(6, 0);
        notAdded(x, 6, 2, 780, 5, 5);
        x.setQuota(2, 5);
        notAdded(x, 7, 2, 780, 5, 1);
        added(x, 2, 780, 5, 0);

        StudioAirtime full = new StudioAirtime();
        for (int i = 0; i < 24; i++) {
            added(full, 0, 500 + 5 * i, 5, 0);
        }
        notAdded(full, 1, 0, 480, 5, 0);
        notAdded(full, 1, 0, 0, 240, 30);
        full.remove(0);
        added(full, 0, 480, 5, 0);
    }

    private static void addSponsorLimit() {
        promise = "promise 4, sponsor limit";
        StudioAirtime x = new StudioAirtime();
        added(x, 0, 600, 10, 5);
        notAdded(x, 7, 1, 620, 10, 4);
        added(x, 1, 620, 10, 3);
        notAdded(x, 7, 2, 650, 20, 11);
        added(x, 2, 660, 20, 8);
        notAdded(x, 7, 3, 655, 5, 1);
        added(x, 3, 655, 5, 0);

        // Six minutes on each side of the hour.
        StudioAirtime across = new StudioAirtime();
        added(across, 0, 654, 30, 12);
        due(6, "the hour 10", () -> across.sponsors(0, 10, false));
        due(6, "the hour 11", () -> across.sponsors(0, 11, false));
        notAdded(across, 7, 0, 700, 5, 3);
        added(across, 0, 700, 5, 2);
        due(2, "another day is free", () -> across.add(true, 0, 1, 654, 30, 1));

        // An hour that is above a lowered limit refuses every show of the day.
        across.set(6, 7);
        notAdded(across, 7, 0, 1000, 5, 0);
        due(3, "another day's hours do not matter", () -> across.add(true, 0, 1, 1000, 5, 0));

        // The first and the last hour of the day.
        StudioAirtime round = new StudioAirtime();
        round.set(0, 0);
        round.set(1, 1440);
        notAdded(round, 7, 0, 0, 10, 9);
        added(round, 0, 0, 10, 8);
        notAdded(round, 7, 0, 1420, 20, 9);
        added(round, 0, 1420, 20, 8);
        sponsorsDue(round, 0, 0, 8, 8);
        sponsorsDue(round, 0, 23, 8, 8);
        round.set(6, 7);
        due(2, "hours above the limit", () -> round.day(0, 7));
        due(7, "both are above it", () -> round.why(0, 0, 600, 5));
    }

    private static void repeat() {
        promise = "promise 5";
        StudioAirtime x = new StudioAirtime();
        x.add(true, 2, 0, 600, 45, 7);
        x.overrun(0, 20);
        due(1, "repeat(0, 1, 480)", () -> x.repeat(0, 1, 480));
        due(2, "repeat(0, 1, 600)", () -> x.repeat(0, 1, 600));
        int[] properties = {2, 2, 1, 480, 45, 0, 0, 0, 480, 45, 0, 0};
        for (int i = 0; i < 12; i++) {
            int what = i;
            due(properties[i], "show(1, " + i + ")", () -> x.show(1, what));
        }
        due(45 + 22 + 22, "each worth is truncated by itself", () -> x.group(2, 3));
        due(4, "saved states", () -> x.count(6));
        due(0, "reason()", x::reason);
        x.add(false, 1, 0, 500, 30, 0);
        due(1, "the original is told anew", () -> x.show(2, 7));
        x.undo();
        x.undo();
        due(2, "shows after undo", () -> x.count(1));
        refused(INDEX, "repeat(-1, 9, 0)", () -> x.repeat(-1, 9, 0));
        refused(INDEX, "repeat(2, 1, 700)", () -> x.repeat(2, 1, 700));
        refused(ARGUMENT, "repeat(0, -1, 700)", () -> x.repeat(0, -1, 700));
        refused(ARGUMENT, "repeat(0, 7, 700)", () -> x.repeat(0, 7, 700));
        refused(ARGUMENT, "repeat(0, 1, -1)", () -> x.repeat(0, 1, -1));
        refused(ARGUMENT, "repeat(0, 1, 1440)", () -> x.repeat(0, 1, 1440));
    }

    private static void notRepeated(StudioAirtime x, int reason, int original, int day, int start) {
        int saved = x.count(6);
        String call = "repeat(" + original + ", " + day + ", " + start + ")";
        refused(STATE, call, () -> x.repeat(original, day, start));
        due(reason, "reason of " + call, x::reason);
        due(saved, "saved states after " + call, () -> x.count(6));
    }

    private static void repeatRefusals() {
        promise = "promise 5, refusals";
        StudioAirtime x = new StudioAirtime();
        x.add(false, 0, 0, 1200, 60, 8);
        notRepeated(x, 3, 0, 1, 479);
        notRepeated(x, 3, 0, 1, 1321);
        notRepeated(x, 4, 0, 0, 1200);
        notRepeated(x, 5, 0, 0, 500);
        notRepeated(x, 5, 0, 1, 1019);
        due(1, "at the end of the gap", () -> x.repeat(0, 1, 1020));
        notRepeated(x, 2, 1, 6, 600);
        notRepeated(x, 2, 1, 6, 0);
        x.setQuota(0, 119);
        notRepeated(x, 6, 0, 2, 600);
        x.setQuota(0, 120);
        due(2, "with the worth of 30", () -> x.repeat(0, 2, 600));
        notRepeated(x, 6, 0, 3, 600);
        x.set(5, 0);
        due(3, "a worth of nothing", () -> x.repeat(0, 3, 600));
        x.setQuota(0, 59);
        notRepeated(x, 6, 0, 4, 600);
        x.setQuota(0, 60);
        x.add(true, 1, 4, 700, 30, 3);
        x.set(6, 2);
        notRepeated(x, 7, 0, 4, 600);
        due(5, "an hour of another day", () -> x.repeat(0, 5, 600));
        x.set(4, 100);
        notRepeated(x, 5, 0, 4, 1000);
        for (int i = 0; i < 18; i++) {
            x.add(false, 2, 6, 500 + 5 * i, 5, 0);
        }
        due(24, "all shows", () -> x.count(1));
        notRepeated(x, 1, 1, 6, 1000);
        notRepeated(x, 1, 0, 0, 0);
    }

    private static void remove() {
        promise = "promise 6";
        StudioAirtime x = new StudioAirtime();
        x.add(true, 0, 0, 480, 60, 0);
        x.add(false, 1, 0, 600, 30, 0);
        x.add(false, 2, 2, 600, 50, 0);
        x.repeat(0, 1, 600);
        x.repeat(1, 1, 700);
        x.repeat(0, 3, 600);
        x.repeat(4, 4, 600);
        // Numbers: 0 live, 1 tape, 2 repeat of 0, 3 repeat of 1, 4 tape, 5 repeat of 0, 6 repeat of 4.
        x.overrun(0, 7);
        refused(INDEX, "remove(-1)", () -> x.remove(-1));
        refused(INDEX, "remove(7)", () -> x.remove(7));
        due(1, "remove(3), a repeat", () -> x.remove(3));
        due(3, "its successor's original", () -> x.show(5, 7));
        x.undo();
        due(1, "original of 3 after undo", () -> x.show(3, 7));
        due(3, "remove(0) with its repeats", () -> x.remove(0));
        due(4, "shows left", () -> x.count(1));
        int[][] left = {{1, -1, 600}, {2, 0, 700}, {1, -1, 600}, {2, 2, 600}};
        for (int i = 0; i < 4; i++) {
            int show = i;
            due(left[i][0], "kind of " + i, () -> x.show(show, 0));
            due(left[i][1], "original of " + i, () -> x.show(show, 7));
            due(left[i][2], "start of " + i, () -> x.show(show, 3));
            due(0, "overrun of " + i, () -> x.show(show, 6));
        }
        x.undo();
        due(7, "overrun of 0 after undo", () -> x.show(0, 6));
        due(7, "shows after undo", () -> x.count(1));
    }

    private static void overrun() {
        promise = "promise 7";
        StudioAirtime x = new StudioAirtime();
        x.add(true, 0, 0, 480, 60, 0);
        x.add(false, 0, 0, 700, 60, 0);
        x.repeat(0, 1, 600);
        due(0, "overrun(0, -60)", () -> x.overrun(0, -60));
        due(1, "at least one minute", () -> x.show(0, 9));
        due(-60, "overrun(0, 120)", () -> x.overrun(0, 120));
        due(180, "as long as it lasts", () -> x.show(0, 9));
        refused(ARGUMENT, "overrun(0, -61)", () -> x.overrun(0, -61));
        refused(ARGUMENT, "overrun(0, 121)", () -> x.overrun(0, 121));
        refused(ARGUMENT, "overrun(1, 121)", () -> x.overrun(1, 121));
        refused(STATE, "overrun of a tape", () -> x.overrun(1, 0));
        refused(STATE, "overrun of a repeat", () -> x.overrun(2, 0));
        refused(INDEX, "overrun(3, 121)", () -> x.overrun(3, 121));
        refused(INDEX, "overrun(-1, 0)", () -> x.overrun(-1, 0));
        due(5, "saved states", () -> x.count(6));
        due(0, "the reason is not touched", x::reason);
        x.undo();
        due(-60, "overrun after undo", () -> x.show(0, 6));
    }

    private static void closeWeek() {
        promise = "promise 8";
        StudioAirtime x = new StudioAirtime();
        x.add(true, 0, 0, 480, 60, 0);
        x.overrun(0, 20);
        x.add(false, 1, 1, 480, 100, 0);
        x.repeat(1, 2, 481);
        x.setQuota(1, 20);
        x.set(7, 120);
        due(1, "closeWeek()", x::closeWeek);
        // Group 0: 300 - 80 = 220; group 1: 20 - (100 + 50) = -130; the others: 300.
        groupDue(x, 0, 300, 120, 420, 60, 60, 1, 300, 80, 100);
        groupDue(x, 1, 20, -120, -100, 150, 150, 2, 20, 150, -10);
        groupDue(x, 2, 300, 120, 420, 0, 0, 0, 300, 0, 180);
        due(0, "overruns are gone", () -> x.show(0, 6));
        due(1, "the week", () -> x.count(0));
        due(3, "shows stay", () -> x.count(1));
        x.set(7, 0);
        due(2, "closeWeek() again", x::closeWeek);
        groupDue(x, 0, 300, 0, 300, 60, 60, 1, 600, 140, 460);
        groupDue(x, 1, 20, 0, 20, 150, 150, 2, 40, 300, -260);
        x.undo();
        groupDue(x, 1, 20, -120, -100, 150, 150, 2, 20, 150, -10);
        x.undo();
        x.undo();
        due(20, "overrun after undo", () -> x.show(0, 6));
        due(0, "week after undo", () -> x.count(0));
        groupDue(x, 0, 300, 0, 300, 60, 80, 1, 0, 0, 0);

        // Carried minutes are part of what a group may plan.
        StudioAirtime y = new StudioAirtime();
        y.setQuota(0, 100);
        y.closeWeek();
        due(0, "200 minutes", () -> y.add(false, 0, 0, 480, 200, 0));
        due(6, "5 more", () -> y.why(0, 1, 480, 5));
    }

    private static void groupDue(StudioAirtime x, int group, int... want) {
        for (int i = 0; i < want.length; i++) {
            int what = i;
            due(want[i], "group(" + group + ", " + i + ")", () -> x.group(group, what));
        }
    }

    /** This is beyond the 512th call, of which nothing is promised; the program keeps to the limit all the same. */
    private static void lastWeek() {
        StudioAirtime x = new StudioAirtime();
        for (int i = 1; i <= 1000; i++) {
            due(i, "closeWeek()", x::closeWeek);
        }
        refused(STATE, "closeWeek() in the week 1000", x::closeWeek);
        due(1000, "the week", () -> x.count(0));
        due(5, "undo()", x::undo);
        due(999, "the week after undo", () -> x.count(0));
    }

    private static void append() {
        promise = "promise 9";
        StudioAirtime x = new StudioAirtime();
        refused(ARGUMENT, "append(32)", () -> x.append(32));
        refused(ARGUMENT, "append(127)", () -> x.append(127));
        refused(ARGUMENT, "append(min)", () -> x.append(Integer.MIN_VALUE));
        due(1, "append(33)", () -> x.append(33));
        for (int i = 2; i <= 60; i++) {
            due(i, "append(126)", () -> x.append(126));
        }
        refused(STATE, "append to a full buffer", () -> x.append(76));
        refused(ARGUMENT, "append(127) to a full buffer", () -> x.append(127));
        due(0, "saved states", () -> x.count(6));
        due(60, "length", x::clearBuffer);
    }

    private static void clearBuffer() {
        promise = "promise 10";
        StudioAirtime x = new StudioAirtime();
        due(0, "an empty buffer", x::clearBuffer);
        type(x, "L0.");
        due(3, "three characters", x::clearBuffer);
        due(0, "cleared", x::clearBuffer);
        type(x, "T");
        due(1, "anew", x::firstError);
        due(0, "saved states", () -> x.count(6));
    }

    private static void firstErrorDue(int want, String text) {
        StudioAirtime x = new StudioAirtime();
        type(x, text);
        due(want, "firstError of " + text, x::firstError);
        due(text.length(), "length after firstError of " + text, x::clearBuffer);
    }

    private static void firstError() {
        promise = "promise 11";
        String[] without = {"", "L", "T5", "L0.", "L0.6", "L0.6@", "L0.6@0", "T1.2@9999+", "T1.2@9999+0",
            "T1.2@600+30", "T1.2@600+30:", "T1.2@600+30:0", "T1.2@600+30:9999", "T1.2@600+30;", "T1.2@600+30:7;R",
            "R", "R0", "R9999", "R9999.", "R12.6@", "R12.6@0", "R12.6@1439;", "R1.1@1;L0.0@0+0;T5.6@1+2:3"};
        for (String text : without) {
            firstErrorDue(text.length(), text);
        }
        firstErrorDue(0, "l");
        firstErrorDue(0, ";");
        firstErrorDue(0, "0");
        firstErrorDue(1, "L6");
        firstErrorDue(1, "T.");
        firstErrorDue(2, "L00");
        firstErrorDue(3, "L0.7");
        firstErrorDue(4, "L0.60");
        firstErrorDue(5, "L0.6@+");
        firstErrorDue(6, "L0.6@00");
        firstErrorDue(9, "L0.6@12345");
        firstErrorDue(6, "L0.6@0;");
        firstErrorDue(8, "L0.6@600:");
        firstErrorDue(7, "L0.6@0+;");
        firstErrorDue(8, "L0.6@0+01");
        firstErrorDue(11, "L0.6@0+12345");
        firstErrorDue(8, "L0.6@0+5+");
        firstErrorDue(9, "L0.6@0+5:;");
        firstErrorDue(10, "L0.6@0+5:00");
        firstErrorDue(13, "L0.6@0+5:12345");
        firstErrorDue(10, "L0.6@0+5:3:");
        firstErrorDue(9, "L0.6@0+5;;");
        firstErrorDue(9, "L0.6@0+5;0");
        firstErrorDue(1, "R.");
        firstErrorDue(2, "R00");
        firstErrorDue(5, "R12345");
        firstErrorDue(3, "R1.7");
        firstErrorDue(6, "R1.2@0+");
        firstErrorDue(6, "R1.2@0:");
        firstErrorDue(8, "R1.2@0;R.xxxx");
    }

    private static void load() {
        promise = "promise 12";
        StudioAirtime x = new StudioAirtime();
        for (String text : new String[] {"", "L0.0@600", "L0.0@600+60:", "L0.0@600+60;", "R0.0@", "x", "L0.0@600+60x"}) {
            type(x, text);
            refused(ARGUMENT, "load of " + text, x::load);
            due(text.length(), "the buffer stays", x::clearBuffer);
        }
        due(0, "saved states", () -> x.count(6));
        type(x, "T1.1@600+30:4;L2.0@480+60;R0.1@700;R2.2@480;R1.2@600");
        // The first is number 0; with the live show it is 1. R0 repeats the live show, R2 is then a repeat.
        due(3, "load()", x::load);
        due(2, "reason()", x::reason);
        due(0, "the buffer is cleared", x::clearBuffer);
        due(1, "saved states", () -> x.count(6));
        int[][] shows = {{0, 2, 0, 480, 60, 0}, {1, 1, 1, 600, 30, 4}, {2, 2, 1, 700, 60, 0}};
        for (int i = 0; i < 18; i++) {
            int show = i / 6;
            int what = i % 6;
            due(shows[show][what], "show(" + show + ", " + what + ")", () -> x.show(show, what));
        }
        due(0, "original of 2", () -> x.show(2, 7));
        due(0, "undo()", x::undo);
        due(0, "shows after undo", () -> x.count(1));
        due(2, "the reason after undo", x::reason);
        type(x, "L0.6@480+5:5");
        due(1, "load()", x::load);
        due(0, "reason()", x::reason);
        due(5, "sponsor minutes", () -> x.show(0, 5));
    }

    private static void loadStopsDue(int added, int reason, String text) {
        StudioAirtime x = new StudioAirtime();
        type(x, text);
        due(added, "load of " + text, x::load);
        due(reason, "reason of " + text, x::reason);
        due(added, "shows of " + text, () -> x.count(1));
        due(1, "saved states of " + text, () -> x.count(6));
        due(0, "the buffer after " + text, x::clearBuffer);
    }

    private static void loadStops() {
        loadStopsDue(0, 20, "L0.0@1440+60;T0.0@600+60");
        loadStopsDue(0, 20, "L0.0@600+4");
        loadStopsDue(0, 20, "L0.0@600+241");
        loadStopsDue(0, 20, "L0.0@600+60:31");
        loadStopsDue(0, 20, "L0.0@600+5:6");
        loadStopsDue(0, 20, "L0.0@0+241");
        loadStopsDue(0, 20, "R0.0@600");
        loadStopsDue(1, 20, "T0.0@600+60;R1.2@600");
        loadStopsDue(1, 20, "T0.0@600+60;R0.2@1440;T1.0@700+60");
        loadStopsDue(2, 2, "T0.0@600+60;R0.2@600;R1.0@0");
        loadStopsDue(0, 3, "T0.0@0+60");
        loadStopsDue(1, 4, "T0.0@600+60;T1.0@600+60;T1.0@700+60");
        loadStopsDue(1, 5, "T0.0@661+60;R0.1@480;T1.0@480+60");
        loadStopsDue(1, 6, "T0.0@600+240;T0.1@600+61");
        loadStopsDue(0, 7, "T0.0@600+60:9");
        loadStopsDue(3, 0, "T0.0@600+60:8;L1.0@1320+60;R0.1@480");
        loadStopsDue(6, 0, "T0.0@480+5;R0.1@480;R0.1@490;R0.2@480;R0.2@490;R0.3@480");

        StudioAirtime full = new StudioAirtime();
        for (int i = 0; i < 23; i++) {
            full.add(false, 0, 0, 500 + 5 * i, 5, 0);
        }
        type(full, "T1.1@480+5;T1.1@485+5;T1.1@490+5");
        due(1, "load of one too many", full::load);
        due(1, "its reason", full::reason);
        due(6, "saved states", () -> full.count(6));
    }

    private static void undo() {
        promise = "promise 13";
        StudioAirtime x = new StudioAirtime();
        refused(STATE, "undo() at first", x::undo);
        for (int i = 1; i <= 8; i++) {
            x.setQuota(0, i);
            due(Math.min(i, 6), "saved states", () -> x.count(6));
        }
        type(x, "L0");
        refused(STATE, "a refused show", () -> x.add(false, 0, 0, 0, 60, 0));
        for (int left = 5; left >= 0; left--) {
            int quota = left + 2;
            due(left, "undo()", x::undo);
            due(quota, "the quota", () -> x.group(0, 0));
        }
        refused(STATE, "undo() at last", x::undo);
        due(2, "the quota stays", () -> x.group(0, 0));
        due(3, "the reason is not restored", x::reason);
        due(2, "the buffer is not restored", x::clearBuffer);
        x.setQuota(0, 2);
        due(1, "the same value is a change too", () -> x.count(6));
        due(0, "undo()", x::undo);
        x.setQuota(1, 11);
        x.setQuota(1, 12);
        x.undo();
        x.setQuota(1, 13);
        due(1, "undo behind a change after undo", x::undo);
        due(11, "the quota", () -> x.group(1, 0));
    }

    private static void reason() {
        promise = "promise 14";
        StudioAirtime x = new StudioAirtime();
        due(0, "at first", x::reason);
        refused(STATE, "a refused show", () -> x.add(true, 0, 0, 0, 60, 0));
        due(3, "of the refused show", x::reason);
        x.why(0, 0, 600, 60);
        x.firstTime(0, 0, 60);
        x.set(0, 100);
        refused(ARGUMENT, "load of nothing", x::load);
        due(3, "others leave it", x::reason);
        x.add(true, 0, 0, 600, 60, 0);
        due(0, "of the added show", x::reason);
        x.firstRepeat(0);
        x.closeWeek();
        x.remove(0);
        due(0, "others leave it", x::reason);
    }

    private static void show() {
        promise = "promise 15";
        StudioAirtime x = busyDay();
        int[][] want = {
            {0, 0, 2, 480, 60, 4, 30, -1, 480, 90, 0, 0},
            {1, 1, 2, 545, 30, 6, 0, -1, 570, 30, 25, 1},
            {0, 2, 2, 580, 20, 2, 0, -1, -1, 0, 20, 2},
            {1, 3, 2, 605, 40, 0, 0, -1, 605, 40, 0, 0},
            {0, 4, 2, 1300, 60, 3, 120, -1, 1300, 80, 0, 4},
            {1, 5, 2, 1360, 20, 1, 0, -1, -1, 0, 20, 2}};
        for (int i = 0; i < 72; i++) {
            int show = i / 12;
            int what = i % 12;
            due(want[show][what], "show(" + show + ", " + what + ")", () -> x.show(show, what));
        }
        refused(INDEX, "show(6, 12)", () -> x.show(6, 12));
        refused(INDEX, "show(-1, 0)", () -> x.show(-1, 0));
        refused(ARGUMENT, "show(0, 12)", () -> x.show(0, 12));
        refused(ARGUMENT, "show(0, -1)", () -> x.show(0, -1));

        // Delayed and cut off; the patience is kept to the minute; a late opening delays too.
        StudioAirtime y = new StudioAirtime();
        y.add(true, 0, 0, 1200, 60, 0);
        y.add(false, 1, 0, 1300, 60, 0);
        y.overrun(0, 100);
        due(5, "delayed and cut off", () -> y.show(1, 11));
        due(20, "what is left of it", () -> y.show(1, 9));
        due(60, "its delay", () -> y.show(1, 10));
        y.overrun(0, 101);
        due(2, "one minute too late", () -> y.show(1, 11));
        due(61, "its delay when it is dropped", () -> y.show(1, 10));
        y.set(3, 61);
        due(5, "with more patience", () -> y.show(1, 11));
        y.add(true, 2, 1, 500, 30, 0);
        y.set(0, 510);
        due(510, "at the opening", () -> y.show(2, 8));
        y.set(0, 511);
        due(-1, "the opening is too late", () -> y.show(2, 8));
        y.set(2, 11);
        due(1, "its patience is that for live shows", () -> y.show(2, 11));
        y.set(1, 721);
        due(2, "behind the close", () -> y.show(0, 11));
        due(0, "without a delay", () -> y.show(0, 10));
    }

    private static void group() {
        promise = "promise 16";
        StudioAirtime x = busyDay();
        groupDue(x, 0, 300, 0, 300, 60, 90, 1, 0, 0, 0);
        groupDue(x, 2, 300, 0, 300, 20, 0, 1, 0, 0, 0);
        groupDue(x, 4, 300, 0, 300, 60, 80, 1, 0, 0, 0);
        x.repeat(1, 4, 600);
        x.repeat(1, 4, 700);
        x.set(5, 33);
        groupDue(x, 1, 300, 0, 300, 30 + 9 + 9, 30 + 9 + 9, 3, 0, 0, 0);
        // The second repeat is cut off behind 21 of its 30 minutes.
        x.set(1, 721);
        groupDue(x, 1, 300, 0, 300, 48, 30 + 9 + 21 * 33 / 100, 3, 0, 0, 0);
        refused(INDEX, "group(6, 9)", () -> x.group(6, 9));
        refused(INDEX, "group(-1, 0)", () -> x.group(-1, 0));
        refused(ARGUMENT, "group(0, 9)", () -> x.group(0, 9));
        refused(ARGUMENT, "group(5, -1)", () -> x.group(5, -1));
    }

    private static void sponsorsDue(StudioAirtime x, int day, int hour, int planned, int onAir) {
        due(planned, "sponsors(" + day + ", " + hour + ", false)", () -> x.sponsors(day, hour, false));
        due(onAir, "sponsors(" + day + ", " + hour + ", true)", () -> x.sponsors(day, hour, true));
    }

    private static void sponsors() {
        promise = "promise 17";
        StudioAirtime x = busyDay();
        sponsorsDue(x, 2, 8, 4, 4);
        sponsorsDue(x, 2, 9, 8, 6);
        sponsorsDue(x, 2, 10, 0, 0);
        sponsorsDue(x, 2, 21, 3, 3);
        sponsorsDue(x, 2, 22, 1, 0);
        sponsorsDue(x, 2, 0, 0, 0);
        sponsorsDue(x, 2, 23, 0, 0);
        sponsorsDue(x, 1, 9, 0, 0);
        x.overrun(0, 53);
        // The tape comes on air at 593: its six minutes end just before the hour.
        sponsorsDue(x, 2, 9, 8, 6);
        x.overrun(0, 57);
        sponsorsDue(x, 2, 9, 8, 3);
        sponsorsDue(x, 2, 10, 0, 3);
        x.overrun(4, -58);
        sponsorsDue(x, 2, 21, 3, 2);
        sponsorsDue(x, 2, 22, 1, 1);
        refused(INDEX, "sponsors(-1, 0, true)", () -> x.sponsors(-1, 0, true));
        refused(INDEX, "sponsors(7, 0, false)", () -> x.sponsors(7, 0, false));
        refused(INDEX, "sponsors(0, -1, true)", () -> x.sponsors(0, -1, true));
        refused(INDEX, "sponsors(0, 24, false)", () -> x.sponsors(0, 24, false));
    }

    private static void dayDue(StudioAirtime x, int day, int... want) {
        for (int i = 0; i < 8; i++) {
            int what = i;
            due(want[i], "day(" + day + ", " + i + ")", () -> x.day(day, what));
        }
    }

    private static void day() {
        promise = "promise 18";
        StudioAirtime x = busyDay();
        dayDue(x, 2, 6, 230, 240, 1, 2, 25, 1380, 0);
        dayDue(x, 0, 0, 0, 0, 0, 0, 0, 480, 0);
        x.set(6, 5);
        dayDue(x, 2, 6, 230, 240, 1, 2, 25, 1380, 1);
        x.set(6, 3);
        dayDue(x, 2, 6, 230, 240, 1, 2, 25, 1380, 2);
        x.set(6, 2);
        dayDue(x, 2, 6, 230, 240, 1, 2, 25, 1380, 3);
        x.set(0, 720);
        x.set(3, 0);
        x.set(1, 1300);
        dayDue(x, 2, 6, 230, 0, 0, 6, 0, 720, 0);
        refused(INDEX, "day(7, 8)", () -> x.day(7, 8));
        refused(INDEX, "day(-1, 0)", () -> x.day(-1, 0));
        refused(ARGUMENT, "day(6, 8)", () -> x.day(6, 8));
        refused(ARGUMENT, "day(0, -1)", () -> x.day(0, -1));
    }

    private static void count() {
        promise = "promise 19";
        StudioAirtime x = busyDay();
        x.repeat(0, 4, 480);
        x.add(false, 5, 5, 480, 10, 0);
        x.set(0, 485);
        int[] want = {0, 8, 3, 1, 4, 2, 6, 90 + 30 + 40 + 80 + 60 + 10};
        // The opening at 485 delays the live show by 5 to 575, and so the tape behind it by 30.
        for (int i = 0; i < 8; i++) {
            int what = i;
            due(want[i], "count(" + i + ")", () -> x.count(what));
        }
        x.closeWeek();
        due(1, "count(0)", () -> x.count(0));
        refused(ARGUMENT, "count(-1)", () -> x.count(-1));
        refused(ARGUMENT, "count(8)", () -> x.count(8));
    }

    private static void setting() {
        promise = "promise 20";
        StudioAirtime x = new StudioAirtime();
        x.set(7, 599);
        x.set(0, 1);
        due(599, "setting(7)", () -> x.setting(7));
        due(1, "setting(0)", () -> x.setting(0));
        due(1380, "setting(1)", () -> x.setting(1));
        refused(INDEX, "setting(-1)", () -> x.setting(-1));
        refused(INDEX, "setting(8)", () -> x.setting(8));
    }

    private static void why() {
        promise = "promise 21";
        StudioAirtime x = new StudioAirtime();
        x.add(true, 0, 0, 600, 240, 8);
        due(0, "free", () -> x.why(0, 0, 840, 60));
        due(3, "before the opening", () -> x.why(0, 0, 479, 60));
        due(3, "behind the close", () -> x.why(0, 0, 1330, 60));
        due(4, "in the way", () -> x.why(0, 0, 839, 60));
        due(6, "too much", () -> x.why(0, 0, 840, 61));
        x.set(6, 7);
        due(7, "an hour is above the limit", () -> x.why(0, 0, 840, 60));
        due(0, "not on another day", () -> x.why(0, 1, 840, 60));
        for (int i = 0; i < 23; i++) {
            x.add(false, 1, 1, 500 + 5 * i, 5, 0);
        }
        due(1, "24 shows", () -> x.why(0, 0, 0, 60));
        refused(ARGUMENT, "group 6", () -> x.why(6, 0, 600, 60));
        refused(ARGUMENT, "group -1", () -> x.why(-1, 0, 600, 60));
        refused(ARGUMENT, "day 7", () -> x.why(0, 7, 600, 60));
        refused(ARGUMENT, "day -1", () -> x.why(0, -1, 600, 60));
        refused(ARGUMENT, "start 1440", () -> x.why(0, 0, 1440, 60));
        refused(ARGUMENT, "start -1", () -> x.why(0, 0, -1, 60));
        refused(ARGUMENT, "length 4", () -> x.why(0, 0, 600, 4));
        refused(ARGUMENT, "length 241", () -> x.why(0, 0, 600, 241));
        due(6, "saved states", () -> x.count(6));
        due(24, "shows", () -> x.count(1));
        due(0, "the reason is not touched", x::reason);
    }

    private static void firstTime() {
        promise = "promise 22";
        StudioAirtime x = new StudioAirtime();
        due(480, "an empty day", () -> x.firstTime(0, 0, 30));
        x.set(0, 481);
        due(485, "a multiple of 5", () -> x.firstTime(0, 0, 30));
        x.set(0, 480);
        x.add(false, 1, 0, 510, 53, 0);
        due(480, "before the show", () -> x.firstTime(0, 0, 30));
        due(565, "behind the show", () -> x.firstTime(0, 0, 31));
        x.add(false, 1, 0, 570, 30, 0);
        due(600, "behind the next one", () -> x.firstTime(0, 0, 31));
        x.add(false, 1, 0, 480, 30, 0);
        due(565, "between them", () -> x.firstTime(0, 0, 5));
        x.set(1, 721);
        due(600, "up to the close", () -> x.firstTime(0, 0, 121));
        due(-1, "over the close", () -> x.firstTime(0, 0, 122));
        due(480, "on another day", () -> x.firstTime(0, 1, 240));
        x.setQuota(0, 30);
        due(600, "within the allowance", () -> x.firstTime(0, 0, 30));
        due(-1, "beyond the allowance", () -> x.firstTime(0, 0, 31));
        x.add(false, 2, 0, 700, 21, 3);
        x.set(6, 2);
        due(-1, "an hour above the limit", () -> x.firstTime(3, 0, 5));
        due(480, "on a day without one", () -> x.firstTime(3, 1, 5));
        for (int i = 0; i < 20; i++) {
            x.add(false, 5, 3, 480 + 5 * i, 5, 0);
        }
        due(24, "shows", () -> x.count(1));
        due(-1, "24 shows", () -> x.firstTime(4, 5, 5));
        refused(ARGUMENT, "group 6", () -> x.firstTime(6, 0, 30));
        refused(ARGUMENT, "group -1", () -> x.firstTime(-1, 0, 30));
        refused(ARGUMENT, "day 7", () -> x.firstTime(0, 7, 30));
        refused(ARGUMENT, "day -1", () -> x.firstTime(0, -1, 30));
        refused(ARGUMENT, "length 4", () -> x.firstTime(0, 0, 4));
        refused(ARGUMENT, "length 241", () -> x.firstTime(0, 0, 241));
    }

    private static void firstRepeat() {
        promise = "promise 23";
        StudioAirtime x = new StudioAirtime();
        x.add(false, 0, 0, 1200, 63, 0);
        due(1440 + 1025, "behind the gap", () -> x.firstRepeat(0));
        x.set(4, 1);
        due(1440 + 480, "at the next opening", () -> x.firstRepeat(0));
        x.set(1, 1440);
        due(1325, "on the same day", () -> x.firstRepeat(0));
        x.add(true, 1, 0, 1390, 50, 5);
        due(1325, "just before a show", () -> x.firstRepeat(0));
        x.add(true, 1, 0, 1385, 5, 0);
        due(1440 + 480, "no place left", () -> x.firstRepeat(0));
        x.repeat(0, 1, 480);
        due(1440 + 545, "behind its repeat", () -> x.firstRepeat(0));
        due(-1, "of a repeat", () -> x.firstRepeat(3));
        x.setQuota(0, 63 + 31 + 31);
        due(1440 + 545, "within the allowance", () -> x.firstRepeat(0));
        x.setQuota(0, 63 + 31 + 30);
        due(-1, "beyond the allowance", () -> x.firstRepeat(0));
        x.setQuota(0, 300);
        x.add(false, 2, 1, 700, 30, 4);
        x.set(6, 3);
        due(2880 + 480, "a day above the limit is passed over", () -> x.firstRepeat(0));
        x.add(false, 3, 6, 1300, 80, 0);
        due(-1, "too late in the week", () -> x.firstRepeat(5));
        refused(INDEX, "firstRepeat(-1)", () -> x.firstRepeat(-1));
        refused(INDEX, "firstRepeat(6)", () -> x.firstRepeat(6));
        for (int i = 0; i < 18; i++) {
            x.add(false, 4, 5, 480 + 5 * i, 5, 0);
        }
        due(-1, "24 shows", () -> x.firstRepeat(0));
    }

    private static void ifOverrunDue(StudioAirtime x, int show, int by, int... want) {
        for (int i = 0; i < 8; i++) {
            int what = i;
            due(want[i], "ifOverrun(" + show + ", " + by + ", " + i + ")", () -> x.ifOverrun(show, by, what));
        }
    }

    private static void ifOverrun() {
        promise = "promise 24";
        StudioAirtime x = busyDay();
        long before = x.digest();
        ifOverrunDue(x, 0, 0, 6, 230, 230, 0, 1, 0, 1380, 0);
        ifOverrunDue(x, 0, 30, 6, 230, 240, 1, 2, 25, 1380, 0);
        ifOverrunDue(x, 0, -60, 6, 230, 171, 0, 1, 0, 1380, 0);
        ifOverrunDue(x, 4, 0, 6, 230, 90 + 30 + 40 + 60 + 20, 1, 1, 25, 1380, 0);
        ifOverrunDue(x, 2, 120, 6, 230, 240, 1, 2, 25, 1380, 0);
        due(before, "nothing is changed", x::digest);
        refused(INDEX, "ifOverrun(6, 121, 8)", () -> x.ifOverrun(6, 121, 8));
        refused(INDEX, "ifOverrun(-1, 0, 0)", () -> x.ifOverrun(-1, 0, 0));
        refused(ARGUMENT, "ifOverrun(1, 121, 0)", () -> x.ifOverrun(1, 121, 0));
        refused(ARGUMENT, "ifOverrun(0, -61, 0)", () -> x.ifOverrun(0, -61, 0));
        refused(ARGUMENT, "ifOverrun(0, 0, 8)", () -> x.ifOverrun(0, 0, 8));
        refused(ARGUMENT, "ifOverrun(0, 0, -1)", () -> x.ifOverrun(0, 0, -1));
        refused(STATE, "ifOverrun of a tape", () -> x.ifOverrun(1, 0, 0));
    }

    private static void greatestOverrun() {
        promise = "promise 25";
        StudioAirtime x = busyDay();
        due(-101, "the last tape is dropped anyway", () -> x.greatestOverrun(0));
        due(-101, "so for the other live show", () -> x.greatestOverrun(2));
        x.overrun(4, 0);
        due(20, "the patience of the next live show", () -> x.greatestOverrun(0));
        due(120, "a dropped show harms none", () -> x.greatestOverrun(2));
        x.overrun(0, 20);
        due(19, "up to the close", () -> x.greatestOverrun(4));
        x.add(true, 0, 3, 600, 60, 0);
        due(120, "alone on its day", () -> x.greatestOverrun(6));
        x.add(false, 1, 3, 660, 60, 0);
        due(60, "the patience of a tape", () -> x.greatestOverrun(6));
        x.set(3, 0);
        due(0, "no patience", () -> x.greatestOverrun(6));
        x.set(0, 659);
        x.set(2, 59);
        due(-59, "late itself", () -> x.greatestOverrun(6));
        x.set(0, 660);
        x.set(2, 60);
        due(-101, "even one minute is too much", () -> x.greatestOverrun(6));
        x.set(2, 59);
        due(120, "dropped itself", () -> x.greatestOverrun(6));
        refused(INDEX, "greatestOverrun(8)", () -> x.greatestOverrun(8));
        refused(INDEX, "greatestOverrun(-1)", () -> x.greatestOverrun(-1));
        refused(STATE, "greatestOverrun of a tape", () -> x.greatestOverrun(1));
    }

    private static void shareDue(StudioAirtime x, double want) {
        due(Double.doubleToLongBits(want), "bits of share()", () -> Double.doubleToLongBits(x.share()));
    }

    private static void share() {
        promise = "promise 26";
        StudioAirtime x = busyDay();
        shareDue(x, 240.0 / 6300.0);
        x.set(1, 1381);
        shareDue(x, 241.0 / 6307.0);
        shareDue(new StudioAirtime(), 0.0);
    }

    private static long hash(List<Long> values) {
        long hash = 2099;
        for (long value : values) {
            hash = 31 * hash + value;
        }
        return hash;
    }

    private static void all(List<Long> list, long... values) {
        for (long value : values) {
            list.add(value);
        }
    }

    private static List<Long> digestOfNewObject(int reason, String buffer) {
        List<Long> values = new ArrayList<>();
        all(values, 0, 0, 0, 0, 0, 0, 0, 0);
        all(values, 480, 1380, 10, 60, 20, 50, 8, 120);
        for (int group = 0; group < 6; group++) {
            all(values, 300, 0, 300, 0, 0, 0, 0, 0, 0);
        }
        for (int day = 0; day < 7; day++) {
            all(values, 0, 0, 0, 0, 0, 0, 480, 0);
            for (int hour = 0; hour < 24; hour++) {
                all(values, 0, 0);
            }
        }
        all(values, 480, 480, 480, 480, 480, 480);
        all(values, 0, reason, buffer.length());
        buffer.chars().forEach(c -> values.add((long) c));
        return values;
    }

    private static void digest() {
        promise = "promise 27";
        StudioAirtime x = new StudioAirtime();
        due(hash(digestOfNewObject(0, "")), "of a new object", x::digest);
        type(x, "T0~");
        due(hash(digestOfNewObject(0, "T0~")), "with a buffer", x::digest);
        refused(STATE, "a refused show", () -> x.add(true, 0, 0, 0, 60, 0));
        due(hash(digestOfNewObject(3, "T0~")), "with a reason", x::digest);

        StudioAirtime y = new StudioAirtime();
        y.add(true, 1, 3, 480, 60, 4);
        y.add(false, 2, 3, 540, 30, 0);
        List<Long> values = new ArrayList<>();
        all(values, 0, 2, 1, 0, 0, 0, 2, 90);
        all(values, 480, 1380, 10, 60, 20, 50, 8, 120);
        int[] minutes = {0, 60, 30, 0, 0, 0};
        for (int group = 0; group < 6; group++) {
            all(values, 300, 0, 300, minutes[group], minutes[group], minutes[group] > 0 ? 1 : 0, 0, 0, 0);
        }
        all(values, 0, 1, 3, 480, 60, 4, 0, -1, 480, 60, 0, 0, 4 * 1440 + 480, 60);
        all(values, 1, 2, 3, 540, 30, 0, 0, -1, 540, 30, 0, 0, 4 * 1440 + 480);
        for (int day = 0; day < 7; day++) {
            if (day == 3) {
                all(values, 2, 90, 90, 0, 0, 0, 570, 0);
            } else {
                all(values, 0, 0, 0, 0, 0, 0, 480, 0);
            }
            for (int hour = 0; hour < 24; hour++) {
                long both = day == 3 && hour == 8 ? 4 : 0;
                all(values, both, both);
            }
        }
        all(values, 570, 570, 570, 570, 570, 570);
        all(values, Double.doubleToLongBits(90.0 / 6300.0), 0, 0);
        due(hash(values), "with two shows", y::digest);
        due(hash(values), "once more", y::digest);

        // All of the opening time is on air: the bits of 1.
        StudioAirtime z = new StudioAirtime();
        for (int day = 0; day < 7; day++) {
            z.add(day % 2 == 0, day % 6, day, 700, 40, day);
        }
        z.set(0, 720);
        z.set(2, 20);
        z.set(1, 721);
        shareDue(z, 1.0);
        due(hash(valuesOfFace(z, "")), "with a share of 1", z::digest);
        StudioAirtime busy = busyDay();
        busy.closeWeek();
        busy.repeat(3, 6, 600);
        type(busy, "zz");
        due(hash(valuesOfFace(busy, "zz")), "of a busy day", busy::digest);
    }

    private static List<Long> valuesOfFace(StudioAirtime x, String buffer) {
        List<Long> values = new ArrayList<>();
        for (int i = 0; i < 16; i++) {
            values.add((long) (i < 8 ? x.count(i) : x.setting(i - 8)));
        }
        for (int i = 0; i < 6 * 9; i++) {
            values.add((long) x.group(i / 9, i % 9));
        }
        for (int show = 0; show < x.count(1); show++) {
            for (int what = 0; what < 12; what++) {
                values.add((long) x.show(show, what));
            }
            values.add((long) x.firstRepeat(show));
            if (x.show(show, 0) == 0) {
                values.add((long) x.greatestOverrun(show));
            }
        }
        for (int day = 0; day < 7; day++) {
            for (int what = 0; what < 8; what++) {
                values.add((long) x.day(day, what));
            }
            for (int hour = 0; hour < 24; hour++) {
                all(values, x.sponsors(day, hour, false), x.sponsors(day, hour, true));
            }
        }
        for (int group = 0; group < 6; group++) {
            values.add((long) x.firstTime(group, 3, 30));
        }
        all(values, Double.doubleToLongBits(x.share()), x.reason(), buffer.length());
        buffer.chars().forEach(c -> values.add((long) c));
        return values;
    }
}
