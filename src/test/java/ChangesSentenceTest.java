import java.io.IOException;

/** The sentences of the promises 1 to 13 (what changes a studio), each with its boundary cases. */
public final class ChangesSentenceTest extends Sentences {
    private static final int[] LEAST = {0, 721, 0, 0, 1, 0, 0, 0};
    private static final int[] GREATEST = {720, 1440, 120, 240, 100, 100, 30, 600};
    private static final int[] FIRST = {480, 1380, 10, 60, 20, 50, 8, 120};
    private static final int[] FAR = {Integer.MIN_VALUE, Integer.MIN_VALUE + 1, -1000, 1000000, Integer.MAX_VALUE};

    public static void main(String[] args) throws IOException {
        newObject();
        set();
        setQuota();
        add();
        addExceptions();
        repeat();
        repeatExceptions();
        remove();
        overrun();
        closeWeek();
        append();
        clearBuffer();
        firstError();
        load();
        loadReasons();
        undo();
        end("Promise ([1-9]|1[0-3]):.*");
    }

    private static void newObject() {
        section("Promise 1: A new object");
        test("`StudioAirtime()`: Creates a studio without shows, in the week 0, with an empty buffer.", () -> {
            StudioAirtime x = new StudioAirtime();
            for (int i = 0; i < 8; i++) {
                int what = i;
                due(0, "count(" + i + ")", () -> x.count(what));
            }
            throwsIndex("show(0, 0)", () -> x.show(0, 0));
            due(0, "firstError()", x::firstError);
            due(0, "clearBuffer()", x::clearBuffer);
            throwsState("undo()", x::undo);
            due(0, "reason()", x::reason);
            long before = x.digest();
            StudioAirtime other = typed("T0.0@600+60;T0.0@600+60");
            other.load();
            type(other, "x");
            other.set(0, 0);
            other.closeWeek();
            due(4, "the other studio's reason", other::reason);
            due(before, "digest() after changes of another studio", x::digest);
            due(before, "digest() of a studio made then", new StudioAirtime()::digest);
        });
    }

    // ---- settings and groups

    private static void set() {
        section("Promise 2: set");
        test("Changes a setting.", () -> {
            for (int s = 0; s < 8; s++) {
                int setting = s;
                StudioAirtime x = new StudioAirtime();
                for (int value : new int[] {LEAST[s], GREATEST[s]}) {
                    x.set(setting, value);
                    due(value, "setting(" + s + ")", () -> x.setting(setting));
                    for (int o = 0; o < 8; o++) {
                        int other = o;
                        due(o == s ? value : FIRST[o], "setting(" + o + ") after " + s, () -> x.setting(other));
                    }
                }
            }
        });
        test("Undoable.", () -> {
            for (int s = 0; s < 8; s++) {
                int setting = s;
                StudioAirtime x = new StudioAirtime();
                undoable(x, "set to its least", () -> x.set(setting, LEAST[setting]));
                undoable(x, "set to its greatest", () -> x.set(setting, GREATEST[setting]));
                due(FIRST[s], "set to what it is", () -> x.set(setting, FIRST[setting]));
                due(1, "saved states", () -> x.count(6));
            }
        });
        test("- `setting`: 0 to 7", () -> {
            StudioAirtime x = new StudioAirtime();
            due(480, "the setting 0", () -> x.set(0, 100));
            due(120, "the setting 7", () -> x.set(7, 100));
            throwsIndex("the setting -1", () -> x.set(-1, 100));
            throwsIndex("the setting 8", () -> x.set(8, 100));
        });
        test("- `value`: the new value", () -> {
            for (int s = 0; s < 8; s++) {
                int setting = s;
                StudioAirtime x = new StudioAirtime();
                for (int value : new int[] {LEAST[s], LEAST[s] + 1, GREATEST[s] - 1, GREATEST[s]}) {
                    x.set(setting, value);
                    due(value, "the value of " + s, () -> x.setting(setting));
                }
            }
        });
        test("Returns the previous value.", () -> {
            for (int s = 0; s < 8; s++) {
                int setting = s;
                StudioAirtime x = new StudioAirtime();
                due(FIRST[s], "the first set", () -> x.set(setting, LEAST[setting]));
                due(LEAST[s], "the second", () -> x.set(setting, GREATEST[setting]));
                due(GREATEST[s], "the third", () -> x.set(setting, GREATEST[setting]));
                x.undo();
                x.undo();
                due(LEAST[s], "behind undo", () -> x.set(setting, FIRST[setting]));
            }
        });
        test("Throws `IndexOutOfBoundsException` if there is no such setting", () -> {
            StudioAirtime x = new StudioAirtime();
            for (int setting : new int[] {-1, 8, Integer.MIN_VALUE, Integer.MAX_VALUE, -8, 16}) {
                throwsIndex("set(" + setting + ", 10)", () -> x.set(setting, 10));
                throwsIndex("set(" + setting + ", -1)", () -> x.set(setting, -1));
                changesNothing(x, "set(" + setting + ", 10)", () -> x.set(setting, 10));
            }
        });
        test("Throws `IllegalArgumentException` if value is out of range", () -> {
            StudioAirtime x = new StudioAirtime();
            for (int s = 0; s < 8; s++) {
                int setting = s;
                throwsArgument("one too small for " + s, () -> x.set(setting, LEAST[setting] - 1));
                throwsArgument("one too great for " + s, () -> x.set(setting, GREATEST[setting] + 1));
                for (int value : FAR) {
                    throwsArgument("set(" + s + ", " + value + ")", () -> x.set(setting, value));
                }
                changesNothing(x, "one too great for " + s, () -> x.set(setting, GREATEST[setting] + 1));
            }
        });
    }

    private static void setQuota() {
        section("Promise 3: setQuota");
        test("Changes a quota.", () -> {
            for (int g = 0; g < 6; g++) {
                int group = g;
                StudioAirtime x = new StudioAirtime();
                for (int minutes : new int[] {0, 1, 2000}) {
                    x.setQuota(group, minutes);
                    for (int o = 0; o < 6; o++) {
                        int other = o;
                        due(o == g ? minutes : 300, "the quota of " + o + " after " + g, () -> x.group(other, 0));
                    }
                    due(minutes, "the allowance of " + g, () -> x.group(group, 2));
                }
            }
        });
        test("Undoable.", () -> {
            StudioAirtime x = new StudioAirtime();
            for (int g = 0; g < 6; g++) {
                int group = g;
                undoable(x, "setQuota(" + g + ", 0)", () -> x.setQuota(group, 0));
                undoable(x, "setQuota(" + g + ", 2000)", () -> x.setQuota(group, 2000));
            }
            due(300, "the quota that it is", () -> x.setQuota(0, 300));
            due(1, "saved states", () -> x.count(6));
        });
        test("- `group`: 0 to 5", () -> {
            StudioAirtime x = new StudioAirtime();
            due(300, "the group 0", () -> x.setQuota(0, 1));
            due(300, "the group 5", () -> x.setQuota(5, 1));
            throwsIndex("the group -1", () -> x.setQuota(-1, 1));
            throwsIndex("the group 6", () -> x.setQuota(6, 1));
        });
        test("- `minutes`: 0 to 2000", () -> {
            StudioAirtime x = new StudioAirtime();
            due(300, "0 minutes", () -> x.setQuota(0, 0));
            due(0, "2000 minutes", () -> x.setQuota(0, 2000));
            throwsArgument("-1 minutes", () -> x.setQuota(0, -1));
            throwsArgument("2001 minutes", () -> x.setQuota(0, 2001));
            due(2000, "the quota", () -> x.group(0, 0));
        });
        test("Returns the previous quota.", () -> {
            StudioAirtime x = new StudioAirtime();
            due(300, "the first", () -> x.setQuota(3, 2000));
            due(2000, "the second", () -> x.setQuota(3, 0));
            due(0, "the third", () -> x.setQuota(3, 0));
            due(300, "another group's", () -> x.setQuota(4, 0));
        });
        test("Throws `IndexOutOfBoundsException` if there is no such group", () -> {
            StudioAirtime x = new StudioAirtime();
            for (int group : new int[] {-1, 6, Integer.MIN_VALUE, Integer.MAX_VALUE}) {
                throwsIndex("setQuota(" + group + ", 100)", () -> x.setQuota(group, 100));
                throwsIndex("setQuota(" + group + ", -1)", () -> x.setQuota(group, -1));
                changesNothing(x, "setQuota(" + group + ", 100)", () -> x.setQuota(group, 100));
            }
        });
        test("Throws `IllegalArgumentException` if minutes is out of range", () -> {
            StudioAirtime x = new StudioAirtime();
            for (int minutes : new int[] {-1, 2001, Integer.MIN_VALUE, Integer.MAX_VALUE}) {
                for (int g = 0; g < 6; g++) {
                    int group = g;
                    throwsArgument("setQuota(" + g + ", " + minutes + ")", () -> x.setQuota(group, minutes));
                }
                changesNothing(x, "setQuota(0, " + minutes + ")", () -> x.setQuota(0, minutes));
            }
        });
    }

    // ---- shows

    private static void showDue(StudioAirtime x, int show, int... want) {
        for (int i = 0; i < want.length; i++) {
            int what = i;
            due(want[i], "show(" + show + ", " + i + ")", () -> x.show(show, what));
        }
    }

    private static void add() {
        section("Promise 4: add");
        test("Adds a live show or a tape.", () -> {
            StudioAirtime x = openAllDay();
            x.set(6, 30);
            x.add(true, 0, 0, 0, 5, 0);
            x.add(false, 5, 6, 1200, 240, 30);
            x.add(true, 5, 6, 600, 5, 5);
            due(3, "shows", () -> x.count(1));
            due(2, "live shows", () -> x.count(2));
            showDue(x, 0, 0, 0, 0, 0, 5, 0, 0, -1, 0, 5, 0, 0);
            showDue(x, 1, 0, 5, 6, 600, 5, 5, 0, -1, 600, 5, 0, 0);
            showDue(x, 2, 1, 5, 6, 1200, 240, 30, 0, -1, 1200, 240, 0, 0);
        });
        test("Undoable.", () -> {
            StudioAirtime x = new StudioAirtime();
            undoable(x, "add to no shows", () -> x.add(true, 0, 0, 480, 5, 0));
            x.add(true, 0, 3, 480, 5, 0);
            x.repeat(0, 4, 480);
            undoable(x, "add before all", () -> x.add(false, 0, 0, 480, 5, 0));
            undoable(x, "add between them", () -> x.add(false, 0, 3, 485, 5, 0));
            undoable(x, "add behind all", () -> x.add(false, 0, 6, 1375, 5, 0));
            fill(x, 22);
            x.undo();
            undoable(x, "add of the 24th show", () -> x.add(false, 0, 5, 480, 5, 0));
        });
        test("The latest reason becomes 0, or the one for which it is refused.", () -> {
            StudioAirtime x = new StudioAirtime();
            x.add(true, 0, 0, 480, 60, 8);
            due(0, "of an added show", x::reason);
            refused(x, 3, "before the opening", () -> x.add(true, 0, 0, 479, 60, 0));
            refused(x, 4, "in the way", () -> x.add(true, 0, 0, 539, 60, 0));
            x.add(true, 0, 0, 540, 5, 0);
            due(0, "of an added show, again", x::reason);
            refused(x, 6, "beyond the allowance", () -> x.add(true, 0, 1, 480, 236, 0));
            refused(x, 7, "above the sponsor limit", () -> x.add(true, 1, 1, 480, 60, 9));
            fill(x, 22);
            due(0, "of the 24th show", x::reason);
            refused(x, 1, "a 25th", () -> x.add(true, 1, 1, 480, 60, 0));
        });
        test("- `live`: true for a live show", () -> {
            StudioAirtime x = new StudioAirtime();
            x.add(true, 0, 0, 480, 5, 0);
            x.add(false, 0, 0, 490, 5, 0);
            due(0, "true", () -> x.show(0, 0));
            due(1, "false", () -> x.show(1, 0));
        });
        rangesOfAdd();
        test("Returns its number.", () -> {
            StudioAirtime x = new StudioAirtime();
            due(0, "of the only show", () -> x.add(true, 0, 3, 600, 5, 0));
            due(1, "of one behind it", () -> x.add(true, 0, 3, 605, 5, 0));
            due(0, "of one before it", () -> x.add(true, 0, 3, 595, 5, 0));
            due(0, "of one on the day before, later", () -> x.add(true, 0, 2, 700, 5, 0));
            due(4, "of one on the day behind, earlier", () -> x.add(true, 0, 4, 500, 5, 0));
            due(4, "of one between them", () -> x.add(true, 0, 3, 610, 5, 0));
            fill(x, 17);
            due(23, "of the 24th, behind all", () -> x.add(true, 0, 6, 1375, 5, 0));
            x.remove(5);
            due(0, "of the 24th, before all", () -> x.add(true, 0, 0, 480, 5, 0));
        });
    }

    private static void rangesOfAdd() {
        test("- `group`: 0 to 5", () -> {
            StudioAirtime x = new StudioAirtime();
            due(0, "the group 0", () -> x.add(true, 0, 0, 480, 5, 0));
            due(1, "the group 5", () -> x.add(true, 5, 0, 485, 5, 0));
            throwsArgument("the group -1", () -> x.add(true, -1, 0, 490, 5, 0));
            throwsArgument("the group 6", () -> x.add(true, 6, 0, 490, 5, 0));
            due(1, "shows of 5", () -> x.group(5, 5));
        });
        test("- `day`: 0 to 6", () -> {
            StudioAirtime x = new StudioAirtime();
            due(0, "the day 0", () -> x.add(true, 0, 0, 480, 5, 0));
            due(1, "the day 6", () -> x.add(true, 0, 6, 480, 5, 0));
            throwsArgument("the day -1", () -> x.add(true, 0, -1, 480, 5, 0));
            throwsArgument("the day 7", () -> x.add(true, 0, 7, 480, 5, 0));
            due(1, "shows of the day 6", () -> x.day(6, 0));
        });
        test("- `start`: 0 to 1439", () -> {
            StudioAirtime x = openAllDay();
            due(0, "the start 0", () -> x.add(true, 0, 0, 0, 5, 0));
            due(1, "the start 1435", () -> x.add(true, 0, 0, 1435, 5, 0));
            refused(x, 3, "the start 1439", () -> x.add(true, 0, 0, 1439, 5, 0));
            throwsArgument("the start -1", () -> x.add(true, 0, 0, -1, 5, 0));
            throwsArgument("the start 1440", () -> x.add(true, 0, 0, 1440, 5, 0));
        });
        test("- `length`: 5 to 240", () -> {
            StudioAirtime x = new StudioAirtime();
            due(0, "the length 5", () -> x.add(true, 0, 0, 480, 5, 0));
            due(1, "the length 240", () -> x.add(true, 0, 0, 500, 240, 0));
            throwsArgument("the length 4", () -> x.add(true, 0, 1, 480, 4, 0));
            throwsArgument("the length 241", () -> x.add(true, 0, 1, 480, 241, 0));
            throwsArgument("the length 0", () -> x.add(true, 0, 1, 480, 0, 0));
            throwsArgument("the length -5", () -> x.add(true, 0, 1, 480, -5, 0));
            due(240, "the length", () -> x.show(1, 4));
        });
        test("- `sponsors`: its sponsor minutes, 0 to 30, at most length", () -> {
            StudioAirtime x = new StudioAirtime();
            x.set(6, 30);
            due(0, "0 of 5", () -> x.add(true, 0, 0, 480, 5, 0));
            due(1, "5 of 5", () -> x.add(true, 0, 0, 485, 5, 5));
            due(2, "29 of 29", () -> x.add(true, 0, 0, 600, 29, 29));
            due(3, "30 of 30", () -> x.add(true, 0, 0, 660, 30, 30));
            due(4, "30 of 31", () -> x.add(true, 0, 0, 720, 31, 30));
            throwsArgument("6 of 5", () -> x.add(true, 0, 1, 480, 5, 6));
            throwsArgument("30 of 29", () -> x.add(true, 0, 1, 480, 29, 30));
            throwsArgument("31 of 31", () -> x.add(true, 0, 1, 480, 31, 31));
            throwsArgument("31 of 240", () -> x.add(true, 0, 1, 480, 240, 31));
            throwsArgument("-1 of 240", () -> x.add(true, 0, 1, 480, 240, -1));
            due(30, "the sponsor minutes", () -> x.show(4, 5));
        });
    }

    private static void addExceptions() {
        test("Throws `IllegalArgumentException` if an argument is out of range", () -> {
            StudioAirtime x = new StudioAirtime();
            refused(x, 3, "before the opening", () -> x.add(true, 0, 0, 0, 60, 0));
            for (int far : new int[] {-1, Integer.MIN_VALUE, Integer.MAX_VALUE, 1440}) {
                throwsArgument("the group " + far, () -> x.add(true, far, 0, 600, 60, 0));
                throwsArgument("the day " + far, () -> x.add(true, 0, far, 600, 60, 0));
                throwsArgument("the start " + far, () -> x.add(true, 0, 0, far, 60, 0));
                throwsArgument("the length " + far, () -> x.add(true, 0, 0, 600, far, 0));
                throwsArgument("the sponsor minutes " + far, () -> x.add(true, 0, 0, 600, 60, far));
                throwsArgument("all of them " + far, () -> x.add(false, far, far, far, far, far));
                changesNothing(x, "all of them " + far, () -> x.add(false, far, far, far, far, far));
            }
            due(3, "the latest reason", x::reason);
            due(0, "shows", () -> x.count(1));
        });
        test("Throws `IllegalStateException` if it is refused", () -> {
            StudioAirtime x = new StudioAirtime();
            throwsState("before the opening", () -> x.add(true, 0, 0, 479, 60, 0));
            changesNothing(x, "the same again", () -> x.add(true, 0, 0, 479, 60, 0));
            due(0, "at the opening", () -> x.add(true, 0, 0, 480, 60, 8));
            throwsState("over the close", () -> x.add(true, 0, 0, 1321, 60, 0));
            due(1, "up to the close", () -> x.add(true, 0, 0, 1320, 60, 0));
            throwsState("in the way", () -> x.add(true, 0, 0, 539, 60, 0));
            due(1, "behind it", () -> x.add(true, 0, 0, 540, 60, 0));
            throwsState("beyond the allowance", () -> x.add(true, 0, 1, 480, 121, 0));
            due(3, "up to the allowance", () -> x.add(true, 0, 1, 480, 120, 0));
            throwsState("above the sponsor limit", () -> x.add(true, 1, 2, 480, 60, 9));
            due(4, "up to the sponsor limit", () -> x.add(true, 1, 2, 480, 60, 8));
            fill(x, 19);
            throwsState("a 25th show", () -> x.add(true, 2, 3, 480, 60, 0));
            changesNothing(x, "the same again", () -> x.add(true, 2, 3, 480, 60, 0));
        });
    }

    private static void repeat() {
        section("Promise 5: repeat");
        test("Adds a repeat.", () -> {
            StudioAirtime x = new StudioAirtime();
            x.add(true, 5, 0, 480, 200, 8);
            x.overrun(0, -60);
            x.repeat(0, 6, 1180);
            due(2, "shows", () -> x.count(1));
            due(1, "repeats", () -> x.count(3));
            showDue(x, 1, 2, 5, 6, 1180, 200, 0, 0, 0, 1180, 200, 0, 0);
            showDue(x, 0, 0, 5, 0, 480, 200, 8, -60, -1, 480, 140, 0, 0);
        });
        test("Undoable.", () -> {
            StudioAirtime x = new StudioAirtime();
            x.add(true, 0, 0, 480, 60, 0);
            x.add(true, 0, 6, 480, 60, 0);
            undoable(x, "repeat between them", () -> x.repeat(0, 3, 480));
            undoable(x, "repeat behind all", () -> x.repeat(0, 6, 1320));
            x.repeat(0, 3, 480);
            undoable(x, "a second repeat, just behind", () -> x.repeat(0, 3, 540));
        });
        test("The latest reason becomes 0, or the one for which it is refused.", () -> {
            StudioAirtime x = new StudioAirtime();
            x.add(false, 0, 0, 1200, 60, 8);
            x.repeat(0, 1, 1020);
            due(0, "of an added repeat", x::reason);
            refused(x, 2, "of a repeat", () -> x.repeat(1, 3, 480));
            refused(x, 3, "before the opening", () -> x.repeat(0, 2, 479));
            refused(x, 4, "in the way", () -> x.repeat(0, 1, 1079));
            x.repeat(0, 1, 1080);
            due(0, "of an added repeat, again", x::reason);
            refused(x, 5, "too early", () -> x.repeat(0, 1, 959));
            x.setQuota(0, 149);
            refused(x, 6, "beyond the allowance", () -> x.repeat(0, 2, 480));
            x.setQuota(0, 150);
            x.add(false, 1, 2, 600, 60, 8);
            x.set(6, 7);
            refused(x, 7, "above the sponsor limit", () -> x.repeat(0, 2, 480));
            fill(x, 20);
            refused(x, 1, "a 25th show", () -> x.repeat(0, 3, 480));
        });
        test("- `original`: the number of its original", () -> {
            StudioAirtime x = new StudioAirtime();
            x.add(false, 1, 0, 480, 10, 0);
            x.add(true, 2, 0, 490, 20, 0);
            due(2, "of the first show", () -> x.repeat(0, 1, 480));
            due(3, "of the last original", () -> x.repeat(1, 1, 490));
            due(10, "its length", () -> x.show(2, 4));
            due(1, "its group", () -> x.show(2, 1));
            due(0, "its original", () -> x.show(2, 7));
            x.add(false, 3, 0, 600, 5, 0);
            due(5, "of a show with the number 2", () -> x.repeat(2, 1, 600));
            due(2, "its original", () -> x.show(5, 7));
            throwsIndex("of the number -1", () -> x.repeat(-1, 2, 480));
            throwsIndex("of the number 6", () -> x.repeat(6, 2, 480));
        });
        test("- `day`: 0 to 6", () -> {
            StudioAirtime x = new StudioAirtime();
            x.set(4, 1);
            x.add(false, 1, 0, 480, 10, 0);
            due(1, "the day 0", () -> x.repeat(0, 0, 550));
            due(2, "the day 6", () -> x.repeat(0, 6, 1370));
            throwsArgument("the day -1", () -> x.repeat(0, -1, 600));
            throwsArgument("the day 7", () -> x.repeat(0, 7, 600));
        });
        test("- `start`: 0 to 1439", () -> {
            StudioAirtime x = openAllDay();
            x.add(false, 1, 0, 480, 10, 0);
            due(1, "the start 0", () -> x.repeat(0, 2, 0));
            due(2, "the start 1430", () -> x.repeat(0, 2, 1430));
            refused(x, 3, "the start 1439", () -> x.repeat(0, 3, 1439));
            throwsArgument("the start -1", () -> x.repeat(0, 3, -1));
            throwsArgument("the start 1440", () -> x.repeat(0, 3, 1440));
        });
        test("Returns its number.", () -> {
            StudioAirtime x = new StudioAirtime();
            x.add(false, 1, 0, 480, 10, 0);
            due(1, "of the first repeat", () -> x.repeat(0, 2, 600));
            due(1, "of one before it", () -> x.repeat(0, 2, 590));
            due(1, "of one on the day before", () -> x.repeat(0, 1, 700));
            due(4, "of one behind all", () -> x.repeat(0, 2, 610));
            fill(x, 18);
            due(23, "of the 24th", () -> x.repeat(0, 6, 1370));
        });
    }

    private static void repeatExceptions() {
        test("Throws `IndexOutOfBoundsException` if there is no such show", () -> {
            StudioAirtime x = new StudioAirtime();
            throwsIndex("without shows", () -> x.repeat(0, 0, 480));
            x.add(false, 1, 0, 480, 10, 0);
            refused(x, 3, "before the opening", () -> x.repeat(0, 1, 0));
            for (int original : new int[] {-1, 1, 23, 24, Integer.MIN_VALUE, Integer.MAX_VALUE}) {
                throwsIndex("of " + original, () -> x.repeat(original, 1, 480));
                throwsIndex("of " + original + " on a wrong day", () -> x.repeat(original, 7, 480));
                changesNothing(x, "of " + original, () -> x.repeat(original, 1, 480));
            }
            due(3, "the latest reason", x::reason);
            fill(x, 23);
            throwsIndex("with 24 shows", () -> x.repeat(24, 1, 480));
        });
        test("Throws `IllegalArgumentException` if day or start is out of range", () -> {
            StudioAirtime x = new StudioAirtime();
            x.add(false, 1, 0, 480, 10, 0);
            refused(x, 3, "before the opening", () -> x.repeat(0, 1, 0));
            for (int day : new int[] {-1, 7, Integer.MIN_VALUE, Integer.MAX_VALUE}) {
                throwsArgument("on the day " + day, () -> x.repeat(0, day, 480));
                throwsArgument("on the day " + day + ", before the opening", () -> x.repeat(0, day, 0));
            }
            for (int start : new int[] {-1, 1440, Integer.MIN_VALUE, Integer.MAX_VALUE}) {
                throwsArgument("at " + start, () -> x.repeat(0, 1, start));
                changesNothing(x, "at " + start, () -> x.repeat(0, 1, start));
            }
            due(3, "the latest reason", x::reason);
        });
        test("Throws `IllegalStateException` if it is refused", () -> {
            StudioAirtime x = new StudioAirtime();
            x.add(false, 1, 0, 1200, 60, 8);
            throwsState("before the opening", () -> x.repeat(0, 2, 479));
            changesNothing(x, "the same again", () -> x.repeat(0, 2, 479));
            throwsState("over the close", () -> x.repeat(0, 2, 1321));
            throwsState("in the way", () -> x.repeat(0, 0, 1259));
            throwsState("too early", () -> x.repeat(0, 1, 1019));
            due(1, "just late enough", () -> x.repeat(0, 1, 1020));
            throwsState("of a repeat", () -> x.repeat(1, 3, 480));
            x.setQuota(1, 119);
            throwsState("beyond the allowance", () -> x.repeat(0, 3, 480));
            x.setQuota(1, 120);
            due(2, "up to the allowance", () -> x.repeat(0, 3, 480));
            fill(x, 21);
            throwsState("a 25th show", () -> x.repeat(0, 4, 480));
            changesNothing(x, "the same again", () -> x.repeat(0, 4, 480));
        });
    }

    /** 0 live, 1 tape, 2 repeat of 0, 3 repeat of 1, 4 tape, 5 repeat of 0, 6 repeat of 4. */
    private static StudioAirtime withRepeats() {
        StudioAirtime x = new StudioAirtime();
        x.add(true, 0, 0, 480, 60, 3);
        x.add(false, 1, 0, 600, 30, 5);
        x.add(false, 2, 2, 600, 50, 0);
        x.repeat(0, 1, 600);
        x.repeat(1, 1, 700);
        x.repeat(0, 3, 600);
        x.repeat(4, 4, 600);
        return x;
    }

    private static void remove() {
        section("Promise 6: remove");
        test("Removes a show, and all repeats of it;", () -> {
            int[][] starts = {{0, 600, 700, 600, 600}, {1, 480, 600, 600, 600, 600}, {2, 480, 600, 700, 600, 600, 600},
                {4, 480, 600, 600, 700, 600}, {6, 480, 600, 600, 700, 600, 600}};
            int[][] lengths = {{30, 30, 50, 50}, {60, 60, 50, 60, 50}, {60, 30, 30, 50, 60, 50},
                {60, 30, 60, 30, 60}, {60, 30, 60, 30, 50, 60}};
            for (int i = 0; i < starts.length; i++) {
                int gone = starts[i][0];
                StudioAirtime x = withRepeats();
                x.remove(gone);
                due(lengths[i].length, "shows without " + gone, () -> x.count(1));
                for (int s = 0; s < lengths[i].length; s++) {
                    int show = s;
                    due(starts[i][1 + s], "start without " + gone, () -> x.show(show, 3));
                    due(lengths[i][s], "length without " + gone, () -> x.show(show, 4));
                }
            }
            StudioAirtime one = new StudioAirtime();
            one.add(true, 0, 0, 480, 60, 0);
            one.remove(0);
            due(480, "firstTime without the only one", () -> one.firstTime(0, 0, 60));
            due(0, "shows without the only one", () -> one.count(1));
            throwsIndex("the show 0 then", () -> one.show(0, 0));
        });
        test("the numbers of the others are told anew.", () -> {
            StudioAirtime x = withRepeats();
            x.remove(0);
            int[] originals = {-1, 0, -1, 2};
            for (int i = 0; i < 4; i++) {
                int show = i;
                due(originals[i], "the original of " + i, () -> x.show(show, 7));
            }
            StudioAirtime y = withRepeats();
            y.remove(3);
            int[] others = {-1, -1, 0, -1, 0, 3};
            for (int i = 0; i < 6; i++) {
                int show = i;
                due(others[i], "the original of " + i + " without a repeat", () -> y.show(show, 7));
            }
            throwsIndex("the number behind the last", () -> y.show(6, 0));
        });
        test("Undoable.", () -> {
            StudioAirtime x = withRepeats();
            x.undo();
            x.undo();
            x.add(false, 5, 6, 480, 5, 0);
            x.overrun(0, 7);
            x.undo();
            for (int s = 0; s < 6; s++) {
                int show = s;
                undoable(x, "remove(" + s + ")", () -> x.remove(show));
            }
        });
        test("- `show`: its number", () -> {
            StudioAirtime x = withRepeats();
            due(1, "the last number", () -> x.remove(6));
            throwsIndex("the number that was the last", () -> x.remove(6));
            due(3, "the first number", () -> x.remove(0));
        });
        test("Returns how many shows are removed.", () -> {
            int[] removed = {3, 2, 1, 1, 2, 1, 1};
            for (int s = 0; s < 7; s++) {
                int show = s;
                due(removed[s], "remove(" + s + ")", () -> withRepeats().remove(show));
            }
            StudioAirtime x = new StudioAirtime();
            x.set(5, 0);
            x.add(true, 0, 0, 480, 5, 0);
            for (int i = 0; i < 23; i++) {
                x.repeat(0, 6, 480 + 5 * i);
            }
            due(24, "a show with 23 repeats", () -> x.remove(0));
            due(0, "shows", () -> x.count(1));
        });
        test("Throws `IndexOutOfBoundsException` if there is no such show", () -> {
            StudioAirtime x = new StudioAirtime();
            throwsIndex("without shows", () -> x.remove(0));
            fill(x, 24);
            for (int show : new int[] {-1, 24, Integer.MIN_VALUE, Integer.MAX_VALUE}) {
                throwsIndex("remove(" + show + ")", () -> x.remove(show));
                changesNothing(x, "remove(" + show + ")", () -> x.remove(show));
            }
            due(1, "the last of 24", () -> x.remove(23));
            throwsIndex("the last of 24 once more", () -> x.remove(23));
        });
    }

    private static void overrun() {
        section("Promise 7: overrun");
        test("Sets the overrun of a live show.", () -> {
            StudioAirtime x = new StudioAirtime();
            x.add(true, 0, 0, 480, 60, 0);
            x.add(true, 1, 1, 480, 60, 0);
            for (int by : new int[] {-60, -1, 0, 1, 120}) {
                x.overrun(1, by);
                due(by, "its overrun", () -> x.show(1, 6));
                due(Math.max(1, 60 + by), "how long it lasts", () -> x.show(1, 9));
                due(0, "the other's overrun", () -> x.show(0, 6));
                due(60, "how long the other lasts", () -> x.show(0, 9));
            }
        });
        test("Undoable.", () -> {
            StudioAirtime x = new StudioAirtime();
            x.add(true, 0, 0, 480, 60, 0);
            undoable(x, "overrun(0, 120)", () -> x.overrun(0, 120));
            undoable(x, "overrun(0, -60)", () -> x.overrun(0, -60));
            due(0, "overrun(0, 0)", () -> x.overrun(0, 0));
            due(2, "saved states", () -> x.count(6));
        });
        test("- `show`: its number", () -> {
            StudioAirtime x = new StudioAirtime();
            x.add(true, 0, 0, 480, 60, 0);
            x.add(true, 0, 1, 480, 60, 0);
            due(0, "the first", () -> x.overrun(0, 1));
            due(0, "the last", () -> x.overrun(1, 2));
            throwsIndex("the number -1", () -> x.overrun(-1, 1));
            throwsIndex("the number 2", () -> x.overrun(2, 1));
        });
        test("- `by`: -60 to 120", () -> {
            StudioAirtime x = new StudioAirtime();
            x.add(true, 0, 0, 480, 60, 0);
            due(0, "by -60", () -> x.overrun(0, -60));
            due(-60, "by 120", () -> x.overrun(0, 120));
            throwsArgument("by -61", () -> x.overrun(0, -61));
            throwsArgument("by 121", () -> x.overrun(0, 121));
            due(120, "the overrun", () -> x.show(0, 6));
        });
        test("Returns the previous overrun.", () -> {
            StudioAirtime x = new StudioAirtime();
            x.add(true, 0, 0, 480, 60, 0);
            int[][] calls = {{120, 0}, {-60, 120}, {-60, -60}, {0, -60}, {5, 0}};
            for (int[] call : calls) {
                due(call[1], "overrun(0, " + call[0] + ")", () -> x.overrun(0, call[0]));
            }
            x.closeWeek();
            due(0, "behind closeWeek()", () -> x.overrun(0, 3));
            x.undo();
            x.undo();
            due(5, "behind undo()", () -> x.overrun(0, 3));
        });
        test("Throws `IndexOutOfBoundsException` if there is no such show", () -> {
            StudioAirtime x = new StudioAirtime();
            throwsIndex("without shows", () -> x.overrun(0, 0));
            x.add(true, 0, 0, 480, 60, 0);
            for (int show : new int[] {-1, 1, 24, Integer.MIN_VALUE, Integer.MAX_VALUE}) {
                throwsIndex("overrun(" + show + ", 0)", () -> x.overrun(show, 0));
                throwsIndex("overrun(" + show + ", 121)", () -> x.overrun(show, 121));
                changesNothing(x, "overrun(" + show + ", 0)", () -> x.overrun(show, 0));
            }
        });
        test("Throws `IllegalArgumentException` if by is out of range", () -> {
            StudioAirtime x = new StudioAirtime();
            x.add(true, 0, 0, 480, 60, 0);
            x.add(false, 0, 1, 480, 60, 0);
            for (int by : new int[] {-61, 121, Integer.MIN_VALUE, Integer.MAX_VALUE}) {
                throwsArgument("overrun(0, " + by + ")", () -> x.overrun(0, by));
                throwsArgument("overrun(1, " + by + ") of a tape", () -> x.overrun(1, by));
                changesNothing(x, "overrun(0, " + by + ")", () -> x.overrun(0, by));
            }
        });
        test("Throws `IllegalStateException` if it is no live show", () -> {
            StudioAirtime x = new StudioAirtime();
            x.add(true, 0, 0, 480, 60, 0);
            x.add(false, 0, 1, 480, 60, 0);
            x.repeat(0, 2, 480);
            for (int by : new int[] {-60, 0, 120}) {
                throwsState("of a tape", () -> x.overrun(1, by));
                throwsState("of a live show's repeat", () -> x.overrun(2, by));
            }
            changesNothing(x, "of a tape", () -> x.overrun(1, 1));
            due(0, "the latest reason", x::reason);
            due(0, "of a live show", () -> x.overrun(0, 1));
        });
    }

    private static void closeWeek() {
        section("Promise 8: closeWeek");
        test("Closes the week.", () -> {
            StudioAirtime x = new StudioAirtime();
            x.add(true, 5, 6, 1300, 80, 0);
            x.overrun(0, -10);
            x.closeWeek();
            int[] want = {300, 120, 420, 80, 80, 1, 300, 70, 110};
            for (int i = 0; i < 9; i++) {
                int what = i;
                due(want[i], "group(5, " + i + ")", () -> x.group(5, what));
            }
            StudioAirtime empty = new StudioAirtime();
            empty.closeWeek();
            for (int g = 0; g < 6; g++) {
                int group = g;
                due(120, "carried without shows", () -> empty.group(group, 1));
                due(180, "lost without shows", () -> empty.group(group, 8));
            }
        });
        test("Undoable.", () -> {
            StudioAirtime x = new StudioAirtime();
            undoable(x, "closeWeek() without shows", x::closeWeek);
            x.add(true, 0, 0, 480, 60, 0);
            x.overrun(0, 30);
            undoable(x, "closeWeek() with an overrun", x::closeWeek);
            x.closeWeek();
            undoable(x, "a second closeWeek()", x::closeWeek);
            due(1, "the week", () -> x.count(0));
        });
        test("Returns the week number then.", () -> {
            StudioAirtime x = new StudioAirtime();
            for (int week = 1; week <= 8; week++) {
                due(week, "closeWeek()", x::closeWeek);
                due(week, "count(0)", () -> x.count(0));
            }
            x.undo();
            x.undo();
            due(7, "closeWeek() behind two undo()", x::closeWeek);
        });
        test("Throws `IllegalStateException` if the week number is 1000", () -> {
            // Behind 512 calls nothing is promised; the program keeps to it all the same.
            StudioAirtime x = new StudioAirtime();
            for (int i = 1; i < 1000; i++) {
                x.closeWeek();
            }
            due(1000, "closeWeek() in the week 999", x::closeWeek);
            throwsState("closeWeek() in the week 1000", x::closeWeek);
            changesNothing(x, "closeWeek() in the week 1000", x::closeWeek);
            due(5, "undo()", x::undo);
            due(1000, "closeWeek() again", x::closeWeek);
        });
    }

    // ---- texts

    private static void append() {
        section("Promise 9: append");
        test("Appends a character to the buffer.", () -> {
            StudioAirtime x = new StudioAirtime();
            x.append('T');
            due(1, "firstError of T", x::firstError);
            x.append('T');
            due(1, "firstError of TT", x::firstError);
            due(2, "clearBuffer()", x::clearBuffer);
            due(0, "saved states", () -> x.count(6));
            throwsState("undo()", x::undo);
        });
        test("- `code`: the character code, 33 to 126", () -> {
            StudioAirtime x = new StudioAirtime();
            for (int code = 33; code <= 126; code++) {
                x.clearBuffer();
                int next = code;
                due(1, "append(" + code + ")", () -> x.append(next));
                due("LTR".indexOf(code) >= 0 ? 1 : 0, "firstError()", x::firstError);
            }
            throwsArgument("append(32)", () -> x.append(32));
            throwsArgument("append(127)", () -> x.append(127));
        });
        test("Returns the new length of the buffer.", () -> {
            StudioAirtime x = new StudioAirtime();
            for (int i = 1; i <= 60; i++) {
                due(i, "append", () -> x.append(33));
            }
            x.clearBuffer();
            due(1, "append to the cleared buffer", () -> x.append(126));
        });
        test("Throws `IllegalArgumentException` if code is not 33 to 126", () -> {
            StudioAirtime x = new StudioAirtime();
            for (int code : new int[] {32, 127, 0, -1, -76, 256 + 76, 65536 + 76, Integer.MIN_VALUE, Integer.MAX_VALUE}) {
                throwsArgument("append(" + code + ")", () -> x.append(code));
                changesNothing(x, "append(" + code + ")", () -> x.append(code));
            }
            due(0, "clearBuffer()", x::clearBuffer);
        });
        test("Throws `IllegalStateException` if the buffer has 60 characters", () -> {
            StudioAirtime x = typed("L".repeat(59));
            due(60, "the 60th", () -> x.append(33));
            throwsState("the 61st", () -> x.append(33));
            throwsState("the 61st again", () -> x.append(126));
            throwsArgument("the 61st with a wrong code", () -> x.append(127));
            changesNothing(x, "the 61st", () -> x.append(33));
            due(60, "clearBuffer()", x::clearBuffer);
        });
    }

    private static void clearBuffer() {
        section("Promise 10: clearBuffer");
        test("Clears the buffer.", () -> {
            StudioAirtime x = typed("x");
            long before = new StudioAirtime().digest();
            x.clearBuffer();
            due(before, "digest() of a cleared buffer", x::digest);
            type(x, "L0");
            due(2, "firstError() of what is typed then", x::firstError);
            x.clearBuffer();
            x.clearBuffer();
            due(0, "saved states", () -> x.count(6));
        });
        test("Returns the length that it had.", () -> {
            for (int length : new int[] {0, 1, 59, 60}) {
                StudioAirtime x = typed("!".repeat(length));
                due(length, "clearBuffer()", x::clearBuffer);
                due(0, "clearBuffer() again", x::clearBuffer);
            }
        });
    }

    private static void firstError() {
        section("Promise 11: firstError");
        test("Finds the first syntax error of the buffer.", () -> {
            StudioAirtime x = typed("L0.0@600+60;l;L9");
            due(12, "firstError()", x::firstError);
            changesNothing(x, "firstError()", x::firstError);
            due(12, "firstError() again", x::firstError);
        });
        test("Returns the index of the first character that is a syntax error;", () -> {
            String text = "T5.6@1020+240:30;R23.6@1439;L0.0@0+5:0;T1.2@5+5;R0.0@0;L1.1@";
            for (int i = 0; i < 60; i++) {
                StudioAirtime x = typed(text.substring(0, i) + "~");
                int index = i;
                due(index, "firstError with the character " + i + " wrong", x::firstError);
            }
            StudioAirtime y = typed("~" + text.substring(1, 60));
            due(0, "firstError with the first wrong", y::firstError);
        });
        test("the length of the buffer if there is none.", () -> {
            String text = "T5.6@1020+240:30;R23.6@1439;L0.0@0+5:0;T1.2@5+5;R0.0@0;L1.1@";
            StudioAirtime x = new StudioAirtime();
            due(0, "firstError of an empty buffer", x::firstError);
            for (int i = 0; i < 60; i++) {
                x.append(text.charAt(i));
                due(i + 1, "firstError of " + (i + 1), x::firstError);
            }
        });
    }

    private static void load() {
        section("Promise 12: load");
        test("Adds the shows in the buffer, one after the other, as long as none is refused, and clears the buffer.", () -> {
            StudioAirtime x = typed("T0.0@600+60:8;R0.1@700;L5.6@1320+61;T1.1@480+5");
            due(2, "load()", x::load);
            due(2, "shows", () -> x.count(1));
            showDue(x, 0, 1, 0, 0, 600, 60, 8, 0, -1, 600, 60, 0, 0);
            showDue(x, 1, 2, 0, 1, 700, 60, 0, 0, 0, 700, 60, 0, 0);
            due(0, "clearBuffer()", x::clearBuffer);
            type(x, "T1.1@480+5");
            due(1, "load() of one", x::load);
            due(0, "clearBuffer()", x::clearBuffer);
            // The first fills what the second would need.
            StudioAirtime y = typed("T0.0@600+240;T0.1@600+60;T0.2@600+5;T1.3@600+5");
            due(2, "load() up to the allowance", y::load);
            due(6, "its reason", y::reason);
        });
        test("Undoable, as one call, also if the first one is refused.", () -> {
            StudioAirtime x = typed("T0.0@600+60;T0.1@600+60;T0.2@600+60");
            due(3, "load() of three", x::load);
            due(1, "saved states", () -> x.count(6));
            due(0, "undo()", x::undo);
            due(0, "shows behind undo", () -> x.count(1));
            type(x, "T0.0@600+60;T0.0@600+60");
            due(1, "load() with the second refused", x::load);
            due(1, "saved states", () -> x.count(6));
            type(x, "T0.0@600+60");
            due(0, "load() with the first refused", x::load);
            due(2, "saved states", () -> x.count(6));
            type(x, "T0.0@1440+60");
            due(0, "load() with the first out of range", x::load);
            due(3, "saved states", () -> x.count(6));
            due(2, "undo()", x::undo);
            due(1, "undo()", x::undo);
            due(1, "shows behind undo", () -> x.count(1));
            due(0, "undo()", x::undo);
            due(0, "shows behind undo", () -> x.count(1));
            due(20, "the latest reason is not undone", x::reason);
            due(0, "nor is the buffer", x::clearBuffer);
        });
        test("Returns how many shows are added.", () -> {
            String five = "T0.0@600+5;T0.1@600+5;T0.2@600+5;T0.3@600+5;T0.4@600+5";
            for (int count = 1; count <= 5; count++) {
                StudioAirtime x = typed(five.substring(0, 11 * count - 1));
                due(count, "load() of " + count, x::load);
                due(1, "load() of one more", () -> {
                    type(x, "T0.6@600+5");
                    return x.load();
                });
            }
            due(0, "load() of a refused one", () -> typed("T0.0@0+5").load());
            due(0, "load() of a refused one and another", () -> typed("T0.0@0+5;T0.0@600+5").load());
            due(1, "load() of one and a refused one", () -> typed("T0.0@600+5;T0.0@0+5").load());
            StudioAirtime x = openAllDay();
            type(x, "T0.0@0+5;R0.1@5;R0.1@0;R0.2@0;R0.2@5;R0.3@0;R0.3@5");
            due(7, "load() of seven", x::load);
        });
        test("Throws `IllegalArgumentException` if the buffer is not a complete text", () -> {
            String text = "T0.0@600+60:8;R0.1@700;L1.2@0+5";
            for (int i = 0; i <= text.length(); i++) {
                String part = text.substring(0, i);
                StudioAirtime x = typed(part);
                // Complete are: each number of digits behind "+", ":" and the start of a repeat.
                boolean complete = i == 10 || i == 11 || i == 13 || i >= 20 && i <= 22 || i == 31;
                if (complete) {
                    x.load();
                    due(0, "the buffer behind load of " + part, x::clearBuffer);
                } else {
                    throwsArgument("load of " + part, x::load);
                    changesNothing(x, "load of " + part, x::load);
                    due(i, "the buffer behind load of " + part, x::clearBuffer);
                }
            }
            throwsArgument("load of a text and one more character", () -> typed("T0.0@600+60!").load());
            throwsArgument("load of a wrong beginning", () -> typed("!T0.0@600+60").load());
        });
    }

    private static void loaded(int added, int reason, String text) {
        StudioAirtime x = typed(text);
        due(added, "load of " + text, x::load);
        due(reason, "reason of " + text, x::reason);
        due(added, "shows of " + text, () -> x.count(1));
    }

    private static void loadReasons() {
        test("The latest reason becomes that of the show that is refused;", () -> {
            loaded(0, 3, "T0.0@479+60");
            loaded(0, 3, "T0.0@1321+60");
            loaded(1, 4, "T0.0@600+60;T1.0@659+60");
            loaded(1, 5, "T0.0@661+60;R0.1@480");
            loaded(1, 6, "T0.0@600+240;T0.1@600+61");
            loaded(0, 7, "T0.0@600+60:9");
            loaded(2, 2, "T0.0@600+60;R0.2@600;R1.4@600");
            StudioAirtime x = new StudioAirtime();
            fill(x, 23);
            type(x, "T0.0@480+5;T0.0@485+5");
            due(1, "load() of the 24th and a 25th", x::load);
            due(1, "its reason", x::reason);
            type(x, "R0.0@0");
            due(0, "load() of a repeat as the 25th", x::load);
            due(1, "its reason", x::reason);
        });
        test("20 if an argument of it would be out of range (or its original does not exist), "
                + "which is looked at first;", () -> {
            loaded(0, 20, "L0.0@1440+60");
            loaded(0, 3, "L0.0@1439+60");
            loaded(0, 20, "T0.0@600+4");
            loaded(1, 0, "T0.0@600+5");
            loaded(1, 0, "T0.0@600+240");
            loaded(0, 20, "T0.0@600+241");
            loaded(0, 20, "T0.0@600+60:31");
            loaded(0, 7, "T0.0@600+60:30");
            loaded(0, 20, "T0.0@600+5:6");
            loaded(1, 0, "T0.0@600+5:5");
            loaded(0, 20, "R0.0@600");
            loaded(1, 20, "T0.0@600+5;R1.1@600");
            loaded(2, 0, "T0.0@600+5;R0.1@600");
            loaded(1, 20, "T0.0@600+5;R0.1@1440");
            loaded(1, 3, "T0.0@600+5;R0.1@1439");
            loaded(1, 20, "T0.0@600+60;T0.0@0+4");
            loaded(1, 20, "T0.0@600+5;R9999.1@600;T1.0@700+5");
            StudioAirtime x = new StudioAirtime();
            fill(x, 24);
            type(x, "T0.0@600+4");
            due(0, "load() of one out of range as the 25th", x::load);
            due(20, "its reason", x::reason);
            type(x, "R24.0@600");
            due(0, "load() of a repeat of no show as the 25th", x::load);
            due(20, "its reason", x::reason);
            type(x, "R23.0@600");
            due(0, "load() of a repeat of the last show as the 25th", x::load);
            due(1, "its reason", x::reason);
        });
        test("0 if all are added.", () -> {
            StudioAirtime x = typed("T0.0@1440+60");
            x.load();
            due(20, "the reason before", x::reason);
            type(x, "T0.0@600+60");
            due(1, "load() of one", x::load);
            due(0, "its reason", x::reason);
            throwsState("add in the way", () -> x.add(true, 0, 0, 600, 60, 0));
            due(4, "the reason before", x::reason);
            type(x, "T0.1@600+60;R0.2@600");
            due(2, "load() of two", x::load);
            due(0, "its reason", x::reason);
        });
    }

    private static void undo() {
        section("Promise 13: undo");
        test("Restores the latest saved state, and drops it.", () -> {
            StudioAirtime x = withRepeats();
            x.closeWeek();
            long first = x.digest();
            x.overrun(0, 9);
            x.remove(1);
            x.setQuota(2, 7);
            x.set(0, 490);
            for (int i = 0; i < 4; i++) {
                x.undo();
            }
            due(2, "saved states", () -> x.count(6));
            // The digest tells the saved states too: with four calls that alter nothing they are six again.
            x.set(7, 120);
            x.set(7, 120);
            x.set(7, 120);
            x.set(7, 120);
            due(first, "digest() as it was", x::digest);
            StudioAirtime y = new StudioAirtime();
            y.setQuota(0, 1);
            y.setQuota(0, 2);
            y.undo();
            due(1, "the quota", () -> y.group(0, 0));
            y.setQuota(0, 3);
            y.undo();
            due(1, "the quota behind another change", () -> y.group(0, 0));
            y.undo();
            due(300, "the first quota", () -> y.group(0, 0));
        });
        test("Returns how many saved states are left.", () -> {
            for (int changes : new int[] {1, 5, 6, 7, 12}) {
                StudioAirtime x = new StudioAirtime();
                for (int i = 0; i < changes; i++) {
                    x.setQuota(0, i);
                }
                for (int left = Math.min(changes, 6) - 1; left >= 0; left--) {
                    due(left, "undo()", x::undo);
                    due(left, "count(6)", () -> x.count(6));
                }
            }
        });
        test("Throws `IllegalStateException` if there is none", () -> {
            StudioAirtime x = new StudioAirtime();
            throwsState("of a new object", x::undo);
            changesNothing(x, "of a new object", x::undo);
            x.set(0, 1);
            due(0, "behind a change", x::undo);
            throwsState("behind undo", x::undo);
            for (int i = 0; i < 7; i++) {
                x.set(0, i);
            }
            for (int i = 0; i < 6; i++) {
                x.undo();
            }
            throwsState("behind seven changes and six undo", x::undo);
            due(0, "the opening is that behind the first change", () -> x.setting(0));
            throwsState("once more", x::undo);
        });
    }
}
