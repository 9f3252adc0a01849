import java.io.IOException;
import java.math.BigInteger;
import java.util.ArrayList;
import java.util.List;

/** The sentences of the promises 14 to 27 (what is asked of a studio), each with its boundary cases. */
public final class QuestionsSentenceTest extends Sentences {

    public static void main(String[] args) throws IOException {
        reason();
        show();
        showOnAir();
        showExceptions();
        group();
        groupAccounts();
        sponsors();
        day();
        dayOnAir();
        count();
        setting();
        why();
        firstTime();
        firstRepeat();
        ifOverrun();
        greatestOverrun();
        share();
        digest();
        digestOfShows();
        end("Promise (1[4-9]|[2-9][0-9]).*");
    }

    /**
     * Day 2: 0 live, over by 30; 1 tape, 25 late; 2 live, dropped; 3 tape, on time;
     * 4 live, over by 120 and cut off by the close; 5 tape, dropped.
     */
    private static StudioAirtime busyDay() {
        StudioAirtime x = new StudioAirtime();
        x.add(true, 0, 2, 480, 60, 4);
        x.add(false, 1, 2, 545, 30, 6);
        x.add(true, 2, 2, 580, 20, 2);
        x.add(false, 3, 2, 605, 40, 0);
        x.add(true, 4, 2, 1300, 60, 3);
        x.add(false, 5, 2, 1360, 20, 1);
        x.overrun(0, 30);
        x.overrun(4, 120);
        return x;
    }

    private static void propertyDue(StudioAirtime x, int what, int... want) {
        for (int i = 0; i < want.length; i++) {
            int show = i;
            due(want[i], "show(" + i + ", " + what + ")", () -> x.show(show, what));
        }
    }

    private static void reason() {
        section("Promise 14: reason");
        test("Returns the latest reason.", () -> {
            StudioAirtime x = new StudioAirtime();
            due(0, "of a new object", x::reason);
            throwsState("before the opening", () -> x.add(true, 0, 0, 479, 60, 0));
            due(3, "of a refused show", x::reason);
            due(3, "of a refused show, again", x::reason);
            x.set(0, 479);
            x.undo();
            x.why(0, 0, 480, 60);
            x.firstTime(0, 0, 60);
            due(3, "behind other calls", x::reason);
            x.add(true, 0, 0, 480, 60, 0);
            due(0, "of an added show", x::reason);
            x.why(0, 0, 480, 60);
            x.remove(0);
            x.closeWeek();
            due(0, "behind other calls", x::reason);
        });
        test("Returns the reason.", () -> {
            StudioAirtime x = typed("T0.0@600+4");
            x.load();
            due(20, "the greatest", x::reason);
            fill(x, 24);
            throwsState("a 25th show", () -> x.add(true, 0, 0, 480, 5, 0));
            due(1, "the least of a refusal", x::reason);
            x.undo();
            x.set(6, 0);
            throwsState("a sponsor minute", () -> x.add(true, 0, 0, 480, 5, 1));
            due(7, "the greatest of a refusal", x::reason);
        });
    }

    // ---- show

    private static void show() {
        section("Promise 15: show");
        noBoundary("Returns a property of a show.", "Returns the property.");
        test("- `show`: its number", () -> {
            StudioAirtime x = new StudioAirtime();
            fill(x, 24);
            due(480, "the first", () -> x.show(0, 3));
            due(480 + 5 * 23, "the last of 24", () -> x.show(23, 3));
            throwsIndex("the number -1", () -> x.show(-1, 3));
            throwsIndex("the number 24", () -> x.show(24, 3));
        });
        test("- `what`: 0: kind;", () -> {
            StudioAirtime x = new StudioAirtime();
            x.add(true, 0, 0, 480, 5, 0);
            x.add(false, 0, 0, 490, 5, 0);
            x.repeat(0, 1, 480);
            x.repeat(1, 1, 490);
            propertyDue(x, 0, 0, 1, 2, 2);
        });
        test("1: group;", () -> {
            StudioAirtime x = new StudioAirtime();
            x.add(true, 0, 0, 480, 5, 0);
            x.add(false, 5, 0, 490, 5, 0);
            x.repeat(0, 1, 480);
            x.repeat(1, 1, 490);
            propertyDue(x, 1, 0, 5, 0, 5);
        });
        test("2: day;", () -> {
            StudioAirtime x = new StudioAirtime();
            x.add(true, 0, 0, 480, 5, 0);
            x.add(false, 5, 6, 490, 5, 0);
            x.repeat(0, 6, 480);
            propertyDue(x, 2, 0, 6, 6);
        });
        test("3: start;", () -> {
            StudioAirtime x = openAllDay();
            x.add(true, 0, 0, 0, 5, 0);
            x.add(false, 5, 0, 1435, 5, 0);
            x.repeat(0, 6, 0);
            x.set(0, 720);
            propertyDue(x, 3, 0, 1435, 0);
        });
        test("4: length;", () -> {
            StudioAirtime x = new StudioAirtime();
            x.add(true, 0, 0, 480, 5, 0);
            x.add(false, 5, 0, 1140, 240, 0);
            x.repeat(0, 6, 480);
            x.overrun(0, 120);
            x.set(1, 1200);
            propertyDue(x, 4, 5, 240, 5);
        });
        test("5: sponsor minutes;", () -> {
            StudioAirtime x = new StudioAirtime();
            x.set(6, 30);
            x.add(true, 0, 0, 480, 30, 30);
            x.add(false, 5, 0, 600, 30, 0);
            x.repeat(0, 6, 480);
            x.overrun(0, -60);
            x.set(6, 0);
            propertyDue(x, 5, 30, 0, 0);
        });
        test("6: overrun (0 if it is not live);", () -> {
            StudioAirtime x = new StudioAirtime();
            x.add(true, 0, 0, 480, 30, 0);
            x.add(true, 0, 0, 600, 30, 0);
            x.add(false, 5, 0, 700, 30, 0);
            x.repeat(0, 6, 480);
            x.overrun(0, -60);
            x.overrun(1, 120);
            propertyDue(x, 6, -60, 120, 0, 0);
            x.remove(1);
            propertyDue(x, 6, -60, 0, 0);
            x.remove(1);
            x.add(true, 1, 0, 600, 30, 0);
            x.overrun(1, 9);
            x.add(false, 1, 0, 570, 30, 0);
            propertyDue(x, 6, -60, 0, 9, 0);
        });
        test("7: the number of its original, NONE if it is no repeat;", () -> {
            StudioAirtime x = new StudioAirtime();
            x.add(true, 0, 0, 480, 30, 0);
            x.repeat(0, 6, 480);
            propertyDue(x, 7, -1, 0);
            x.add(false, 1, 0, 510, 30, 0);
            propertyDue(x, 7, -1, -1, 0);
            x.repeat(1, 6, 510);
            propertyDue(x, 7, -1, -1, 0, 1);
            x.add(false, 1, 0, 600, 30, 0);
            propertyDue(x, 7, -1, -1, -1, 0, 1);
            x.remove(2);
            propertyDue(x, 7, -1, -1, 0, 1);
            x.remove(0);
            propertyDue(x, 7, -1, 0);
            x.add(false, 1, 0, 480, 30, 0);
            propertyDue(x, 7, -1, -1, 1);
            x.add(false, 1, 5, 480, 30, 0);
            propertyDue(x, 7, -1, -1, -1, 1);
            x.add(false, 1, 6, 1000, 30, 0);
            propertyDue(x, 7, -1, -1, -1, 1, -1);
        });
    }

    private static void showOnAir() {
        test("8: when it comes on air, NONE if it is dropped;", () -> {
            propertyDue(busyDay(), 8, 480, 570, -1, 605, 1300, -1);
            StudioAirtime x = openAllDay();
            x.add(false, 0, 0, 0, 5, 0);
            x.add(false, 0, 0, 1435, 5, 0);
            propertyDue(x, 8, 0, 1435);
            x.set(1, 1436);
            propertyDue(x, 8, 0, 1435);
            x.set(1, 1435);
            propertyDue(x, 8, 0, -1);
        });
        test("9: how many minutes it lasts on air, 0 if it is dropped;", () -> {
            propertyDue(busyDay(), 9, 90, 30, 0, 40, 80, 0);
            StudioAirtime x = new StudioAirtime();
            x.add(true, 0, 0, 480, 5, 0);
            x.add(true, 0, 0, 1300, 80, 0);
            x.overrun(0, -60);
            x.set(1, 1301);
            propertyDue(x, 9, 1, 1);
            x.set(1, 1300);
            propertyDue(x, 9, 1, 0);
            x.set(1, 1440);
            x.overrun(0, 120);
            x.overrun(1, 59);
            propertyDue(x, 9, 125, 139);
        });
        test("10: its delay, also if it is dropped;", () -> {
            propertyDue(busyDay(), 10, 0, 25, 20, 0, 0, 20);
            StudioAirtime x = new StudioAirtime();
            x.add(false, 0, 0, 480, 60, 0);
            x.set(0, 540);
            propertyDue(x, 10, 60);
            x.set(0, 720);
            propertyDue(x, 10, 240);
            due(2, "it is dropped", () -> x.show(0, 11));
            x.set(0, 0);
            propertyDue(x, 10, 0);
            x.add(false, 0, 1, 800, 60, 0);
            x.set(1, 800);
            due(2, "it is dropped at the close", () -> x.show(1, 11));
            propertyDue(x, 10, 0, 0);
        });
        test("11: 0 if it is on air without a delay, 1 if it is delayed, 2 if it is dropped, "
                + "plus 4 if something of it is cut off", () -> {
            propertyDue(busyDay(), 11, 0, 1, 2, 0, 4, 2);
            StudioAirtime x = new StudioAirtime();
            x.add(true, 0, 0, 1200, 60, 0);
            x.add(false, 1, 0, 1300, 60, 0);
            int[][] fates = {{40, 0, 0}, {41, 0, 1}, {60, 0, 1}, {61, 0, 5}, {100, 0, 5}, {101, 0, 2}, {120, 0, 2}};
            for (int[] fate : fates) {
                x.overrun(0, fate[0]);
                propertyDue(x, 11, fate[1], fate[2]);
            }
            x.set(3, 240);
            propertyDue(x, 11, 0, 2);
            x.set(1, 1379);
            propertyDue(x, 11, 4, 2);
            x.set(1, 1381);
            propertyDue(x, 11, 0, 5);
            due(1, "its only minute", () -> x.show(1, 9));
        });
    }

    private static void showExceptions() {
        test("Throws `IndexOutOfBoundsException` if there is no such show", () -> {
            StudioAirtime x = new StudioAirtime();
            throwsIndex("without shows", () -> x.show(0, 0));
            x.add(true, 0, 0, 480, 60, 0);
            for (int show : new int[] {-1, 1, 23, 24, Integer.MIN_VALUE, Integer.MAX_VALUE}) {
                throwsIndex("show(" + show + ", 0)", () -> x.show(show, 0));
                throwsIndex("show(" + show + ", 12)", () -> x.show(show, 12));
            }
            x.remove(0);
            throwsIndex("behind remove(0)", () -> x.show(0, 0));
        });
        test("Throws `IllegalArgumentException` if what is not 0 to 11", () -> {
            StudioAirtime x = new StudioAirtime();
            x.add(true, 0, 0, 480, 60, 0);
            for (int what : new int[] {-1, 12, Integer.MIN_VALUE, Integer.MAX_VALUE}) {
                throwsArgument("show(0, " + what + ")", () -> x.show(0, what));
                changesNothing(x, "show(0, " + what + ")", () -> x.show(0, what));
            }
            due(0, "show(0, 0)", () -> x.show(0, 0));
            due(0, "show(0, 11)", () -> x.show(0, 11));
        });
    }

    // ---- group

    private static void propertyOfGroupsDue(StudioAirtime x, int what, int... want) {
        for (int i = 0; i < 6; i++) {
            int group = i;
            due(want[i], "group(" + i + ", " + what + ")", () -> x.group(group, what));
        }
    }

    private static void group() {
        section("Promise 16: group");
        noBoundary("Returns a property of a group.", "Returns the property.");
        test("- `group`: 0 to 5", () -> {
            StudioAirtime x = new StudioAirtime();
            x.setQuota(0, 1);
            x.setQuota(5, 2);
            due(1, "the group 0", () -> x.group(0, 0));
            due(2, "the group 5", () -> x.group(5, 0));
            throwsIndex("the group -1", () -> x.group(-1, 0));
            throwsIndex("the group 6", () -> x.group(6, 0));
        });
        test("- `what`: 0: quota;", () -> {
            StudioAirtime x = new StudioAirtime();
            propertyOfGroupsDue(x, 0, 300, 300, 300, 300, 300, 300);
            x.setQuota(0, 0);
            x.setQuota(5, 2000);
            propertyOfGroupsDue(x, 0, 0, 300, 300, 300, 300, 2000);
        });
        test("1: carried minutes;", () -> {
            StudioAirtime x = new StudioAirtime();
            propertyOfGroupsDue(x, 1, 0, 0, 0, 0, 0, 0);
            x.add(false, 1, 0, 480, 200, 0);
            x.add(false, 2, 1, 480, 200, 0);
            x.setQuota(1, 199);
            x.setQuota(2, 0);
            x.setQuota(3, 119);
            x.setQuota(4, 0);
            x.closeWeek();
            propertyOfGroupsDue(x, 1, 120, -1, -120, 119, 0, 120);
        });
        test("2: allowance;", () -> {
            StudioAirtime x = new StudioAirtime();
            propertyOfGroupsDue(x, 2, 300, 300, 300, 300, 300, 300);
            x.add(false, 2, 1, 480, 200, 0);
            x.setQuota(2, 0);
            x.setQuota(3, 2000);
            x.setQuota(4, 0);
            x.closeWeek();
            propertyOfGroupsDue(x, 2, 420, 420, -120, 2120, 0, 420);
        });
        test("3: the sum of the worths of the lengths of its shows;", () -> {
            StudioAirtime x = new StudioAirtime();
            propertyOfGroupsDue(x, 3, 0, 0, 0, 0, 0, 0);
            x.add(true, 0, 0, 480, 9, 0);
            x.add(false, 0, 0, 500, 11, 0);
            x.add(true, 5, 0, 600, 240, 0);
            x.repeat(0, 1, 480);
            x.repeat(1, 1, 500);
            x.overrun(0, 120);
            // 9 + 11 + 4 + 5: dropped ones and overruns do not matter.
            propertyOfGroupsDue(x, 3, 29, 0, 0, 0, 0, 240);
            x.set(1, 721);
            x.set(0, 720);
            propertyOfGroupsDue(x, 3, 29, 0, 0, 0, 0, 240);
            x.set(5, 0);
            propertyOfGroupsDue(x, 3, 20, 0, 0, 0, 0, 240);
            x.set(5, 100);
            propertyOfGroupsDue(x, 3, 40, 0, 0, 0, 0, 240);
        });
        test("4: the sum of the worths of their minutes on air;", () -> {
            propertyOfGroupsDue(new StudioAirtime(), 4, 0, 0, 0, 0, 0, 0);
            propertyOfGroupsDue(busyDay(), 4, 90, 30, 0, 40, 80, 0);
            StudioAirtime x = new StudioAirtime();
            x.add(true, 0, 0, 480, 9, 0);
            x.repeat(0, 1, 480);
            x.repeat(0, 1, 490);
            x.repeat(0, 2, 1371);
            propertyOfGroupsDue(x, 4, 9 + 4 + 4 + 4, 0, 0, 0, 0, 0);
            // The last is cut off behind its 3 minutes: 3 * 50 / 100 = 1.
            x.set(1, 1374);
            propertyOfGroupsDue(x, 4, 9 + 4 + 4 + 1, 0, 0, 0, 0, 0);
            x.set(1, 1372);
            propertyOfGroupsDue(x, 4, 9 + 4 + 4, 0, 0, 0, 0, 0);
            x.overrun(0, -60);
            propertyOfGroupsDue(x, 4, 1 + 4 + 4, 0, 0, 0, 0, 0);
        });
        test("5: its shows;", () -> {
            StudioAirtime x = new StudioAirtime();
            propertyOfGroupsDue(x, 5, 0, 0, 0, 0, 0, 0);
            x.add(true, 0, 0, 480, 9, 0);
            x.repeat(0, 1, 480);
            fill(x, 22);
            x.set(0, 720);
            propertyOfGroupsDue(x, 5, 2, 0, 0, 0, 0, 22);
            x.remove(0);
            propertyOfGroupsDue(x, 5, 0, 0, 0, 0, 0, 22);
        });
        test("Throws `IndexOutOfBoundsException` if there is no such group", () -> {
            StudioAirtime x = new StudioAirtime();
            for (int group : new int[] {-1, 6, Integer.MIN_VALUE, Integer.MAX_VALUE}) {
                throwsIndex("group(" + group + ", 0)", () -> x.group(group, 0));
                throwsIndex("group(" + group + ", 9)", () -> x.group(group, 9));
            }
        });
        test("Throws `IllegalArgumentException` if what is not 0 to 8", () -> {
            StudioAirtime x = new StudioAirtime();
            for (int what : new int[] {-1, 9, Integer.MIN_VALUE, Integer.MAX_VALUE}) {
                throwsArgument("group(0, " + what + ")", () -> x.group(0, what));
                throwsArgument("group(5, " + what + ")", () -> x.group(5, what));
            }
            due(300, "group(0, 0)", () -> x.group(0, 0));
            due(0, "group(5, 8)", () -> x.group(5, 8));
        });
    }

    private static void groupAccounts() {
        test("6: the sum of all quotas of closed weeks;", () -> {
            StudioAirtime x = new StudioAirtime();
            propertyOfGroupsDue(x, 6, 0, 0, 0, 0, 0, 0);
            x.setQuota(0, 0);
            x.setQuota(5, 2000);
            x.closeWeek();
            propertyOfGroupsDue(x, 6, 0, 300, 300, 300, 300, 2000);
            x.setQuota(5, 1);
            x.closeWeek();
            propertyOfGroupsDue(x, 6, 0, 600, 600, 600, 600, 2001);
        });
        test("7: the minutes on air of closed weeks (worths);", () -> {
            StudioAirtime x = busyDay();
            propertyOfGroupsDue(x, 7, 0, 0, 0, 0, 0, 0);
            x.closeWeek();
            propertyOfGroupsDue(x, 7, 90, 30, 0, 40, 80, 0);
            // Without overruns all six are on air, as long as they are.
            x.closeWeek();
            propertyOfGroupsDue(x, 7, 150, 60, 20, 80, 140, 20);
            x.repeat(1, 4, 600);
            x.set(5, 33);
            x.closeWeek();
            propertyOfGroupsDue(x, 7, 210, 60 + 30 + 9, 40, 120, 200, 40);
        });
        test("8: what was lost", () -> {
            StudioAirtime x = new StudioAirtime();
            propertyOfGroupsDue(x, 8, 0, 0, 0, 0, 0, 0);
            x.add(false, 1, 0, 480, 200, 0);
            x.add(false, 2, 1, 480, 200, 0);
            x.setQuota(1, 80);
            x.setQuota(2, 79);
            x.setQuota(3, 120);
            x.setQuota(4, 121);
            x.setQuota(5, 0);
            x.closeWeek();
            propertyOfGroupsDue(x, 8, 180, 0, -1, 0, 1, 0);
            // 420 - 120; 80 - 120 - 200 + 120; -1 and 79 - 120 - 200 + 120; 240 - 120; 1 and 241 - 120; 0.
            x.closeWeek();
            propertyOfGroupsDue(x, 8, 480, -120, -122, 120, 122, 0);
        });
    }

    // ---- sponsors

    private static void sponsors() {
        section("Promise 17: sponsors");
        test("Returns the sponsor minutes of an hour.", () -> {
            StudioAirtime x = new StudioAirtime();
            x.set(6, 30);
            x.add(true, 0, 3, 590, 30, 30);
            x.add(false, 1, 3, 650, 10, 10);
            x.add(false, 2, 3, 660, 10, 10);
            due(0, "the hour before", () -> x.sponsors(3, 8, false));
            due(10, "up to the hour's end", () -> x.sponsors(3, 9, false));
            due(20 + 10, "of two shows", () -> x.sponsors(3, 10, false));
            due(10, "from the hour's start on", () -> x.sponsors(3, 11, false));
            due(0, "the hour behind", () -> x.sponsors(3, 12, false));
            due(0, "the day before", () -> x.sponsors(2, 10, false));
            due(0, "the day behind", () -> x.sponsors(4, 10, true));
        });
        test("- `day`: 0 to 6", () -> {
            StudioAirtime x = new StudioAirtime();
            x.add(true, 0, 0, 480, 30, 1);
            x.add(true, 0, 6, 480, 30, 2);
            due(1, "the day 0", () -> x.sponsors(0, 8, false));
            due(2, "the day 6", () -> x.sponsors(6, 8, true));
            throwsIndex("the day -1", () -> x.sponsors(-1, 8, false));
            throwsIndex("the day 7", () -> x.sponsors(7, 8, true));
        });
        test("- `hour`: 0 to 23", () -> {
            StudioAirtime x = openAllDay();
            x.add(true, 0, 0, 0, 30, 1);
            x.add(true, 0, 0, 1435, 5, 5);
            due(1, "the hour 0", () -> x.sponsors(0, 0, true));
            due(5, "the hour 23", () -> x.sponsors(0, 23, false));
            throwsIndex("the hour -1", () -> x.sponsors(0, -1, true));
            throwsIndex("the hour 24", () -> x.sponsors(0, 24, false));
        });
        test("- `onAir`: true for those on air, false for planned ones", () -> {
            StudioAirtime x = busyDay();
            int[][] hours = {{7, 0, 0}, {8, 4, 4}, {9, 8, 6}, {10, 0, 0}, {21, 3, 3}, {22, 1, 0}, {23, 0, 0}};
            for (int[] hour : hours) {
                due(hour[1], "planned in the hour " + hour[0], () -> x.sponsors(2, hour[0], false));
                due(hour[2], "on air in the hour " + hour[0], () -> x.sponsors(2, hour[0], true));
            }
            int[][] overs = {{49, 6, 0}, {50, 5, 1}, {54, 1, 5}, {55, 0, 6}};
            x.set(0, 485);
            for (int[] over : overs) {
                x.overrun(0, over[0]);
                due(over[1], "on air before the hour, over by " + over[0], () -> x.sponsors(2, 9, true));
                due(over[2], "on air behind the hour, over by " + over[0], () -> x.sponsors(2, 10, true));
                due(8, "planned, over by " + over[0], () -> x.sponsors(2, 9, false));
            }
        });
        noBoundary("Returns the number.");
        test("Throws `IndexOutOfBoundsException` if there is no such day or hour", () -> {
            StudioAirtime x = busyDay();
            for (int far : new int[] {-1, 24, 1440, Integer.MIN_VALUE, Integer.MAX_VALUE}) {
                throwsIndex("the day " + far, () -> x.sponsors(far, 8, true));
                throwsIndex("the day " + far + ", planned", () -> x.sponsors(far, 8, false));
                throwsIndex("the hour " + far, () -> x.sponsors(2, far, true));
                throwsIndex("the hour " + far + ", planned", () -> x.sponsors(2, far, false));
                throwsIndex("both " + far, () -> x.sponsors(far, far, false));
            }
            throwsIndex("the day 7", () -> x.sponsors(7, 0, false));
        });
    }

    // ---- day

    private static void day() {
        section("Promise 18: day");
        noBoundary("Returns a property of a day.", "Returns the property.");
        test("- `day`: 0 to 6", () -> {
            StudioAirtime x = new StudioAirtime();
            x.add(true, 0, 0, 480, 30, 1);
            x.add(true, 0, 6, 480, 40, 2);
            due(30, "the day 0", () -> x.day(0, 1));
            due(40, "the day 6", () -> x.day(6, 1));
            throwsIndex("the day -1", () -> x.day(-1, 1));
            throwsIndex("the day 7", () -> x.day(7, 1));
        });
        test("- `what`: 0: its shows;", () -> {
            StudioAirtime x = busyDay();
            due(6, "with dropped ones", () -> x.day(2, 0));
            due(0, "none the day before", () -> x.day(1, 0));
            due(0, "none the day behind", () -> x.day(3, 0));
            fill(x, 18);
            due(18, "the last day", () -> x.day(6, 0));
        });
        test("1: planned minutes (lengths);", () -> {
            StudioAirtime x = busyDay();
            due(230, "with dropped and cut ones", () -> x.day(2, 1));
            due(0, "without shows", () -> x.day(3, 1));
            x.repeat(1, 3, 575);
            due(30, "a repeat's length is no worth", () -> x.day(3, 1));
            x.set(5, 0);
            due(30, "worth nothing", () -> x.day(3, 1));
        });
        test("2: minutes on air;", () -> {
            StudioAirtime x = busyDay();
            due(240, "with dropped and cut ones", () -> x.day(2, 2));
            due(0, "without shows", () -> x.day(3, 2));
            x.repeat(1, 3, 575);
            due(30, "a repeat's minutes are no worth", () -> x.day(3, 2));
            x.overrun(0, -60);
            x.overrun(4, -60);
            due(1 + 30 + 20 + 40 + 1 + 20, "with single minutes", () -> x.day(2, 2));
            x.set(0, 720);
            due(1 + 20, "with a late opening", () -> x.day(2, 2));
        });
        test("Throws `IndexOutOfBoundsException` if there is no such day", () -> {
            StudioAirtime x = busyDay();
            for (int day : new int[] {-1, 7, Integer.MIN_VALUE, Integer.MAX_VALUE}) {
                for (int what = 0; what <= 8; what++) {
                    int property = what;
                    throwsIndex("day(" + day + ", " + what + ")", () -> x.day(day, property));
                }
            }
        });
        test("Throws `IllegalArgumentException` if what is not 0 to 7", () -> {
            StudioAirtime x = busyDay();
            for (int what : new int[] {-1, 8, Integer.MIN_VALUE, Integer.MAX_VALUE}) {
                throwsArgument("day(0, " + what + ")", () -> x.day(0, what));
                throwsArgument("day(6, " + what + ")", () -> x.day(6, what));
            }
            due(0, "day(0, 0)", () -> x.day(0, 0));
            due(0, "day(6, 7)", () -> x.day(6, 7));
        });
    }

    private static void dayOnAir() {
        test("3: delayed shows (on air with a delay);", () -> {
            StudioAirtime x = busyDay();
            due(1, "not the dropped ones", () -> x.day(2, 3));
            due(0, "without shows", () -> x.day(3, 3));
            x.overrun(0, 5);
            due(0, "just on time", () -> x.day(2, 3));
            x.overrun(0, 6);
            due(1, "one minute late", () -> x.day(2, 3));
            x.overrun(4, 0);
            x.set(1, 1440);
            x.overrun(4, 1);
            due(2, "and the last one", () -> x.day(2, 3));
        });
        test("4: dropped shows;", () -> {
            StudioAirtime x = busyDay();
            due(2, "not the delayed one", () -> x.day(2, 4));
            due(0, "without shows", () -> x.day(3, 4));
            x.set(2, 19);
            due(2, "with a patience of one less", () -> x.day(2, 4));
            x.set(2, 20);
            due(1, "with just enough patience", () -> x.day(2, 4));
            x.set(1, 721);
            x.set(0, 720);
            due(6, "all", () -> x.day(2, 4));
        });
        test("5: the sum of the delays of all shows on air;", () -> {
            StudioAirtime x = busyDay();
            due(25, "not of the dropped ones", () -> x.day(2, 5));
            due(0, "without shows", () -> x.day(3, 5));
            x.set(2, 20);
            // The tape 25 late ends at 600; the live show is 20 late, until 620; the next tape 15.
            due(25 + 20 + 15, "of three", () -> x.day(2, 5));
            x.overrun(0, -60);
            due(0, "of none", () -> x.day(2, 5));
        });
        test("6: the clock behind its last show (the opening if none is on air);", () -> {
            StudioAirtime x = busyDay();
            due(1380, "at the close, the last one dropped", () -> x.day(2, 6));
            x.overrun(4, 10);
            due(1380, "delayed up to the close", () -> x.day(2, 6));
            x.overrun(4, -1);
            due(1380, "the last one on time", () -> x.day(2, 6));
            due(480, "without shows", () -> x.day(3, 6));
            x.remove(5);
            due(1359, "behind a short one", () -> x.day(2, 6));
            x.set(1, 721);
            due(645, "the last one behind the close", () -> x.day(2, 6));
            x.set(0, 720);
            due(720, "none on air", () -> x.day(2, 6));
            due(720, "without shows", () -> x.day(3, 6));
        });
        test("7: hours with more sponsor minutes on air than the sponsor limit", () -> {
            StudioAirtime x = busyDay();
            int[][] limits = {{30, 0}, {6, 0}, {5, 1}, {4, 1}, {3, 2}, {2, 3}, {0, 3}};
            for (int[] limit : limits) {
                x.set(6, limit[0]);
                due(limit[1], "with the limit " + limit[0], () -> x.day(2, 7));
            }
            due(0, "without shows", () -> x.day(3, 7));
            StudioAirtime y = openAllDay();
            y.add(true, 0, 0, 0, 5, 5);
            y.add(true, 0, 0, 1435, 5, 5);
            y.set(6, 4);
            due(2, "the first and the last hour", () -> y.day(0, 7));
            y.set(0, 11);
            due(1, "the first one dropped", () -> y.day(0, 7));
            y.set(6, 5);
            due(0, "as many as the limit", () -> y.day(0, 7));
            // Planned ones do not count: the delay brings minutes of two shows into one hour.
            StudioAirtime z = new StudioAirtime();
            z.add(true, 0, 0, 540, 52, 0);
            z.add(false, 1, 0, 592, 20, 8);
            z.add(false, 1, 0, 612, 20, 8);
            due(0, "planned", () -> z.day(0, 7));
            z.overrun(0, 1);
            due(1, "one minute late", () -> z.day(0, 7));
        });
    }

    // ---- count, setting

    private static void count() {
        section("Promise 19: count");
        noBoundary("Returns a number.", "Returns the number.");
        test("- `what`: 0: the week number;", () -> {
            StudioAirtime x = new StudioAirtime();
            due(0, "at first", () -> x.count(0));
            x.closeWeek();
            due(1, "behind closeWeek()", () -> x.count(0));
            x.closeWeek();
            x.undo();
            due(1, "behind undo()", () -> x.count(0));
        });
        test("1: shows;", () -> {
            StudioAirtime x = new StudioAirtime();
            due(0, "at first", () -> x.count(1));
            fill(x, 24);
            due(24, "at most", () -> x.count(1));
            x.set(0, 720);
            due(24, "all dropped", () -> x.count(1));
            x.remove(0);
            due(23, "without one", () -> x.count(1));
        });
        test("2: live shows;", () -> {
            StudioAirtime x = busyDay();
            due(3, "with a dropped one", () -> x.count(2));
            x.repeat(0, 4, 480);
            due(3, "not a live show's repeat", () -> x.count(2));
            x.remove(0);
            due(2, "without one", () -> x.count(2));
            due(0, "of a new object", () -> new StudioAirtime().count(2));
        });
        test("3: repeats;", () -> {
            StudioAirtime x = busyDay();
            due(0, "at first", () -> x.count(3));
            x.repeat(0, 4, 480);
            x.repeat(1, 4, 545);
            due(2, "of a live show and of a tape", () -> x.count(3));
            x.remove(0);
            due(1, "without an original", () -> x.count(3));
        });
        test("4: delayed shows of the week (on air with a delay);", () -> {
            StudioAirtime x = busyDay();
            due(1, "of one day, without dropped ones", () -> x.count(4));
            x.add(true, 0, 0, 480, 10, 0);
            x.add(true, 0, 6, 480, 10, 0);
            due(1, "with two on time", () -> x.count(4));
            x.set(0, 481);
            due(4, "with the first and the last day's", () -> x.count(4));
            x.set(0, 490);
            due(5, "up to the patience, and one more tape", () -> x.count(4));
            x.set(0, 491);
            // The first live show of the day 2 is dropped too; the tape behind it is on time then.
            due(0, "beyond it", () -> x.count(4));
        });
        test("5: dropped shows;", () -> {
            StudioAirtime x = busyDay();
            due(2, "of one day", () -> x.count(5));
            x.add(true, 0, 0, 480, 10, 0);
            x.add(true, 0, 6, 480, 10, 0);
            due(2, "with two on time", () -> x.count(5));
            x.set(0, 490);
            due(2, "up to the patience", () -> x.count(5));
            x.set(0, 491);
            // The three live shows at 480 and the last tape; the tape and the live show behind are on time.
            due(4, "beyond it", () -> x.count(5));
            due(0, "of a new object", () -> new StudioAirtime().count(5));
        });
        test("6: saved states;", () -> {
            StudioAirtime x = new StudioAirtime();
            due(0, "at first", () -> x.count(6));
            for (int i = 1; i <= 7; i++) {
                x.setQuota(0, i);
                due(Math.min(6, i), "behind " + i, () -> x.count(6));
            }
            x.undo();
            due(5, "behind undo()", () -> x.count(6));
        });
        test("7: minutes on air in the week", () -> {
            StudioAirtime x = busyDay();
            due(240, "of one day", () -> x.count(7));
            x.add(true, 0, 0, 480, 10, 0);
            x.add(true, 0, 6, 480, 10, 0);
            due(260, "with the first and the last day's", () -> x.count(7));
            x.set(5, 0);
            x.repeat(2, 4, 600);
            due(290, "a repeat's minutes are no worth", () -> x.count(7));
            due(0, "of a new object", () -> new StudioAirtime().count(7));
        });
        test("Throws `IllegalArgumentException` if what is not 0 to 7", () -> {
            StudioAirtime x = busyDay();
            for (int what : new int[] {-1, 8, Integer.MIN_VALUE, Integer.MAX_VALUE}) {
                throwsArgument("count(" + what + ")", () -> x.count(what));
                changesNothing(x, "count(" + what + ")", () -> x.count(what));
            }
            due(0, "count(0)", () -> x.count(0));
            due(240, "count(7)", () -> x.count(7));
        });
    }

    private static void setting() {
        section("Promise 20: setting");
        noBoundary("Returns a setting.");
        test("- `setting`: 0 to 7", () -> {
            StudioAirtime x = new StudioAirtime();
            due(480, "the setting 0", () -> x.setting(0));
            due(120, "the setting 7", () -> x.setting(7));
            throwsIndex("the setting -1", () -> x.setting(-1));
            throwsIndex("the setting 8", () -> x.setting(8));
        });
        test("Returns its value.", () -> {
            StudioAirtime x = new StudioAirtime();
            int[] first = {480, 1380, 10, 60, 20, 50, 8, 120};
            for (int i = 0; i < 8; i++) {
                int setting = i;
                due(first[i], "setting(" + i + ") at first", () -> x.setting(setting));
                x.set(setting, i == 1 ? 721 : i + 1);
            }
            for (int i = 0; i < 8; i++) {
                int setting = i;
                due(i == 1 ? 721 : i + 1, "setting(" + i + ") behind set", () -> x.setting(setting));
            }
        });
        test("Throws `IndexOutOfBoundsException` if there is no such setting", () -> {
            StudioAirtime x = new StudioAirtime();
            for (int setting : new int[] {-1, 8, Integer.MIN_VALUE, Integer.MAX_VALUE}) {
                throwsIndex("setting(" + setting + ")", () -> x.setting(setting));
            }
        });
    }

    // ---- why, firstTime, firstRepeat

    private static void why() {
        section("Promise 21: why");
        test("Tells why a tape without sponsor minutes would be refused.", () -> {
            StudioAirtime x = new StudioAirtime();
            x.add(true, 0, 0, 600, 240, 8);
            due(3, "before the opening", () -> x.why(0, 0, 479, 60));
            due(3, "over the close", () -> x.why(0, 0, 1321, 60));
            due(4, "in the way", () -> x.why(0, 0, 839, 60));
            due(6, "beyond the allowance", () -> x.why(0, 0, 840, 61));
            x.set(6, 7);
            due(7, "with an hour above the limit", () -> x.why(0, 0, 840, 60));
            x.set(6, 0);
            due(0, "no sponsor minutes, no limit", () -> x.why(0, 1, 840, 60));
            fill(x, 23);
            due(1, "with 24 shows", () -> x.why(0, 1, 840, 60));
            changesNothing(x, "why", () -> x.why(0, 1, 840, 60));
        });
        test("- `group`: 0 to 5", () -> {
            StudioAirtime x = new StudioAirtime();
            x.setQuota(0, 4);
            x.setQuota(5, 4);
            due(6, "the group 0", () -> x.why(0, 0, 480, 5));
            due(6, "the group 5", () -> x.why(5, 0, 480, 5));
            throwsArgument("the group -1", () -> x.why(-1, 0, 480, 5));
            throwsArgument("the group 6", () -> x.why(6, 0, 480, 5));
        });
        test("- `day`: 0 to 6", () -> {
            StudioAirtime x = new StudioAirtime();
            x.add(true, 0, 0, 480, 5, 0);
            x.add(true, 0, 6, 480, 5, 0);
            due(4, "the day 0", () -> x.why(0, 0, 480, 5));
            due(0, "the day 1", () -> x.why(0, 1, 480, 5));
            due(4, "the day 6", () -> x.why(0, 6, 480, 5));
            throwsArgument("the day -1", () -> x.why(0, -1, 480, 5));
            throwsArgument("the day 7", () -> x.why(0, 7, 480, 5));
        });
        test("- `start`: 0 to 1439", () -> {
            StudioAirtime x = openAllDay();
            due(0, "the start 0", () -> x.why(0, 0, 0, 5));
            due(0, "the start 1435", () -> x.why(0, 0, 1435, 5));
            due(3, "the start 1439", () -> x.why(0, 0, 1439, 5));
            throwsArgument("the start -1", () -> x.why(0, 0, -1, 5));
            throwsArgument("the start 1440", () -> x.why(0, 0, 1440, 5));
        });
        test("- `length`: 5 to 240", () -> {
            StudioAirtime x = new StudioAirtime();
            due(0, "the length 5", () -> x.why(0, 0, 480, 5));
            due(0, "the length 240", () -> x.why(0, 0, 480, 240));
            throwsArgument("the length 4", () -> x.why(0, 0, 480, 4));
            throwsArgument("the length 241", () -> x.why(0, 0, 480, 241));
        });
        test("Returns the reason;", () -> {
            StudioAirtime x = new StudioAirtime();
            x.add(false, 0, 0, 480, 240, 8);
            x.set(6, 7);
            fill(x, 23);
            // One reason after the other is taken away; 2 and 5 are for repeats.
            due(1, "with all of them", () -> x.why(0, 0, 479, 61));
            x.undo();
            due(3, "without the 24th show", () -> x.why(0, 0, 479, 61));
            due(4, "at the opening", () -> x.why(0, 0, 719, 61));
            due(6, "behind the other show", () -> x.why(0, 0, 720, 61));
            due(7, "up to the allowance", () -> x.why(0, 0, 720, 60));
            x.set(6, 8);
            due(0, "up to the sponsor limit", () -> x.why(0, 0, 720, 60));
        });
        test("0 if it would be added.", () -> {
            int[][] tapes = {{0, 0, 480, 5}, {5, 6, 1140, 240}, {3, 3, 600, 60}};
            for (int[] t : tapes) {
                StudioAirtime x = new StudioAirtime();
                due(0, "why", () -> x.why(t[0], t[1], t[2], t[3]));
                due(0, "add", () -> x.add(false, t[0], t[1], t[2], t[3], 0));
                due(4, "why, once it is there", () -> x.why(t[0], t[1], t[2], t[3]));
            }
        });
        test("Throws `IllegalArgumentException` if an argument is out of range", () -> {
            StudioAirtime x = new StudioAirtime();
            refused(x, 3, "before the opening", () -> x.add(true, 0, 0, 0, 60, 0));
            for (int far : new int[] {-1, 1440, Integer.MIN_VALUE, Integer.MAX_VALUE}) {
                throwsArgument("the group " + far, () -> x.why(far, 0, 600, 60));
                throwsArgument("the day " + far, () -> x.why(0, far, 600, 60));
                throwsArgument("the start " + far, () -> x.why(0, 0, far, 60));
                throwsArgument("the length " + far, () -> x.why(0, 0, 600, far));
                throwsArgument("all " + far, () -> x.why(far, far, far, far));
            }
            due(3, "the latest reason", x::reason);
        });
    }

    private static void firstTime() {
        section("Promise 22: firstTime");
        test("Finds the first time for a tape without sponsor minutes on a day.", () -> {
            StudioAirtime x = new StudioAirtime();
            x.set(6, 0);
            due(480, "an empty day", () -> x.firstTime(0, 0, 240));
            x.add(true, 1, 0, 480, 10, 0);
            x.add(true, 1, 0, 500, 10, 0);
            due(490, "as long as a gap", () -> x.firstTime(0, 0, 10));
            due(510, "longer than it", () -> x.firstTime(0, 0, 11));
            due(480, "another day", () -> x.firstTime(0, 1, 11));
            changesNothing(x, "firstTime", () -> x.firstTime(0, 0, 10));
        });
        test("- `group`: 0 to 5", () -> {
            StudioAirtime x = new StudioAirtime();
            x.setQuota(5, 4);
            due(480, "the group 0", () -> x.firstTime(0, 0, 5));
            due(-1, "the group 5", () -> x.firstTime(5, 0, 5));
            throwsArgument("the group -1", () -> x.firstTime(-1, 0, 5));
            throwsArgument("the group 6", () -> x.firstTime(6, 0, 5));
        });
        test("- `day`: 0 to 6", () -> {
            StudioAirtime x = new StudioAirtime();
            x.add(true, 0, 0, 480, 5, 0);
            x.add(true, 0, 6, 480, 10, 0);
            due(485, "the day 0", () -> x.firstTime(0, 0, 5));
            due(480, "the day 5", () -> x.firstTime(0, 5, 5));
            due(490, "the day 6", () -> x.firstTime(0, 6, 5));
            throwsArgument("the day -1", () -> x.firstTime(0, -1, 5));
            throwsArgument("the day 7", () -> x.firstTime(0, 7, 5));
        });
        test("- `length`: 5 to 240", () -> {
            StudioAirtime x = new StudioAirtime();
            x.add(true, 1, 0, 485, 5, 0);
            due(480, "the length 5", () -> x.firstTime(0, 0, 5));
            due(490, "the length 240", () -> x.firstTime(0, 0, 240));
            throwsArgument("the length 4", () -> x.firstTime(0, 0, 4));
            throwsArgument("the length 241", () -> x.firstTime(0, 0, 241));
        });
        test("Returns the least start that is a multiple of 5 at which it would not be refused;", () -> {
            StudioAirtime x = new StudioAirtime();
            int[][] openings = {{0, 0}, {1, 5}, {4, 5}, {5, 5}, {481, 485}, {720, 720}};
            for (int[] opening : openings) {
                x.set(0, opening[0]);
                due(opening[1], "with the opening " + opening[0], () -> x.firstTime(0, 0, 30));
            }
            x.set(0, 480);
            x.add(true, 1, 0, 511, 53, 0);
            due(480, "just before a show", () -> x.firstTime(0, 0, 31));
            due(565, "behind the show, at the next multiple", () -> x.firstTime(0, 0, 32));
            x.add(true, 1, 0, 596, 14, 0);
            x.set(0, 485);
            due(565, "between two shows", () -> x.firstTime(0, 0, 31));
            due(610, "at the end of the second", () -> x.firstTime(0, 0, 32));
            // Seven minutes are free from 573 on, five of them from 575 on.
            StudioAirtime y = new StudioAirtime();
            y.add(true, 1, 0, 480, 93, 0);
            y.add(true, 1, 0, 580, 20, 0);
            due(575, "the multiple in a gap", () -> y.firstTime(0, 0, 5));
            due(600, "too long from the multiple on", () -> y.firstTime(0, 0, 6));
            StudioAirtime z = openAllDay();
            for (int i = 0; i < 6; i++) {
                z.setQuota(i, 2000);
                z.add(true, i, 0, 240 * i, i < 5 ? 240 : 235, 0);
            }
            due(1435, "the last of a day", () -> z.firstTime(0, 0, 5));
            due(-1, "one minute too long for it", () -> z.firstTime(0, 0, 6));
        });
        test("NONE if there is none.", () -> {
            StudioAirtime x = new StudioAirtime();
            x.set(0, 720);
            x.set(1, 725);
            due(720, "a day of 5 minutes", () -> x.firstTime(0, 0, 5));
            due(-1, "one minute too long", () -> x.firstTime(0, 0, 6));
            x.set(1, 724);
            due(-1, "a day of 4 minutes", () -> x.firstTime(0, 0, 5));
            x.set(1, 960);
            due(720, "a day of 240 minutes", () -> x.firstTime(0, 0, 240));
            x.set(0, 719);
            due(720, "from the next multiple on", () -> x.firstTime(0, 0, 240));
            x.set(1, 959);
            due(-1, "not from the next multiple on", () -> x.firstTime(0, 0, 240));
            StudioAirtime y = new StudioAirtime();
            y.setQuota(0, 30);
            due(480, "up to the allowance", () -> y.firstTime(0, 0, 30));
            due(-1, "beyond it", () -> y.firstTime(0, 0, 31));
            y.add(true, 1, 0, 480, 10, 3);
            y.set(6, 2);
            due(-1, "with an hour above the limit", () -> y.firstTime(0, 0, 5));
            y.set(6, 3);
            due(490, "with an hour at the limit", () -> y.firstTime(0, 0, 5));
            fill(y, 22);
            due(490, "with 23 shows", () -> y.firstTime(0, 0, 5));
            y.add(true, 1, 1, 480, 5, 0);
            due(-1, "with 24 shows", () -> y.firstTime(0, 0, 5));
        });
        test("Throws `IllegalArgumentException` if an argument is out of range", () -> {
            StudioAirtime x = new StudioAirtime();
            for (int far : new int[] {-1, 241, Integer.MIN_VALUE, Integer.MAX_VALUE}) {
                throwsArgument("the group " + far, () -> x.firstTime(far, 0, 60));
                throwsArgument("the day " + far, () -> x.firstTime(0, far, 60));
                throwsArgument("the length " + far, () -> x.firstTime(0, 0, far));
                throwsArgument("all " + far, () -> x.firstTime(far, far, far));
            }
            fill(x, 24);
            throwsArgument("with 24 shows", () -> x.firstTime(0, 7, 60));
        });
    }

    private static void firstRepeat() {
        section("Promise 23: firstRepeat");
        test("Finds the first time for a repeat.", () -> {
            StudioAirtime x = new StudioAirtime();
            x.add(true, 0, 0, 480, 60, 8);
            due(1440 + 480, "on the next day", () -> x.firstRepeat(0));
            changesNothing(x, "firstRepeat", () -> x.firstRepeat(0));
            due(1, "repeat there", () -> x.repeat(0, 1, 480));
            due(1440 + 540, "behind it", () -> x.firstRepeat(0));
            x.overrun(0, 120);
            due(1440 + 540, "whatever it runs over", () -> x.firstRepeat(0));
        });
        test("- `original`: the number of its original", () -> {
            StudioAirtime x = new StudioAirtime();
            x.add(true, 0, 0, 480, 60, 8);
            x.add(false, 0, 3, 600, 60, 8);
            due(1440 + 480, "of the first", () -> x.firstRepeat(0));
            due(4 * 1440 + 480, "of the last", () -> x.firstRepeat(1));
            throwsIndex("of the number -1", () -> x.firstRepeat(-1));
            throwsIndex("of the number 2", () -> x.firstRepeat(2));
        });
        test("Returns 1440 * day + start of the first time in the week whose start is a multiple of 5 at which "
                + "it would not be refused;", () -> {
            StudioAirtime x = new StudioAirtime();
            x.set(4, 1);
            x.add(false, 0, 0, 480, 60, 0);
            due(600, "on the same day", () -> x.firstRepeat(0));
            x.add(false, 1, 0, 601, 62, 0);
            due(665, "behind another show, at the next multiple", () -> x.firstRepeat(0));
            x.add(false, 2, 0, 724, 10, 0);
            due(735, "not between them", () -> x.firstRepeat(0));
            due(735, "behind the gap of the second", () -> x.firstRepeat(1));
            x.set(4, 13);
            due(1320, "up to the close", () -> x.firstRepeat(0));
            x.set(4, 14);
            due(1440 + 480, "at the next day's opening", () -> x.firstRepeat(0));
            x.set(0, 0);
            due(1440, "in the next day's first minute", () -> x.firstRepeat(0));
            x.set(4, 16);
            due(1440 + 60, "behind the gap on the next day", () -> x.firstRepeat(0));
            StudioAirtime y = openAllDay();
            y.add(false, 0, 0, 1, 5, 0);
            due(1210, "at the next multiple behind the gap", () -> y.firstRepeat(0));
            y.add(false, 0, 6, 1430 - 1205, 5, 0);
            due(6 * 1440 + 1430, "at the next multiple on the last day", () -> y.firstRepeat(1));
            y.set(6, 0);
            y.set(0, 481);
            due(1210, "with an opening before the gap's end", () -> y.firstRepeat(0));
            StudioAirtime z = new StudioAirtime();
            z.add(false, 0, 0, 480, 60, 0);
            z.add(false, 1, 1, 600, 10, 5);
            z.add(false, 1, 2, 600, 10, 4);
            z.set(6, 4);
            due(2 * 1440 + 480, "behind a day with an hour above the limit", () -> z.firstRepeat(0));
            z.set(6, 3);
            due(3 * 1440 + 480, "behind two such days", () -> z.firstRepeat(0));
        });
        test("NONE if there is none.", () -> {
            StudioAirtime x = new StudioAirtime();
            x.add(false, 0, 0, 480, 60, 0);
            x.repeat(0, 1, 480);
            due(-1, "of a repeat", () -> x.firstRepeat(1));
            x.setQuota(0, 120);
            due(1440 + 540, "up to the allowance", () -> x.firstRepeat(0));
            x.setQuota(0, 119);
            due(-1, "beyond it", () -> x.firstRepeat(0));
            x.set(5, 0);
            due(1440 + 540, "worth nothing", () -> x.firstRepeat(0));
            x.setQuota(0, 59);
            due(-1, "worth nothing, above the allowance", () -> x.firstRepeat(0));
            StudioAirtime y = openAllDay();
            y.add(false, 0, 6, 0, 60, 0);
            due(6 * 1440 + 60 + 1200, "on the last day", () -> y.firstRepeat(0));
            y.set(4, 22);
            due(6 * 1440 + 60 + 1320, "up to the end of the week", () -> y.firstRepeat(0));
            y.set(4, 23);
            due(-1, "behind the week", () -> y.firstRepeat(0));
            y.set(4, 22);
            y.set(1, 1439);
            due(-1, "over the last close", () -> y.firstRepeat(0));
            StudioAirtime z = new StudioAirtime();
            fill(z, 23);
            z.set(4, 1);
            due(6 * 1440 + 595, "with 23 shows", () -> z.firstRepeat(0));
            z.add(false, 0, 0, 480, 5, 0);
            due(-1, "with 24 shows", () -> z.firstRepeat(1));
        });
        test("Throws `IndexOutOfBoundsException` if there is no such show", () -> {
            StudioAirtime x = new StudioAirtime();
            throwsIndex("without shows", () -> x.firstRepeat(0));
            fill(x, 24);
            for (int show : new int[] {-1, 24, Integer.MIN_VALUE, Integer.MAX_VALUE}) {
                throwsIndex("firstRepeat(" + show + ")", () -> x.firstRepeat(show));
            }
            due(-1, "of the last of 24", () -> x.firstRepeat(23));
        });
    }

    // ---- ifOverrun, greatestOverrun

    private static void ifOverrun() {
        section("Promise 24: ifOverrun");
        noBoundary("Returns the number.");
        test("Tells what a day would be like with another overrun of a live show.", () -> {
            StudioAirtime x = busyDay();
            int[][] days = {{0, 0, 6, 230, 230, 0, 1, 0, 1380, 0}, {0, 30, 6, 230, 240, 1, 2, 25, 1380, 0},
                {0, -60, 6, 230, 171, 0, 1, 0, 1380, 0}, {0, 120, 6, 230, 300, 1, 3, 55, 1380, 0},
                {4, 0, 6, 230, 240, 1, 1, 25, 1380, 0}, {2, 120, 6, 230, 240, 1, 2, 25, 1380, 0}};
            for (int[] day : days) {
                for (int w = 0; w < 8; w++) {
                    int what = w;
                    due(day[2 + w], "ifOverrun(" + day[0] + ", " + day[1] + ", " + w + ")",
                            () -> x.ifOverrun(day[0], day[1], what));
                }
            }
            changesNothing(x, "ifOverrun(0, 120, 2)", () -> x.ifOverrun(0, 120, 2));
            due(30, "the overrun", () -> x.show(0, 6));
        });
        test("- `show`: its number", () -> {
            StudioAirtime x = busyDay();
            x.add(true, 0, 6, 480, 10, 0);
            due(230, "the first", () -> x.ifOverrun(0, 0, 2));
            due(13, "the last", () -> x.ifOverrun(6, 3, 2));
            throwsIndex("the number -1", () -> x.ifOverrun(-1, 0, 2));
            throwsIndex("the number 7", () -> x.ifOverrun(7, 0, 2));
        });
        test("- `by`: -60 to 120", () -> {
            StudioAirtime x = new StudioAirtime();
            x.add(true, 0, 6, 480, 100, 0);
            due(40, "by -60", () -> x.ifOverrun(0, -60, 2));
            due(220, "by 120", () -> x.ifOverrun(0, 120, 2));
            throwsArgument("by -61", () -> x.ifOverrun(0, -61, 2));
            throwsArgument("by 121", () -> x.ifOverrun(0, 121, 2));
        });
        test("- `what`: 0 to 7, as in the method day, for its day", () -> {
            StudioAirtime x = busyDay();
            x.add(true, 0, 0, 480, 30, 5);
            x.set(6, 4);
            int[] overruns = {-60, -1, 0, 25, 31, 36, 120};
            for (int by : overruns) {
                StudioAirtime y = busyDay();
                y.add(true, 0, 0, 480, 30, 5);
                y.set(6, 4);
                y.overrun(1, by);
                for (int w = 0; w <= 7; w++) {
                    int what = w;
                    due(y.day(2, w), "ifOverrun(1, " + by + ", " + w + ")", () -> x.ifOverrun(1, by, what));
                }
            }
            due(1, "the hours above the limit", () -> x.ifOverrun(0, 0, 7));
            due(0, "none with a single minute", () -> x.ifOverrun(0, -60, 7));
            throwsArgument("what -1", () -> x.ifOverrun(0, 0, -1));
            throwsArgument("what 8", () -> x.ifOverrun(0, 0, 8));
        });
        test("Throws `IndexOutOfBoundsException` if there is no such show", () -> {
            StudioAirtime x = new StudioAirtime();
            throwsIndex("without shows", () -> x.ifOverrun(0, 0, 0));
            x.add(true, 0, 6, 480, 100, 0);
            for (int show : new int[] {-1, 1, 24, Integer.MIN_VALUE, Integer.MAX_VALUE}) {
                throwsIndex("ifOverrun(" + show + ", 0, 0)", () -> x.ifOverrun(show, 0, 0));
                throwsIndex("ifOverrun(" + show + ", 121, 8)", () -> x.ifOverrun(show, 121, 8));
            }
        });
        test("Throws `IllegalArgumentException` if by or what is out of range", () -> {
            StudioAirtime x = busyDay();
            for (int far : new int[] {-61, 121, Integer.MIN_VALUE, Integer.MAX_VALUE}) {
                throwsArgument("by " + far, () -> x.ifOverrun(0, far, 0));
                throwsArgument("what " + far, () -> x.ifOverrun(0, 0, far));
                throwsArgument("both " + far, () -> x.ifOverrun(0, far, far));
                throwsArgument("by " + far + " of a tape", () -> x.ifOverrun(1, far, 0));
                throwsArgument("what " + far + " of a tape", () -> x.ifOverrun(1, 0, far));
            }
            throwsArgument("what 8", () -> x.ifOverrun(0, 0, 8));
            throwsArgument("what -1", () -> x.ifOverrun(0, 0, -1));
        });
        test("Throws `IllegalStateException` if it is no live show", () -> {
            StudioAirtime x = busyDay();
            x.repeat(0, 4, 480);
            throwsState("of a tape", () -> x.ifOverrun(1, 0, 0));
            throwsState("of a live show's repeat", () -> x.ifOverrun(6, 0, 0));
            due(6, "of a dropped live show", () -> x.ifOverrun(2, 0, 0));
            changesNothing(x, "of a tape", () -> x.ifOverrun(1, 0, 0));
        });
    }

    private static void greatestOverrun() {
        section("Promise 25: greatestOverrun");
        test("Finds the greatest overrun with which no other show of the day would be dropped "
                + "(the show itself may be).", () -> {
            StudioAirtime x = new StudioAirtime();
            x.add(true, 0, 0, 480, 60, 0);
            x.add(true, 1, 0, 545, 60, 0);
            x.overrun(1, 60);
            due(15, "up to the patience of the next", () -> x.greatestOverrun(0));
            x.add(false, 2, 0, 630, 60, 0);
            // The second, 10 late with its overrun, ends at 675: the tape is 45 late.
            due(15, "with patience enough behind it", () -> x.greatestOverrun(0));
            x.set(3, 45);
            due(15, "with just enough", () -> x.greatestOverrun(0));
            x.set(3, 44);
            due(14, "up to the patience of the one behind it", () -> x.greatestOverrun(0));
            x.add(true, 3, 1, 480, 60, 0);
            x.overrun(0, 120);
            due(14, "whatever its overrun is now", () -> x.greatestOverrun(0));
            due(120, "of the second, which is dropped itself", () -> x.greatestOverrun(1));
            due(120, "alone on its day", () -> x.greatestOverrun(3));
            changesNothing(x, "greatestOverrun(0)", () -> x.greatestOverrun(0));
            StudioAirtime y = new StudioAirtime();
            y.add(true, 0, 0, 480, 60, 0);
            y.set(0, 491);
            due(2, "a dropped show", () -> y.show(0, 11));
            due(120, "the show itself may be dropped", () -> y.greatestOverrun(0));
            y.add(false, 1, 0, 540, 5, 0);
            due(120, "then it does not move the clock", () -> y.greatestOverrun(0));
        });
        test("- `show`: its number", () -> {
            StudioAirtime x = new StudioAirtime();
            x.add(true, 0, 0, 480, 60, 0);
            x.add(true, 0, 0, 540, 60, 0);
            due(10, "the first", () -> x.greatestOverrun(0));
            due(120, "the last", () -> x.greatestOverrun(1));
            throwsIndex("the number -1", () -> x.greatestOverrun(-1));
            throwsIndex("the number 2", () -> x.greatestOverrun(2));
        });
        test("Returns the greatest overrun, -60 to 120;", () -> {
            int[][] gaps = {{0, 60}, {1, 61}, {59, 119}, {60, 120}, {61, 120}};
            for (int[] gap : gaps) {
                StudioAirtime x = new StudioAirtime();
                x.add(true, 0, 0, 480, 100, 0);
                x.add(false, 1, 0, 580 + gap[0], 5, 0);
                due(gap[1], "with a gap of " + gap[0], () -> x.greatestOverrun(0));
            }
            // The opening, the patience for tapes; the last show is dropped itself.
            int[][] openings = {{480, 60, 60}, {540, 60, 0}, {541, 60, -1}, {599, 60, -59}, {600, 60, -60},
                {600, 59, -101}, {601, 59, 120}};
            for (int[] opening : openings) {
                StudioAirtime x = new StudioAirtime();
                x.add(true, 0, 0, 480, 100, 0);
                x.add(false, 1, 0, 580, 5, 0);
                x.set(2, 120);
                x.set(0, opening[0]);
                x.set(3, opening[1]);
                due(opening[2], "with the opening " + opening[0], () -> x.greatestOverrun(0));
            }
            StudioAirtime y = new StudioAirtime();
            y.add(true, 0, 0, 1200, 60, 0);
            y.add(false, 1, 0, 1330, 50, 0);
            y.set(3, 240);
            due(119, "up to a minute before the close", () -> y.greatestOverrun(0));
            y.set(1, 1381);
            due(120, "with one more minute", () -> y.greatestOverrun(0));
        });
        test("-101 if there is none (others would be dropped with each one).", () -> {
            StudioAirtime x = busyDay();
            due(-101, "the last tape is dropped anyway", () -> x.greatestOverrun(0));
            due(-101, "also behind a dropped show", () -> x.greatestOverrun(2));
            x.overrun(4, 0);
            due(20, "no more", () -> x.greatestOverrun(0));
            StudioAirtime y = new StudioAirtime();
            y.add(true, 0, 0, 480, 5, 0);
            y.add(false, 1, 0, 485, 5, 0);
            y.set(3, 0);
            y.set(2, 120);
            y.set(0, 484);
            due(-4, "at least one minute", () -> y.greatestOverrun(0));
            y.set(0, 485);
            due(-101, "one minute is too much", () -> y.greatestOverrun(0));
            StudioAirtime z = new StudioAirtime();
            z.add(false, 1, 0, 480, 5, 0);
            z.add(true, 0, 0, 600, 60, 0);
            z.add(true, 0, 1, 490, 60, 0);
            z.set(0, 541);
            due(-101, "one before it is dropped", () -> z.greatestOverrun(1));
            z.set(0, 540);
            due(120, "none before it is dropped, one of another day is", () -> z.greatestOverrun(1));
            due(1, "dropped shows", () -> z.count(5));
        });
        test("Throws `IndexOutOfBoundsException` if there is no such show", () -> {
            StudioAirtime x = new StudioAirtime();
            throwsIndex("without shows", () -> x.greatestOverrun(0));
            fill(x, 24);
            for (int show : new int[] {-1, 24, Integer.MIN_VALUE, Integer.MAX_VALUE}) {
                throwsIndex("greatestOverrun(" + show + ")", () -> x.greatestOverrun(show));
            }
        });
        test("Throws `IllegalStateException` if it is no live show", () -> {
            StudioAirtime x = busyDay();
            x.repeat(0, 4, 480);
            throwsState("of a tape", () -> x.greatestOverrun(1));
            throwsState("of a dropped tape", () -> x.greatestOverrun(5));
            throwsState("of a live show's repeat", () -> x.greatestOverrun(6));
            changesNothing(x, "of a tape", () -> x.greatestOverrun(1));
        });
    }

    // ---- share, digest

    private static void shareDue(String what, double want, StudioAirtime x) {
        due(Double.doubleToLongBits(want), "the bits of share() " + what, () -> Double.doubleToLongBits(x.share()));
    }

    private static void share() {
        section("Promise 26: share");
        test("Returns the share of the opening time of the week that is on air.", () -> {
            shareDue("without shows", 0.0, new StudioAirtime());
            StudioAirtime x = new StudioAirtime();
            for (int day = 0; day < 7; day++) {
                x.add(day % 2 == 0, day % 6, day, 700, 40, 0);
            }
            x.set(2, 20);
            x.set(0, 720);
            x.set(1, 721);
            shareDue("of seven days of one minute", 1.0, x);
            x.remove(6);
            shareDue("without one of them", 6.0 / 7.0, x);
            x.set(1, 722);
            shareDue("of days of two minutes", 12.0 / 14.0, x);
            x.set(2, 19);
            shareDue("without the dropped ones", 6.0 / 14.0, x);
        });
        test("Returns count(7), as a double, divided by 7 times (the close minus the opening).", () -> {
            StudioAirtime x = busyDay();
            shareDue("of a busy day", 240.0 / 6300.0, x);
            x.set(1, 1381);
            shareDue("with a later close", 241.0 / 6307.0, x);
            x.set(0, 479);
            shareDue("with an earlier opening", 241.0 / 6314.0, x);
            StudioAirtime one = openAllDay();
            one.add(true, 0, 0, 0, 60, 0);
            one.overrun(0, -60);
            shareDue("of one minute a week", 1.0 / 10080.0, one);
            one.repeat(0, 6, 0);
            one.set(5, 0);
            shareDue("a repeat's minutes are no worth", 61.0 / 10080.0, one);
        });
    }

    /** The hash of the values, in numbers without a bound, cut to 64 bits at the end. */
    private static long hash(List<Long> values) {
        BigInteger hash = BigInteger.valueOf(2099);
        for (long value : values) {
            hash = hash.multiply(BigInteger.valueOf(31)).add(BigInteger.valueOf(value));
        }
        return hash.longValue();
    }

    private static void put(List<Long> values, long... more) {
        for (long value : more) {
            values.add(value);
        }
    }

    private static List<Long> valuesOfFace(StudioAirtime x, String buffer) {
        List<Long> values = new ArrayList<>();
        for (int i = 0; i < 8; i++) {
            put(values, x.count(i));
        }
        for (int i = 0; i < 8; i++) {
            put(values, x.setting(i));
        }
        for (int i = 0; i < 54; i++) {
            put(values, x.group(i / 9, i % 9));
        }
        for (int show = 0; show < x.count(1); show++) {
            for (int what = 0; what <= 11; what++) {
                put(values, x.show(show, what));
            }
            put(values, x.firstRepeat(show));
            if (x.show(show, 0) == 0) {
                put(values, x.greatestOverrun(show));
            }
        }
        for (int day = 0; day < 7; day++) {
            for (int what = 0; what <= 7; what++) {
                put(values, x.day(day, what));
            }
            for (int hour = 0; hour < 24; hour++) {
                put(values, x.sponsors(day, hour, false), x.sponsors(day, hour, true));
            }
        }
        for (int group = 0; group < 6; group++) {
            put(values, x.firstTime(group, 3, 30));
        }
        put(values, Double.doubleToLongBits(x.share()), x.reason(), buffer.length());
        buffer.chars().forEach(c -> put(values, c));
        return values;
    }

    private static void digestDue(String what, StudioAirtime x, String buffer) {
        due(hash(valuesOfFace(x, buffer)), "digest() " + what, x::digest);
    }

    /** A new object's values, written out. */
    private static List<Long> newObject(int reason, String buffer) {
        List<Long> values = new ArrayList<>();
        put(values, 0, 0, 0, 0, 0, 0, 0, 0, 480, 1380, 10, 60, 20, 50, 8, 120);
        for (int group = 0; group < 6; group++) {
            put(values, 300, 0, 300, 0, 0, 0, 0, 0, 0);
        }
        for (int day = 0; day < 7; day++) {
            put(values, 0, 0, 0, 0, 0, 0, 480, 0);
            put(values, new long[48]);
        }
        put(values, 480, 480, 480, 480, 480, 480, 0, reason, buffer.length());
        buffer.chars().forEach(c -> put(values, c));
        return values;
    }

    private static void digest() {
        section("Promise 27: digest");
        noBoundary("Computes a hash of the whole state.", "Returns the hash.");
        test("The hash starts at 2099.", () -> {
            due(hash(newObject(0, "")), "digest() of a new object", new StudioAirtime()::digest);
            StudioAirtime x = new StudioAirtime();
            due(x.digest(), "digest() again", x::digest);
            due(x.digest(), "digest() of another new object", new StudioAirtime()::digest);
        });
        test("For each value v of the following list, in order, the hash becomes 31 * hash + v, "
                + "in long arithmetic with overflow.", () -> {
            // Typing one character changes the length too: 31 * (31 * rest + 1) + code.
            for (int code : new int[] {33, 126}) {
                StudioAirtime x = new StudioAirtime();
                long before = x.digest();
                x.append(code);
                due(31L * (before + 1) + code, "digest() with one character more", x::digest);
                x.append(126);
                due(31L * (31L * (before + 2) + code) + 126, "digest() with two", x::digest);
            }
            digestDue("of a busy day", busyDay(), "");
        });
        test("The values are: count(0) to count(7);", () -> {
            StudioAirtime x = busyDay();
            x.repeat(0, 4, 480);
            x.closeWeek();
            x.overrun(0, 30);
            digestDue("with each count above 0", x, "");
            x.undo();
            digestDue("behind undo", x, "");
            x.closeWeek();
            digestDue("in the next week", x, "");
        });
        test("the settings 0 to 7;", () -> {
            int[][] values = {{0, 720}, {1, 721}, {1, 1440}, {2, 0}, {3, 240}, {4, 100}, {5, 0}, {6, 30}, {7, 600}, {0, 0}};
            for (int[] value : values) {
                StudioAirtime x = new StudioAirtime();
                x.set(value[0], value[1]);
                digestDue("with the setting " + value[0] + " at " + value[1], x, "");
            }
            StudioAirtime x = new StudioAirtime();
            x.set(7, 121);
            List<Long> changed = newObject(0, "");
            changed.set(6, 1L);
            changed.set(15, 121L);
            due(hash(changed), "digest() with another carry limit", x::digest);
        });
        test("for each group its properties 0 to 8;", () -> {
            StudioAirtime x = new StudioAirtime();
            x.setQuota(5, 2000);
            List<Long> changed = newObject(0, "");
            changed.set(6, 1L);
            changed.set(16 + 5 * 9, 2000L);
            changed.set(16 + 5 * 9 + 2, 2000L);
            due(hash(changed), "digest() with another quota", x::digest);
            x.add(false, 0, 3, 480, 240, 0);
            x.setQuota(0, 0);
            x.closeWeek();
            digestDue("with carried minutes and losses below 0", x, "");
        });
        test("for each day its properties 0 to 7 and, for each hour, the sponsor minutes planned and on air;", () -> {
            StudioAirtime x = openAllDay();
            x.add(true, 0, 0, 0, 60, 8);
            x.add(false, 1, 0, 65, 60, 7);
            x.add(false, 2, 6, 1432, 8, 8);
            x.overrun(0, 60);
            x.set(6, 6);
            digestDue("with the first and the last hour", x, "");
            x.set(0, 10);
            digestDue("with a delay at the opening", x, "");
        });
        test("firstTime for each group with the day 3 and the length 30;", () -> {
            StudioAirtime x = new StudioAirtime();
            x.add(true, 1, 3, 509, 10, 0);
            x.setQuota(0, 30);
            x.setQuota(2, 29);
            digestDue("behind a show, and with NONE", x, "");
            x.undo();
            x.undo();
            x.undo();
            x.add(true, 1, 3, 510, 10, 0);
            digestDue("before a show", x, "");
            x.add(true, 1, 2, 480, 100, 0);
            x.add(true, 1, 4, 480, 100, 0);
            digestDue("with shows of other days", x, "");
        });
        test("the bits of share (as Double.doubleToLongBits);", () -> {
            digestDue("with the share 0", new StudioAirtime(), "");
            for (int by : new int[] {-60, -59, -58, 0, 1, 120}) {
                StudioAirtime x = openAllDay();
                x.add(true, 0, 0, 0, 60, 0);
                x.overrun(0, by);
                digestDue("with " + Math.max(1, 60 + by) + " of 10080 minutes", x, "");
                x.set(1, 721);
                digestDue("with as many of 5047", x, "");
            }
            StudioAirtime x = new StudioAirtime();
            for (int day = 0; day < 7; day++) {
                x.add(false, day % 6, day, 700, 40, 0);
            }
            x.set(0, 720);
            for (int close : new int[] {721, 722, 723, 724, 740, 760}) {
                x.set(1, close);
                digestDue("with days of " + (close - 720) + " minutes", x, "");
            }
        });
        test("reason;", () -> {
            StudioAirtime x = new StudioAirtime();
            throwsState("a show before the opening", () -> x.add(true, 0, 0, 0, 60, 0));
            due(hash(newObject(3, "")), "digest() with the reason 3", x::digest);
            throwsState("a show over the close", () -> x.add(true, 0, 0, 480, 60, 9));
            due(hash(newObject(7, "")), "digest() with the reason 7", x::digest);
            type(x, "T0.0@600+4");
            x.load();
            x.undo();
            due(hash(newObject(20, "")), "digest() with the reason 20", x::digest);
        });
        test("the length of the buffer and each of its character codes.", () -> {
            String text = "!~L0.0@600+60;".repeat(5).substring(0, 60);
            for (int length : new int[] {1, 2, 59, 60}) {
                String part = text.substring(0, length);
                due(hash(newObject(0, part)), "digest() with " + length + " characters", typed(part)::digest);
            }
            StudioAirtime x = typed(text);
            x.clearBuffer();
            type(x, "R");
            due(hash(newObject(0, "R")), "digest() with a shorter buffer", x::digest);
        });
    }

    private static void digestOfShows() {
        test("for each show its properties 0 to 11, firstRepeat, and greatestOverrun if it is live;", () -> {
            digestDue("of a busy day", busyDay(), "");
            StudioAirtime x = busyDay();
            x.repeat(1, 4, 600);
            x.overrun(0, -60);
            x.overrun(4, 0);
            digestDue("with a repeat", x, "");
            x.set(4, 100);
            digestDue("with firstRepeat late in the week or NONE", x, "");
            StudioAirtime one = new StudioAirtime();
            one.add(true, 5, 6, 1380 - 240, 240, 8);
            List<Long> values = new ArrayList<>();
            put(values, 0, 1, 1, 0, 0, 0, 1, 240, 480, 1380, 10, 60, 20, 50, 8, 120);
            for (int group = 0; group < 6; group++) {
                int minutes = group == 5 ? 240 : 0;
                put(values, 300, 0, 300, minutes, minutes, minutes / 240, 0, 0, 0);
            }
            put(values, 0, 5, 6, 1140, 240, 8, 0, -1, 1140, 240, 0, 0, -1, 120);
            for (int day = 0; day < 6; day++) {
                put(values, 0, 0, 0, 0, 0, 0, 480, 0);
                put(values, new long[48]);
            }
            put(values, 1, 240, 240, 0, 0, 0, 1380, 0);
            long[] hours = new long[48];
            hours[38] = 8;
            hours[39] = 8;
            put(values, hours);
            put(values, 480, 480, 480, 480, 480, 480, Double.doubleToLongBits(240.0 / 6300.0), 0, 0);
            due(hash(values), "digest() of one live show", one::digest);
            StudioAirtime full = new StudioAirtime();
            fill(full, 24);
            digestDue("of 24 shows", full, "");
        });
    }
}
