import java.io.IOException;

/** The sentences of the document's section "Terms", each with its boundary cases. */
public final class TermsSentenceTest extends Sentences {

    public static void main(String[] args) throws IOException {
        whatItIs();
        numbers();
        settings();
        groups();
        shows();
        plans();
        plansOfRepeats();
        plansOfSponsors();
        onAir();
        lengthOnAir();
        weeks();
        texts();
        undo();
        exceptions();
        end("(?!Promise ).*");
    }

    private static void whatItIs() {
        section("What it is");
        test("An object is used for at most 512 calls after it has been made;", () -> {
            StudioAirtime x = new StudioAirtime();
            for (int i = 1; i <= 510; i++) {
                x.closeWeek();
            }
            // The first week loses 300 less the 120 that are carried, each one behind it 300.
            due(180 + 509 * 300, "the 511th call, group(0, 8)", () -> x.group(0, 8));
            due(510, "the 512th call, count(0)", () -> x.count(0));
            StudioAirtime y = new StudioAirtime();
            for (int i = 1; i < 512; i++) {
                y.setQuota(0, i);
            }
            due(5, "the 512th call, undo()", y::undo);
        });
        noBoundary("The airtime of a community studio", "what later calls answer is free.");
    }

    // ---- numbers, times, settings

    private static void numbers() {
        section("Terms");
        noBoundary("All numbers are integers;", "Times are in minutes;");
        test("divisions are truncated toward 0.", () -> {
            StudioAirtime x = new StudioAirtime();
            x.add(false, 0, 0, 480, 9, 0);
            x.repeat(0, 1, 480);
            int[][] worths = {{0, 0}, {11, 0}, {12, 1}, {22, 1}, {23, 2}, {99, 8}, {100, 9}};
            for (int[] worth : worths) {
                x.set(5, worth[0]);
                due(9 + worth[1], "9 minutes at " + worth[0] + " percent", () -> x.group(0, 3));
            }
        });
        test("To clamp a number to a range means to replace it by the nearest number of the range.", () -> {
            int[][] carries = {{299, 299}, {300, 300}, {301, 300}, {0, 0}, {600, 300}};
            for (int[] carry : carries) {
                StudioAirtime x = new StudioAirtime();
                x.set(7, carry[0]);
                x.closeWeek();
                due(carry[1], "300 clamped to " + carry[0], () -> x.group(0, 1));
            }
            int[][] debts = {{59, -59}, {60, -60}, {61, -60}, {0, 0}, {600, -60}};
            for (int[] debt : debts) {
                StudioAirtime x = new StudioAirtime();
                x.set(7, debt[0]);
                x.add(false, 0, 0, 480, 60, 0);
                x.setQuota(0, 0);
                x.closeWeek();
                due(debt[1], "-60 clamped to " + debt[0], () -> x.group(0, 1));
            }
        });
        test("a day has the minutes 0 to 1439 and the hours 0 to 23 (the hour h from the minute 60 * h on).", () -> {
            StudioAirtime x = openAllDay();
            due(0, "a show from the minute 0 on", () -> x.add(false, 0, 0, 0, 5, 5));
            due(1, "a show up to the last minute", () -> x.add(false, 0, 0, 1435, 5, 5));
            due(1, "a show across two hours", () -> x.add(false, 0, 0, 715, 10, 8));
            due(1, "a show up to an hour's end", () -> x.add(false, 0, 0, 655, 5, 5));
            due(1, "a show from an hour's start on", () -> x.add(false, 0, 0, 600, 5, 3));
            throwsArgument("the minute -1", () -> x.why(0, 0, -1, 5));
            throwsArgument("the minute 1440", () -> x.why(0, 0, 1440, 5));
            int[] minutes = {5, 0, 0, 0, 0, 0, 0, 0, 0, 0, 8, 5, 3, 0, 0, 0, 0, 0, 0, 0, 0, 0, 0, 5};
            for (int h = 0; h < 24; h++) {
                int hour = h;
                due(minutes[h], "planned in the hour " + h, () -> x.sponsors(0, hour, false));
                due(minutes[h], "on air in the hour " + h, () -> x.sponsors(0, hour, true));
            }
            throwsIndex("the hour -1", () -> x.sponsors(0, -1, false));
            throwsIndex("the hour 24", () -> x.sponsors(0, 24, false));
        });
        test("A week has the days 0 to 6.", () -> {
            StudioAirtime x = new StudioAirtime();
            x.add(true, 0, 0, 480, 5, 2);
            due(1, "a show on the day 6", () -> x.add(true, 0, 6, 1375, 5, 3));
            due(1, "a repeat on the day 6", () -> x.repeat(0, 6, 1370));
            for (int day : new int[] {-1, 7, Integer.MIN_VALUE, Integer.MAX_VALUE}) {
                throwsArgument("add on the day " + day, () -> x.add(true, 0, day, 600, 5, 0));
                throwsArgument("repeat on the day " + day, () -> x.repeat(0, day, 600));
                throwsArgument("why on the day " + day, () -> x.why(0, day, 600, 5));
                throwsArgument("firstTime on the day " + day, () -> x.firstTime(0, day, 5));
                throwsIndex("day(" + day + ", 0)", () -> x.day(day, 0));
                throwsIndex("sponsors(" + day + ", 0, true)", () -> x.sponsors(day, 0, true));
            }
            due(1, "shows on the day 0", () -> x.day(0, 0));
            due(2, "shows on the day 6", () -> x.day(6, 0));
            due(3, "sponsor minutes on the day 6", () -> x.sponsors(6, 22, true));
        });
    }

    private static void settingIs(int setting, int least, int greatest, int first) {
        StudioAirtime x = new StudioAirtime();
        due(first, "setting(" + setting + ") at first", () -> x.setting(setting));
        for (int value : new int[] {least, least + 1, greatest - 1, greatest}) {
            x.set(setting, value);
            due(value, "setting(" + setting + ") after set", () -> x.setting(setting));
        }
        for (int value : new int[] {least - 1, greatest + 1, Integer.MIN_VALUE, Integer.MAX_VALUE, -least - 1441}) {
            throwsArgument("set(" + setting + ", " + value + ")", () -> x.set(setting, value));
        }
        due(greatest, "setting(" + setting + ") after refused values", () -> x.setting(setting));
    }

    private static void settings() {
        section("Settings");
        test("0: the opening, 0 to 720, at first 480;", () -> {
            settingIs(0, 0, 720, 480);
            StudioAirtime x = new StudioAirtime();
            due(3, "before the first opening", () -> x.why(0, 0, 479, 5));
            due(0, "at the first opening", () -> x.why(0, 0, 480, 5));
            x.set(0, 0);
            due(0, "at the least opening", () -> x.why(0, 0, 0, 5));
            x.set(0, 720);
            due(3, "before the greatest opening", () -> x.why(0, 0, 719, 5));
            due(0, "at the greatest opening", () -> x.why(0, 0, 720, 5));
        });
        test("1: the close, 721 to 1440, at first 1380;", () -> {
            settingIs(1, 721, 1440, 1380);
            StudioAirtime x = new StudioAirtime();
            due(0, "up to the first close", () -> x.why(0, 0, 1375, 5));
            due(3, "over the first close", () -> x.why(0, 0, 1376, 5));
            x.set(1, 721);
            due(0, "up to the least close", () -> x.why(0, 0, 716, 5));
            due(3, "over the least close", () -> x.why(0, 0, 717, 5));
            x.set(1, 1440);
            due(0, "up to the greatest close", () -> x.why(0, 0, 1435, 5));
            due(3, "over the greatest close", () -> x.why(0, 0, 1436, 5));
        });
        test("2: the patience for live shows, 0 to 120, at first 10;", () -> {
            settingIs(2, 0, 120, 10);
            for (int patience : new int[] {-1, 0, 120}) {
                StudioAirtime x = openAllDay();
                x.add(true, 0, 0, 0, 5, 0);
                if (patience >= 0) {
                    x.set(2, patience);
                }
                int minutes = patience < 0 ? 10 : patience;
                x.set(0, minutes);
                due(minutes, "a live show after a delay of " + minutes, () -> x.show(0, 8));
                x.set(0, minutes + 1);
                due(-1, "a live show after one more", () -> x.show(0, 8));
            }
        });
        test("3: the patience for tapes, 0 to 240, at first 60;", () -> {
            settingIs(3, 0, 240, 60);
            for (int patience : new int[] {-1, 0, 240}) {
                StudioAirtime x = openAllDay();
                x.add(false, 0, 0, 0, 5, 0);
                if (patience >= 0) {
                    x.set(3, patience);
                }
                int minutes = patience < 0 ? 60 : patience;
                x.set(0, minutes);
                due(minutes, "a tape after a delay of " + minutes, () -> x.show(0, 8));
                x.set(0, minutes + 1);
                due(-1, "a tape after one more", () -> x.show(0, 8));
            }
        });
        test("4: the gap of repeats in hours, 1 to 100, at first 20;", () -> {
            settingIs(4, 1, 100, 20);
            StudioAirtime x = openAllDay();
            x.add(false, 0, 0, 30, 30, 0);
            due(60 + 20 * 60, "firstRepeat at first", () -> x.firstRepeat(0));
            x.set(4, 1);
            due(60 + 60, "firstRepeat with the least gap", () -> x.firstRepeat(0));
            x.set(4, 100);
            due(60 + 6000, "firstRepeat with the greatest gap", () -> x.firstRepeat(0));
        });
        test("5: the share of repeats in percent, 0 to 100, at first 50;", () -> {
            settingIs(5, 0, 100, 50);
            StudioAirtime x = new StudioAirtime();
            x.add(false, 0, 0, 480, 41, 0);
            x.repeat(0, 1, 480);
            due(41 + 20, "the worths at first", () -> x.group(0, 3));
            x.set(5, 0);
            due(41, "the worths with the least share", () -> x.group(0, 3));
            x.set(5, 100);
            due(41 + 41, "the worths with the greatest share", () -> x.group(0, 3));
        });
        test("6: the sponsor limit, 0 to 30, at first 8;", () -> {
            settingIs(6, 0, 30, 8);
            for (int limit : new int[] {-1, 0, 29}) {
                StudioAirtime x = new StudioAirtime();
                if (limit >= 0) {
                    x.set(6, limit);
                }
                int minutes = limit < 0 ? 8 : limit;
                refused(x, 7, "above " + minutes, () -> x.add(false, 0, 0, 480, 40, minutes + 1));
                due(0, "up to " + minutes, () -> x.add(false, 0, 0, 480, 40, minutes));
            }
            StudioAirtime x = new StudioAirtime();
            x.set(6, 30);
            due(0, "up to 30", () -> x.add(false, 0, 0, 480, 30, 30));
            refused(x, 7, "above 30", () -> x.add(false, 0, 0, 510, 30, 1));
        });
        test("7: the carry limit, 0 to 600, at first 120.", () -> {
            settingIs(7, 0, 600, 120);
            int[][] carries = {{-1, 120}, {0, 0}, {600, 600}};
            for (int[] carry : carries) {
                StudioAirtime x = new StudioAirtime();
                x.setQuota(0, 2000);
                if (carry[0] >= 0) {
                    x.set(7, carry[0]);
                }
                x.closeWeek();
                due(carry[1], "2000 minutes, carried", () -> x.group(0, 1));
                due(2000 - carry[1], "2000 minutes, lost", () -> x.group(0, 8));
            }
        });
    }

    // ---- groups and shows

    private static void groups() {
        section("Groups and shows");
        test("There are six groups, numbered from 0.", () -> {
            StudioAirtime x = new StudioAirtime();
            for (int group : new int[] {0, 5}) {
                due(300, "setQuota(" + group + ", 200)", () -> x.setQuota(group, 200));
                due(200, "group(" + group + ", 0)", () -> x.group(group, 0));
                due(0, "a show of the group " + group, () -> x.add(true, group, 0, 600 - 10 * group, 5, 0));
                due(1, "its shows", () -> x.group(group, 5));
            }
            for (int group : new int[] {-1, 6, Integer.MIN_VALUE, Integer.MAX_VALUE}) {
                throwsIndex("setQuota(" + group + ", 200)", () -> x.setQuota(group, 200));
                throwsIndex("group(" + group + ", 0)", () -> x.group(group, 0));
                throwsArgument("a show of the group " + group, () -> x.add(true, group, 1, 600, 5, 0));
                throwsArgument("why(" + group + ", ..)", () -> x.why(group, 0, 600, 5));
                throwsArgument("firstTime(" + group + ", ..)", () -> x.firstTime(group, 0, 5));
            }
        });
        test("A group has a quota, 0 to 2000 minutes a week, at first 300, and carried minutes, at first 0 "
                + "(they can be negative).", () -> {
            StudioAirtime x = new StudioAirtime();
            for (int g = 0; g < 6; g++) {
                int group = g;
                due(300, "the quota of " + g, () -> x.group(group, 0));
                due(0, "the carried minutes of " + g, () -> x.group(group, 1));
                x.setQuota(group, 2000);
                due(2000, "the greatest quota", () -> x.group(group, 0));
                x.setQuota(group, 0);
                due(0, "the least quota", () -> x.group(group, 0));
                throwsArgument("below it", () -> x.setQuota(group, -1));
                throwsArgument("above the greatest", () -> x.setQuota(group, 2001));
            }
            x.setQuota(3, 5);
            x.add(false, 3, 0, 480, 5, 0);
            x.setQuota(3, 4);
            x.closeWeek();
            due(-1, "carried minutes below 0", () -> x.group(3, 1));
        });
        test("Its allowance is its quota plus its carried minutes.", () -> {
            StudioAirtime x = new StudioAirtime();
            due(300, "the allowance at first", () -> x.group(0, 2));
            x.setQuota(0, 60);
            x.add(false, 0, 0, 480, 60, 0);
            x.setQuota(0, 0);
            x.closeWeek();
            due(-60, "below 0", () -> x.group(0, 2));
            x.setQuota(0, 60);
            due(0, "with a new quota", () -> x.group(0, 2));
            due(300 + 120, "with carried minutes", () -> x.group(1, 2));
            x.setQuota(1, 2000);
            due(2000 + 120, "above 2000", () -> x.group(1, 2));
        });
    }

    private static void shows() {
        test("There are at most 24 shows.", () -> {
            StudioAirtime x = new StudioAirtime();
            fill(x, 23);
            due(23, "the 24th", () -> x.add(false, 0, 6, 1000, 5, 0));
            due(24, "shows", () -> x.count(1));
            refused(x, 1, "a 25th", () -> x.add(false, 0, 0, 480, 5, 0));
            refused(x, 1, "a repeat as the 25th", () -> x.repeat(0, 0, 480));
            due(1, "why for a 25th", () -> x.why(0, 0, 480, 5));
            due(5, "the last one's length", () -> x.show(23, 4));
            throwsIndex("a show behind it", () -> x.show(24, 4));
            type(x, "T0.0@480+5");
            due(0, "load of a 25th", x::load);
            x.remove(0);
            due(0, "a 24th again", () -> x.add(false, 0, 0, 480, 5, 0));
            due(1, "closeWeek() with 24 shows", x::closeWeek);
            due(115 + 5, "minutes on air of 24 shows", () -> x.count(7));
            x.remove(23);
            x.remove(22);
            due(22, "shows", () -> x.count(1));
        });
        test("A show has a kind (0 live, 1 tape, 2 repeat), a group, a day, a start (0 to 1439), a length (5 to 240), "
                + "and sponsor minutes (0 to 30, but at most its length).", () -> {
            StudioAirtime x = openAllDay();
            x.set(6, 30);
            int[][] shows = {{0, 0, 0, 0, 5, 5}, {1, 5, 0, 60, 240, 30}, {2, 0, 6, 1435, 5, 0}};
            x.add(true, 0, 0, 0, 5, 5);
            x.add(false, 5, 0, 60, 240, 30);
            x.repeat(0, 6, 1435);
            for (int i = 0; i < 18; i++) {
                int show = i / 6;
                int what = i % 6;
                due(shows[show][what], "show(" + show + ", " + what + ")", () -> x.show(show, what));
            }
            throwsArgument("the start -1", () -> x.add(true, 1, 1, -1, 5, 0));
            refused(x, 3, "the start 1439", () -> x.add(true, 1, 1, 1439, 5, 0));
            throwsArgument("the start 1440", () -> x.add(true, 1, 1, 1440, 5, 0));
            throwsArgument("the length 4", () -> x.add(true, 1, 1, 600, 4, 0));
            throwsArgument("the length 241", () -> x.add(true, 1, 1, 600, 241, 0));
            throwsArgument("-1 sponsor minutes", () -> x.add(true, 1, 1, 600, 60, -1));
            throwsArgument("31 sponsor minutes", () -> x.add(true, 1, 1, 600, 60, 31));
            throwsArgument("30 sponsor minutes of 29", () -> x.add(true, 1, 1, 600, 29, 30));
            due(2, "30 sponsor minutes of 30", () -> x.add(true, 1, 1, 600, 30, 30));
            due(3, "29 sponsor minutes of 29", () -> x.add(true, 1, 1, 660, 29, 29));
        });
        test("A live show also has an overrun, -60 to 120, at first 0.", () -> {
            StudioAirtime x = new StudioAirtime();
            x.add(true, 0, 0, 600, 100, 0);
            due(0, "the overrun at first", () -> x.show(0, 6));
            for (int by : new int[] {-60, -59, 119, 120}) {
                x.overrun(0, by);
                due(by, "the overrun", () -> x.show(0, 6));
                due(100 + by, "how long it lasts", () -> x.show(0, 9));
            }
            due(0, "another show, before it", () -> x.add(true, 0, 0, 490, 100, 0));
            due(0, "its overrun at first", () -> x.show(0, 6));
            due(120, "the overrun of the one behind it", () -> x.show(1, 6));
            throwsArgument("an overrun of -61", () -> x.overrun(0, -61));
            throwsArgument("an overrun of 121", () -> x.overrun(0, 121));
            x.add(false, 0, 0, 1000, 100, 0);
            throwsState("an overrun of a tape", () -> x.overrun(2, 0));
            due(0, "the overrun of a tape", () -> x.show(2, 6));
        });
        test("A repeat has an original, which is a live show or a tape;", () -> {
            StudioAirtime x = new StudioAirtime();
            x.add(true, 0, 0, 480, 10, 0);
            x.add(false, 0, 0, 500, 10, 0);
            due(2, "a repeat of a live show", () -> x.repeat(0, 1, 480));
            due(3, "a repeat of a tape", () -> x.repeat(1, 1, 500));
            due(0, "the original of the one", () -> x.show(2, 7));
            due(1, "the original of the other", () -> x.show(3, 7));
            refused(x, 2, "a repeat of a repeat", () -> x.repeat(2, 2, 480));
            due(-1, "the original of a live show", () -> x.show(0, 7));
            due(-1, "the original of a tape", () -> x.show(1, 7));
        });
        test("its group and its length are those of its original, its sponsor minutes are 0.", () -> {
            StudioAirtime x = new StudioAirtime();
            x.set(6, 30);
            x.add(true, 5, 0, 480, 240, 30);
            x.add(false, 3, 0, 720, 5, 5);
            x.setQuota(5, 2000);
            x.overrun(0, -60);
            x.repeat(0, 1, 480);
            x.repeat(1, 1, 720);
            int[][] dues = {{5, 240}, {3, 5}};
            for (int i = 0; i < 2; i++) {
                int show = 2 + i;
                due(dues[i][0], "the group", () -> x.show(show, 1));
                due(dues[i][1], "the length", () -> x.show(show, 4));
                due(0, "the sponsor minutes", () -> x.show(show, 5));
                due(0, "the overrun", () -> x.show(show, 6));
                due(dues[i][1], "the minutes on air", () -> x.show(show, 9));
            }
            due(0, "the sponsor minutes of the day", () -> x.sponsors(1, 8, false));
        });
        test("Shows are numbered from 0 by ascending days, those of the same day by ascending starts.", () -> {
            StudioAirtime x = new StudioAirtime();
            due(0, "the first of all", () -> x.add(true, 0, 3, 600, 5, 0));
            due(0, "an earlier day, a later start", () -> x.add(true, 0, 2, 1300, 5, 0));
            due(2, "a later day, an earlier start", () -> x.add(true, 0, 4, 480, 5, 0));
            due(2, "the same day, just behind", () -> x.add(true, 0, 3, 605, 5, 0));
            due(1, "the same day, just before", () -> x.add(true, 0, 3, 595, 5, 0));
            due(5, "behind all", () -> x.add(true, 0, 6, 1375, 5, 0));
            due(0, "before all", () -> x.add(true, 0, 0, 480, 5, 0));
            due(6, "a repeat of the number 2, before the last", () -> x.repeat(2, 6, 1370));
            due(1, "one more before the repeat's original", () -> x.add(true, 0, 0, 485, 5, 0));
            due(3, "the original's number then", () -> x.show(7, 7));
            due(3, "one more just before the original", () -> x.add(true, 0, 3, 590, 5, 0));
            due(4, "the original's number then", () -> x.show(8, 7));
            int[][] order = {{0, 480}, {0, 485}, {2, 1300}, {3, 590}, {3, 595}, {3, 600}, {3, 605}, {4, 480},
                {6, 1370}, {6, 1375}};
            for (int i = 0; i < 10; i++) {
                int show = i;
                due(order[i][0], "the day of " + i, () -> x.show(show, 2));
                due(order[i][1], "the start of " + i, () -> x.show(show, 3));
            }
        });
        test("(Two shows never have the same day and start.)", () -> {
            StudioAirtime x = new StudioAirtime();
            x.add(true, 0, 3, 600, 5, 0);
            refused(x, 4, "the same day and start", () -> x.add(false, 1, 3, 600, 240, 0));
            due(0, "the start on another day", () -> x.add(false, 1, 2, 600, 5, 0));
            due(1, "the day at another start", () -> x.add(false, 1, 3, 595, 5, 0));
        });
        test("The worth of m minutes of a show is m, for a repeat m * (share of repeats) / 100.", () -> {
            int[][] worths = {{5, 0, 0}, {5, 19, 0}, {5, 20, 1}, {5, 99, 4}, {5, 100, 5},
                {240, 0, 0}, {240, 1, 2}, {240, 50, 120}, {240, 99, 237}, {240, 100, 240}};
            for (int[] worth : worths) {
                StudioAirtime x = new StudioAirtime();
                x.setQuota(0, 2000);
                x.add(true, 0, 0, 480, worth[0], 0);
                due(worth[0], "of a live show", () -> x.group(0, 3));
                x.repeat(0, 1, 1000);
                x.set(5, worth[1]);
                due(worth[0] + worth[2], "with a repeat at " + worth[1], () -> x.group(0, 3));
                due(worth[0] + worth[2], "with a repeat on air", () -> x.group(0, 4));
            }
        });
    }

    // ---- plans

    private static void plans() {
        section("Plans");
        test("A show that is to be added is refused for the first of these reasons that holds:", () -> {
            StudioAirtime x = new StudioAirtime();
            x.add(false, 1, 4, 1200, 50, 0);
            x.add(true, 0, 5, 480, 200, 8);
            x.repeat(0, 6, 1300);
            fill(x, 21);
            x.set(6, 7);
            x.setQuota(0, 0);
            x.setQuota(1, 0);
            x.set(4, 100);
            // The number 23 is the repeat; all seven hold of the first call, and each time one less.
            refused(x, 1, "a repeat of a repeat, and 24 shows", () -> x.repeat(23, 5, 479));
            x.remove(2);
            refused(x, 2, "a repeat of a repeat", () -> x.repeat(22, 5, 479));
            refused(x, 3, "a repeat before the opening", () -> x.repeat(1, 5, 479));
            refused(x, 4, "a repeat in the way of another show", () -> x.repeat(1, 5, 679));
            refused(x, 5, "a repeat after too short a gap", () -> x.repeat(1, 5, 740));
            x.set(4, 1);
            refused(x, 6, "a repeat beyond the allowance", () -> x.repeat(1, 5, 740));
            x.setQuota(0, 300);
            refused(x, 7, "a repeat on a day with an hour above the limit", () -> x.repeat(1, 5, 740));
            x.set(6, 8);
            due(2, "a repeat without a reason", () -> x.repeat(1, 5, 740));
            due(0, "reason()", x::reason);
        });
        test("1: there are 24 shows;", () -> {
            StudioAirtime x = new StudioAirtime();
            fill(x, 22);
            due(0, "why with 22 shows", () -> x.why(0, 0, 480, 5));
            x.add(false, 0, 0, 480, 5, 0);
            due(0, "why with 23 shows", () -> x.why(0, 0, 485, 5));
            x.repeat(0, 5, 480);
            due(1, "why with 24 shows", () -> x.why(0, 0, 485, 5));
            due(1, "also before the opening", () -> x.why(0, 0, 0, 5));
            due(1, "also in the way", () -> x.why(0, 0, 480, 5));
            due(2, "remove(0)", () -> x.remove(0));
            due(0, "why with 22 shows again", () -> x.why(0, 0, 485, 5));
        });
        test("3: it would start before the opening, or end (start plus length) after the close;", () -> {
            StudioAirtime x = new StudioAirtime();
            x.set(0, 500);
            x.set(1, 1000);
            int[][] whys = {{499, 5, 3}, {500, 5, 0}, {995, 5, 0}, {996, 5, 3}, {0, 240, 3}, {1439, 240, 3},
                {760, 240, 0}, {761, 240, 3}, {999, 5, 3}, {1000, 5, 3}, {495, 5, 3}};
            for (int[] why : whys) {
                due(why[2], "why at " + why[0] + " for " + why[1], () -> x.why(0, 0, why[0], why[1]));
            }
            refused(x, 3, "a live show before the opening", () -> x.add(true, 0, 0, 499, 5, 0));
            refused(x, 3, "a live show over the close", () -> x.add(true, 0, 0, 996, 5, 0));
            x.add(true, 0, 0, 500, 5, 0);
            x.add(true, 0, 0, 995, 5, 0);
            refused(x, 3, "a repeat before the opening", () -> x.repeat(0, 3, 499));
            refused(x, 3, "a repeat over the close", () -> x.repeat(0, 3, 996));
            due(2, "a repeat up to the close", () -> x.repeat(0, 3, 995));
        });
        test("4: a show of the same day starts before its end, and ends (start plus length) after its start;", () -> {
            StudioAirtime x = new StudioAirtime();
            x.add(true, 0, 3, 600, 60, 0);
            x.overrun(0, 120);
            int[][] whys = {{540, 60, 0}, {541, 60, 4}, {600, 60, 4}, {659, 60, 4}, {660, 60, 0},
                {550, 240, 4}, {620, 5, 4}, {600, 5, 4}, {655, 5, 4}, {595, 5, 0}, {596, 5, 4}, {600, 61, 4}, {599, 62, 4}};
            for (int[] why : whys) {
                due(why[2], "why at " + why[0] + " for " + why[1], () -> x.why(1, 3, why[0], why[1]));
                due(0, "the day before, at " + why[0], () -> x.why(1, 2, why[0], why[1]));
                due(0, "the day behind, at " + why[0], () -> x.why(1, 4, why[0], why[1]));
            }
            x.add(false, 1, 3, 670, 60, 0);
            due(0, "between two shows", () -> x.why(1, 3, 660, 10));
            due(4, "more than between two shows", () -> x.why(1, 3, 660, 11));
            refused(x, 4, "a repeat in the way", () -> x.repeat(0, 3, 729));
            x.remove(1);
            due(0, "in the place of a removed show", () -> x.why(1, 3, 670, 60));
            x.add(false, 1, 3, 670, 60, 0);
            x.undo();
            due(0, "in the place of a show that was undone", () -> x.why(1, 3, 670, 60));
        });
        test("6: the worths of the lengths of all shows of its group together, with it, would be greater than "
                + "the allowance of the group (each worth truncated by itself);", () -> {
            StudioAirtime x = new StudioAirtime();
            due(0, "an empty group", () -> x.why(0, 0, 480, 240));
            x.add(true, 0, 0, 480, 240, 0);
            due(0, "up to the allowance", () -> x.why(0, 1, 480, 60));
            due(6, "one above it", () -> x.why(0, 1, 480, 61));
            due(0, "another group", () -> x.why(1, 1, 480, 61));
            x.overrun(0, 120);
            due(0, "an overrun does not matter", () -> x.why(0, 1, 480, 60));
            x.add(false, 0, 0, 720, 9, 0);
            x.repeat(1, 2, 480);
            x.repeat(1, 2, 500);
            // 240 + 9 + 4 + 4: together the repeats are worth 9, each by itself 4.
            due(0, "up to the allowance with repeats", () -> x.why(0, 1, 480, 43));
            due(6, "one above it with repeats", () -> x.why(0, 1, 480, 44));
            x.setQuota(0, 240 + 9 + 4 + 4 + 4);
            due(4, "a third repeat", () -> x.repeat(1, 2, 520));
            refused(x, 6, "a fourth one", () -> x.repeat(1, 2, 540));
            x.set(5, 11);
            due(5, "a fourth one worth nothing", () -> x.repeat(1, 2, 540));
            x.setQuota(0, 248);
            refused(x, 6, "one worth nothing above the allowance", () -> x.repeat(1, 2, 560));
            x.setQuota(0, 249);
            due(6, "one worth nothing up to the allowance", () -> x.repeat(1, 2, 560));
        });
        test("(Changes of settings, quotas and carried minutes do not remove shows that are there.)", () -> {
            StudioAirtime x = new StudioAirtime();
            x.add(true, 0, 0, 480, 60, 8);
            x.add(false, 0, 0, 1320, 60, 8);
            x.repeat(0, 1, 480);
            x.set(0, 720);
            x.set(1, 721);
            x.set(4, 100);
            x.set(5, 100);
            x.set(6, 0);
            x.setQuota(0, 0);
            due(3, "shows after changes", () -> x.count(1));
            x.closeWeek();
            x.set(7, 0);
            x.closeWeek();
            due(3, "shows after closed weeks", () -> x.count(1));
            due(480, "the start before the opening", () -> x.show(0, 3));
            due(1320, "the start behind the close", () -> x.show(1, 3));
            due(180, "the worths above the allowance", () -> x.group(0, 3));
            due(8, "the sponsor minutes above the limit", () -> x.sponsors(0, 22, false));
        });
    }

    private static void plansOfRepeats() {
        test("2: it is a repeat, and its original is a repeat;", () -> {
            StudioAirtime x = new StudioAirtime();
            x.add(false, 0, 0, 480, 10, 0);
            x.add(true, 0, 0, 500, 10, 0);
            x.repeat(0, 1, 480);
            x.repeat(1, 1, 500);
            refused(x, 2, "of the repeat of a tape", () -> x.repeat(2, 3, 480));
            refused(x, 2, "of the repeat of a live show", () -> x.repeat(3, 3, 480));
            refused(x, 2, "also before the opening", () -> x.repeat(3, 3, 0));
            due(4, "of a tape", () -> x.repeat(0, 3, 480));
            due(5, "of a live show", () -> x.repeat(1, 3, 500));
        });
        test("5: it is a repeat, and its start (in minutes of the week, 1440 * day + start) is less than that of its "
                + "original plus the length of its original plus 60 * (gap of repeats);", () -> {
            StudioAirtime x = new StudioAirtime();
            x.add(true, 0, 1, 600, 45, 0);
            x.overrun(0, 120);
            x.set(4, 1);
            refused(x, 5, "one too early on the day", () -> x.repeat(0, 1, 704));
            due(1, "just behind the gap", () -> x.repeat(0, 1, 705));
            refused(x, 5, "before its original", () -> x.repeat(0, 1, 480));
            refused(x, 5, "on an earlier day", () -> x.repeat(0, 0, 1300));
            x.set(4, 16);
            // 600 + 45 + 960 = 1605: the day behind, at 165.
            due(2, "on the next day", () -> x.repeat(0, 2, 480));
            x.set(4, 24);
            refused(x, 5, "one too early on the next day", () -> x.repeat(0, 2, 644));
            due(3, "on the next day behind the gap", () -> x.repeat(0, 2, 645));
            x.set(4, 100);
            // 1440 + 645 + 6000 = 8085: the day 5, at 885.
            refused(x, 5, "one too early after 100 hours", () -> x.repeat(0, 5, 884));
            due(4, "after 100 hours", () -> x.repeat(0, 5, 885));
            due(0, "a tape has no gap", () -> x.why(0, 1, 480, 45));
        });
    }

    private static void plansOfSponsors() {
        test("7: in some hour of its day there would be more planned sponsor minutes of all shows than "
                + "the sponsor limit.", () -> {
            StudioAirtime x = openAllDay();
            x.add(true, 0, 0, 600, 20, 4);
            refused(x, 7, "above the limit", () -> x.add(false, 1, 0, 620, 20, 5));
            due(1, "up to the limit", () -> x.add(false, 1, 0, 620, 20, 4));
            refused(x, 7, "one more", () -> x.add(false, 1, 0, 655, 5, 1));
            due(2, "none more", () -> x.add(false, 1, 0, 655, 5, 0));
            due(3, "the next hour", () -> x.add(false, 1, 0, 660, 5, 5));
            due(4, "the day behind", () -> x.add(false, 1, 1, 620, 20, 8));
            refused(x, 7, "the first hour", () -> x.add(false, 1, 0, 0, 20, 9));
            refused(x, 7, "the last hour", () -> x.add(false, 1, 0, 1420, 20, 9));
            refused(x, 7, "in the first of two hours", () -> x.add(false, 1, 0, 831, 30, 10));
            refused(x, 7, "in the second of two hours", () -> x.add(false, 1, 0, 835, 30, 14));
            due(4, "eight in each of two hours", () -> x.add(false, 1, 0, 832, 30, 16));
            x.set(6, 7);
            due(7, "another hour of the day is above a lower limit", () -> x.why(2, 0, 1000, 5));
            due(7, "so on the day behind", () -> x.why(2, 1, 1000, 5));
            due(0, "not on the day behind that", () -> x.why(2, 2, 1000, 5));
            x.set(6, 8);
            due(0, "up to the limit again", () -> x.why(2, 0, 1000, 5));
        });
        test("(The planned sponsor minutes of a show are its first minutes from its start on.)", () -> {
            StudioAirtime x = openAllDay();
            x.set(6, 30);
            x.add(true, 0, 0, 595, 100, 30);
            due(5, "before the hour", () -> x.sponsors(0, 9, false));
            due(25, "behind the hour", () -> x.sponsors(0, 10, false));
            due(0, "one hour further", () -> x.sponsors(0, 11, false));
            x.add(false, 0, 0, 770, 100, 10);
            due(10, "up to the hour's end", () -> x.sponsors(0, 12, false));
            due(0, "not behind it", () -> x.sponsors(0, 13, false));
            x.add(false, 0, 0, 899, 5, 1);
            due(1, "the last minute of an hour", () -> x.sponsors(0, 14, false));
            due(0, "not behind it", () -> x.sponsors(0, 15, false));
            x.set(0, 720);
            x.set(3, 240);
            due(5, "a delay does not matter", () -> x.sponsors(0, 9, false));
        });
    }

    // ---- on air

    private static void onAir() {
        section("On air");
        test("A day on air: a clock begins at the opening.", () -> {
            StudioAirtime x = openAllDay();
            due(0, "the clock of an empty day", () -> x.day(0, 6));
            x.add(true, 0, 0, 0, 5, 0);
            x.add(false, 0, 1, 0, 5, 0);
            due(0, "at the opening 0", () -> x.show(0, 8));
            x.set(0, 10);
            due(10, "at the opening 10, day 0", () -> x.show(0, 8));
            due(10, "at the opening 10, day 1", () -> x.show(1, 8));
            due(10, "its delay", () -> x.show(1, 10));
            due(15, "the clock behind it", () -> x.day(1, 6));
            due(10, "the clock of an empty day", () -> x.day(2, 6));
        });
        test("For each show of the day, in ascending order: it comes on air at the later one of its start and "
                + "the clock;", () -> {
            StudioAirtime x = new StudioAirtime();
            x.add(false, 1, 0, 545, 30, 0);
            x.add(true, 0, 0, 480, 60, 0);
            x.add(false, 1, 0, 575, 30, 0);
            int[][] overruns = {{0, 545, 575}, {4, 545, 575}, {5, 545, 575}, {6, 546, 576}, {65, 605, 635}, {-60, 545, 575}};
            for (int[] over : overruns) {
                x.overrun(0, over[0]);
                due(480, "the first show", () -> x.show(0, 8));
                due(over[1], "the second with " + over[0], () -> x.show(1, 8));
                due(over[2], "the third with " + over[0], () -> x.show(2, 8));
            }
        });
        test("its delay is how much later that is than its start.", () -> {
            StudioAirtime x = new StudioAirtime();
            x.add(true, 0, 0, 480, 60, 0);
            x.add(false, 1, 0, 540, 30, 0);
            int[][] delays = {{-1, 0}, {0, 0}, {1, 1}, {60, 60}, {61, 61}, {120, 120}};
            for (int[] delay : delays) {
                x.overrun(0, delay[0]);
                due(0, "the delay of the first", () -> x.show(0, 10));
                due(delay[1], "the delay behind " + delay[0], () -> x.show(1, 10));
            }
        });
        test("It is dropped if its delay is greater than the patience (that for live shows or, for tapes and repeats, "
                + "that for tapes), or if it would come on air at the close or after it.", () -> {
            StudioAirtime x = new StudioAirtime();
            x.add(true, 0, 0, 480, 10, 0);
            x.add(true, 0, 1, 480, 60, 0);
            x.add(true, 1, 1, 540, 5, 0);
            x.add(true, 0, 2, 480, 60, 0);
            x.add(false, 1, 2, 540, 5, 0);
            x.add(true, 0, 3, 480, 60, 0);
            x.repeat(0, 3, 540);
            int[][] fates = {{2, 1, 10}, {4, 3, 60}, {6, 5, 60}};
            for (int[] fate : fates) {
                x.overrun(fate[1], fate[2]);
                due(1, "with its patience's delay", () -> x.show(fate[0], 11));
                x.overrun(fate[1], fate[2] + 1);
                due(2, "with a delay of one more", () -> x.show(fate[0], 11));
                due(-1, "when it comes on air", () -> x.show(fate[0], 8));
            }
            StudioAirtime y = new StudioAirtime();
            y.add(false, 0, 0, 719, 60, 0);
            y.add(true, 0, 1, 722, 60, 0);
            int[][] closes = {{721, 4, 2, 2}, {722, 4, 3, 2}, {723, 4, 4, 1}};
            for (int[] close : closes) {
                y.set(1, close[0]);
                due(close[1], "before the close " + close[0], () -> y.show(0, 11));
                due(close[2], "its minutes", () -> y.show(0, 9));
                due(close[3] == 2 ? -1 : 722, "at the close " + close[0], () -> y.show(1, 8));
            }
            y.set(0, 720);
            y.set(1, 721);
            due(1, "the only minute of a day", () -> y.show(0, 9));
        });
        test("Then the clock is at its end.", () -> {
            StudioAirtime x = new StudioAirtime();
            x.add(true, 0, 0, 480, 60, 0);
            x.add(false, 1, 0, 540, 30, 0);
            due(570, "the clock behind the last show", () -> x.day(0, 6));
            x.overrun(0, 7);
            due(577, "the clock behind a delayed show", () -> x.day(0, 6));
            due(547, "the second starts at the end of the first", () -> x.show(1, 8));
        });
        test("(Dropped shows do not move the clock.", () -> {
            StudioAirtime x = new StudioAirtime();
            x.add(true, 0, 0, 480, 60, 0);
            x.add(true, 1, 0, 540, 20, 0);
            x.add(true, 2, 0, 560, 20, 0);
            x.overrun(0, 11);
            due(2, "the second is dropped", () -> x.show(1, 11));
            due(0, "the third is on time", () -> x.show(2, 11));
            x.overrun(0, 25);
            due(5, "the third has the first's delay alone", () -> x.show(2, 10));
            x.overrun(0, 31);
            due(2, "the third is dropped too", () -> x.show(2, 11));
            due(571, "the clock is behind the first", () -> x.day(0, 6));
        });
        noBoundary("A live show with a delay is broadcast from tape.)");
        test("The sponsor minutes of a show on air are its first minutes on air, as many as it has sponsor minutes, "
                + "but at most as many as it lasts.", () -> {
            StudioAirtime x = new StudioAirtime();
            x.add(true, 0, 0, 500, 60, 3);
            int[][] lasts = {{-56, 3}, {-57, 3}, {-58, 2}, {-59, 1}, {-60, 1}, {0, 3}, {120, 3}};
            for (int[] last : lasts) {
                x.overrun(0, last[0]);
                due(last[1], "with an overrun of " + last[0], () -> x.sponsors(0, 8, true));
                due(3, "as planned", () -> x.sponsors(0, 8, false));
            }
            x.add(false, 1, 0, 590, 20, 8);
            x.overrun(0, 32);
            due(8, "delayed up to the hour's end", () -> x.sponsors(0, 9, true));
            x.overrun(0, 33);
            due(7, "delayed across the hour", () -> x.sponsors(0, 9, true));
            due(1, "its last minute", () -> x.sponsors(0, 10, true));
            x.overrun(0, 91);
            due(0, "dropped", () -> x.sponsors(0, 10, true));
            x.add(false, 2, 1, 717, 20, 6);
            x.set(1, 722);
            due(3, "cut off, in its hour", () -> x.sponsors(1, 11, true));
            due(2, "cut off by the close", () -> x.sponsors(1, 12, true));
            due(3, "cut off, but planned", () -> x.sponsors(1, 12, false));
        });
    }

    private static void lengthOnAir() {
        test("Otherwise it lasts as long as its length, a live show its length plus its overrun, "
                + "but at least 1 minute;", () -> {
            int[][] lasts = {{5, -3, 2}, {5, -4, 1}, {5, -5, 1}, {5, -6, 1}, {5, -60, 1}, {60, -60, 1}, {61, -60, 1},
                {62, -60, 2}, {59, -60, 1}, {240, 120, 360}, {240, -60, 180}, {5, 0, 5}, {240, 0, 240}};
            for (int[] last : lasts) {
                StudioAirtime x = new StudioAirtime();
                x.setQuota(0, 2000);
                x.add(true, 0, 0, 480, last[0], 0);
                x.overrun(0, last[1]);
                due(last[2], last[0] + " minutes and " + last[1], () -> x.show(0, 9));
                due(480 + last[2], "the clock behind it", () -> x.day(0, 6));
                due(0, "nothing is cut off", () -> x.show(0, 11));
                x.add(false, 1, 1, 480, last[0], 0);
                due(last[0], "a tape", () -> x.show(1, 9));
                x.repeat(0, 2, 480);
                due(last[0], "a repeat", () -> x.show(2, 9));
            }
        });
        test("what would be after the close is cut off.", () -> {
            StudioAirtime x = new StudioAirtime();
            x.add(true, 0, 0, 1300, 60, 0);
            int[][] overs = {{19, 79, 0}, {20, 80, 0}, {21, 80, 4}, {120, 80, 4}};
            for (int[] over : overs) {
                x.overrun(0, over[0]);
                due(over[1], "minutes with " + over[0], () -> x.show(0, 9));
                due(over[2], "fate with " + over[0], () -> x.show(0, 11));
                due(1300 + over[1], "the clock with " + over[0], () -> x.day(0, 6));
            }
            x.add(false, 1, 1, 600, 60, 0);
            x.set(0, 601);
            due(60, "delayed, but not cut off", () -> x.show(1, 9));
            x.set(0, 661);
            due(2, "dropped", () -> x.show(1, 11));
            x.set(0, 480);
            x.add(true, 2, 2, 480, 240, 0);
            x.add(false, 2, 2, 720, 30, 0);
            x.overrun(2, 5);
            x.set(1, 755);
            due(1, "delayed up to the close", () -> x.show(3, 11));
            x.set(1, 754);
            due(5, "delayed and cut off", () -> x.show(3, 11));
            due(29, "what is left", () -> x.show(3, 9));
        });
    }

    // ---- weeks

    private static void weeks() {
        section("Weeks");
        test("Closing the week: for each group, the difference is its allowance minus the sum of the worths of the "
                + "minutes of its shows on air.", () -> {
            StudioAirtime x = new StudioAirtime();
            x.set(7, 600);
            x.add(true, 0, 0, 480, 60, 0);
            x.add(true, 0, 0, 540, 60, 0);
            x.add(false, 2, 1, 480, 9, 0);
            x.repeat(2, 2, 480);
            x.repeat(2, 2, 490);
            x.overrun(0, 11);
            // Group 0: the second show is dropped, so 300 - 71; group 2: 300 - 9 - 4 - 4.
            x.closeWeek();
            due(229, "the difference of the group 0", () -> x.group(0, 1));
            due(300, "of a group without shows", () -> x.group(1, 1));
            due(283, "with repeats, each truncated by itself", () -> x.group(2, 1));
            due(300, "of the last group", () -> x.group(5, 1));
            x.closeWeek();
            due(229 + 300 - 120, "with an allowance that was carried", () -> x.group(0, 1));
            StudioAirtime y = new StudioAirtime();
            y.add(false, 0, 0, 480, 100, 0);
            y.setQuota(0, 100);
            y.closeWeek();
            due(0, "a difference of 0", () -> y.group(0, 1));
            y.setQuota(0, 99);
            y.closeWeek();
            due(-1, "a difference below 0", () -> y.group(0, 1));
        });
        test("Its carried minutes become the difference, clamped to minus the carry limit to the carry limit;", () -> {
            int[][] weeks = {{179, -121, -120}, {180, -120, -120}, {181, -119, -119}, {299, -1, -1}, {300, 0, 0},
                {419, 119, 119}, {420, 120, 120}, {421, 121, 120}, {2000, 1700, 120}, {0, -300, -120}};
            for (int[] week : weeks) {
                StudioAirtime x = new StudioAirtime();
                x.add(false, 3, 0, 480, 240, 0);
                x.add(false, 3, 1, 480, 60, 0);
                x.setQuota(3, week[0]);
                x.closeWeek();
                due(week[2], "carried of " + week[1], () -> x.group(3, 1));
            }
        });
        test("the rest of the difference is lost (it can be negative).", () -> {
            int[][] weeks = {{0, -180}, {179, -1}, {180, 0}, {300, 0}, {420, 0}, {421, 1}, {2000, 1580}};
            for (int[] week : weeks) {
                StudioAirtime x = new StudioAirtime();
                x.add(false, 3, 0, 480, 240, 0);
                x.add(false, 3, 1, 480, 60, 0);
                x.setQuota(3, week[0]);
                x.closeWeek();
                due(week[1], "lost with a quota of " + week[0], () -> x.group(3, 8));
            }
        });
        test("The minutes on air and what is lost are added to the accounts of the group, as well as its quota.", () -> {
            StudioAirtime x = new StudioAirtime();
            x.add(true, 4, 0, 480, 60, 0);
            x.repeat(0, 1, 480);
            for (int what = 6; what <= 8; what++) {
                int account = what;
                due(0, "the account " + what + " at first", () -> x.group(4, account));
            }
            x.overrun(0, 5);
            x.closeWeek();
            // 300 - 65 - 30 = 205: 120 are carried, 85 lost.
            due(300, "quotas", () -> x.group(4, 6));
            due(95, "minutes on air", () -> x.group(4, 7));
            due(85, "lost", () -> x.group(4, 8));
            x.setQuota(4, 100);
            x.closeWeek();
            // 100 + 120 - 90 = 130: 10 are lost.
            due(400, "quotas of two weeks", () -> x.group(4, 6));
            due(185, "minutes on air of two weeks", () -> x.group(4, 7));
            due(95, "lost in two weeks", () -> x.group(4, 8));
            x.setQuota(4, 0);
            x.set(7, 0);
            x.closeWeek();
            x.closeWeek();
            // 0 + 120 - 90 = 30, then 0 - 90.
            due(400, "quotas with a quota of 0", () -> x.group(4, 6));
            due(365, "minutes on air of four weeks", () -> x.group(4, 7));
            due(95 + 30 - 90, "lost, and gained", () -> x.group(4, 8));
            due(1200, "another group's quotas", () -> x.group(0, 6));
            due(0, "another group's minutes", () -> x.group(0, 7));
        });
        test("Then all overruns become 0, and the week number (at first 0, at most 1000) increases by 1.", () -> {
            StudioAirtime x = new StudioAirtime();
            x.add(true, 0, 0, 480, 60, 0);
            x.add(true, 0, 6, 480, 60, 0);
            x.overrun(0, 120);
            x.overrun(1, -60);
            due(0, "the week at first", () -> x.count(0));
            due(1, "closeWeek()", x::closeWeek);
            due(0, "the first overrun", () -> x.show(0, 6));
            due(0, "the last overrun", () -> x.show(1, 6));
            due(1, "the week then", () -> x.count(0));
            // The greatest number lies behind 512 calls; the program keeps to it all the same.
            StudioAirtime y = new StudioAirtime();
            for (int i = 1; i < 1000; i++) {
                y.closeWeek();
            }
            due(1000, "the last week", y::closeWeek);
            throwsState("closeWeek() in the last week", y::closeWeek);
            due(1000, "the week stays", () -> y.count(0));
        });
    }

    // ---- texts

    /** Of all characters that can be typed, just these may stand behind the beginning. */
    private static void mayFollow(String beginning, String characters) {
        for (int code = 33; code <= 126; code++) {
            StudioAirtime x = typed(beginning);
            x.append(code);
            int length = beginning.length();
            int want = characters.indexOf(code) >= 0 ? length + 1 : length;
            due(want, "firstError of " + beginning + (char) code, x::firstError);
        }
    }

    private static void loads(String text) {
        StudioAirtime x = typed(text);
        due(text.length(), "firstError of " + text, x::firstError);
        x.load();
        due(0, "the buffer behind load of " + text, x::clearBuffer);
    }

    private static void loadsNot(String text) {
        StudioAirtime x = typed(text);
        throwsArgument("load of " + text, x::load);
        due(text.length(), "the buffer behind " + text, x::clearBuffer);
    }

    private static void texts() {
        section("Input text");
        String digits = "0123456789";
        test("The buffer has at most 60 characters.", () -> {
            StudioAirtime x = new StudioAirtime();
            for (int i = 1; i <= 60; i++) {
                due(i, "append", () -> x.append('L'));
            }
            throwsState("a 61st character", () -> x.append('L'));
            due(60, "the length", x::clearBuffer);
            due(1, "after it is cleared", () -> x.append('L'));
        });
        test("A text is one or more shows separated by \";\".", () -> {
            loadsNot("");
            loadsNot(";");
            loads("T0.0@480+5");
            loadsNot("T0.0@480+5;");
            loadsNot(";T0.0@480+5");
            loads("T0.0@480+5;T0.0@490+5");
            loadsNot("T0.0@480+5;;T0.0@490+5");
            loadsNot("T0.0@480+5T0.0@490+5");
            loadsNot("T0.0@480+5,T0.0@490+5");
            loads("R0.0@0;R0.0@0;R0.0@0;R0.0@0;R0.0@0;R0.0@0;R0.0@0;R0.0@0");
            mayFollow("", "LTR");
            mayFollow("T0.0@480+5;", "LTR");
            mayFollow("R0.0@0;", "LTR");
        });
        test("A live show or a tape is written as \"L\" or \"T\", the digit of its group (0 to 5), \".\", the digit of "
                + "its day (0 to 6), \"@\", its start, \"+\", its length, and possibly \":\" and its sponsor minutes.", () -> {
            for (String sign : new String[] {"L", "T"}) {
                mayFollow(sign, "012345");
                mayFollow(sign + "0", ".");
                mayFollow(sign + "5", ".");
                mayFollow(sign + "5.", "0123456");
                mayFollow(sign + "0.0", "@");
                mayFollow(sign + "5.6", "@");
                mayFollow(sign + "5.6@", digits);
                mayFollow(sign + "5.6@1", digits + "+");
                mayFollow(sign + "5.6@1439", "+");
                mayFollow(sign + "5.6@0+", digits);
                mayFollow(sign + "5.6@0+7", digits + ":;");
                mayFollow(sign + "5.6@0+7:", digits);
                mayFollow(sign + "5.6@0+7:5", digits + ";");
                loadsNot(sign);
                loadsNot(sign + "5");
                loadsNot(sign + "5.");
                loadsNot(sign + "5.6");
                loadsNot(sign + "5.6@");
                loadsNot(sign + "5.6@480");
                loadsNot(sign + "5.6@480+");
                loads(sign + "5.6@480+7");
                loadsNot(sign + "5.6@480+7:");
                loads(sign + "5.6@480+7:5");
            }
            StudioAirtime x = typed("L5.6@1139+240:8;T0.0@480+5");
            due(2, "load()", x::load);
            int[][] shows = {{1, 0, 0, 480, 5, 0}, {0, 5, 6, 1139, 240, 8}};
            for (int i = 0; i < 12; i++) {
                int show = i / 6;
                int what = i % 6;
                due(shows[show][what], "show(" + show + ", " + what + ")", () -> x.show(show, what));
            }
        });
        test("A repeat is written as \"R\", the number of its original (as shows are numbered when the repeat is added, "
                + "with those that the text has added before it), \".\", the digit of its day, \"@\", and its start.", () -> {
            mayFollow("R", digits);
            mayFollow("R0", ".");
            mayFollow("R2", digits + ".");
            mayFollow("R23", digits + ".");
            mayFollow("R9999", ".");
            mayFollow("R0.", "0123456");
            mayFollow("R0.6", "@");
            mayFollow("R0.6@", digits);
            mayFollow("R0.6@0", ";");
            mayFollow("R0.6@5", digits + ";");
            mayFollow("R0.6@9999", ";");
            loadsNot("R");
            loadsNot("R0");
            loadsNot("R0.");
            loadsNot("R0.6");
            loadsNot("R0.6@");
            loads("R0.6@480");
            StudioAirtime x = typed("T1.1@600+30;R0.2@600;L2.0@480+60;R1.3@600;R0.1@700;R4.4@600");
            // The tape is number 0, with the live show before it number 1; the number 4 is then its last repeat.
            due(5, "load()", x::load);
            due(2, "the repeat of a repeat", x::reason);
            int[] originals = {-1, -1, 0, 1, 1};
            for (int i = 0; i < 5; i++) {
                int show = i;
                due(originals[i], "the original of " + i, () -> x.show(show, 7));
            }
            StudioAirtime y = typed("R0.2@600;T1.1@600+30");
            due(0, "load() of a repeat before its original", y::load);
            due(20, "its reason", y::reason);
        });
        test("Numbers have 1 to 4 digits and no leading zeros (\"0\" is allowed).", () -> {
            for (String before : new String[] {"L0.0@", "T0.0@600+", "L0.0@600+30:", "R", "R0.0@"}) {
                String behind = before.endsWith("0@") && before.startsWith("L") ? "+" : before.endsWith("+") ? ":;"
                        : before.equals("R") ? "." : ";";
                mayFollow(before, digits);
                mayFollow(before + "0", behind);
                mayFollow(before + "1", digits + behind);
                mayFollow(before + "10", digits + behind);
                mayFollow(before + "100", digits + behind);
                mayFollow(before + "1000", behind);
                mayFollow(before + "9999", behind);
            }
        });
        test("The buffer is read from left to right;", () -> {
            due(0, "the first of two errors", () -> typed("xL0.0x").firstError());
            due(5, "the second alone", () -> typed("L0.0@x600").firstError());
            due(7, "an error behind a show", () -> typed("R0.0@0;x;x").firstError());
        });
        test("a character is a syntax error if no text, of any length, begins with the characters before it and "
                + "this character.", () -> {
            String twelve = "L0.0@600+60;";
            String sixty = twelve + twelve + twelve + twelve + twelve;
            StudioAirtime x = typed(sixty);
            due(60, "firstError of 60 characters that could go on", x::firstError);
            throwsArgument("load of them", x::load);
            StudioAirtime y = typed(sixty.substring(0, 59) + ":");
            due(60, "firstError with another end", y::firstError);
            StudioAirtime z = typed(sixty.substring(0, 59) + "@");
            due(59, "firstError with the last character wrong", z::firstError);
            due(0, "firstError with the first character wrong", () -> typed("l" + sixty.substring(1)).firstError());
        });
        test("(That a number is out of its range is no syntax error.)", () -> {
            String[] texts = {"L0.0@9999+60", "L0.0@1440+60", "T0.0@600+0", "T0.0@600+4", "T0.0@600+241",
                "T0.0@600+9999", "T0.0@600+60:31", "T0.0@600+60:9999", "T0.0@600+5:6", "R9999.0@600", "R0.0@9999",
                "R24.0@1440"};
            for (String text : texts) {
                StudioAirtime x = typed(text);
                due(text.length(), "firstError of " + text, x::firstError);
                due(0, "load of " + text, x::load);
                due(20, "reason of " + text, x::reason);
            }
        });
    }

    // ---- undo, exceptions

    private static void undo() {
        section("Undo");
        test("Each method that is marked \"undoable\" and does not throw an exception saves the state from before it "
                + "(all but the buffer, the latest reason and the saved states).", () -> {
            StudioAirtime x = new StudioAirtime();
            undoable(x, "set(0, 481)", () -> x.set(0, 481));
            undoable(x, "setQuota(5, 0)", () -> x.setQuota(5, 0));
            undoable(x, "add", () -> x.add(true, 0, 3, 600, 60, 5));
            x.add(true, 0, 3, 600, 60, 5);
            undoable(x, "repeat", () -> x.repeat(0, 4, 600));
            undoable(x, "overrun(0, 7)", () -> x.overrun(0, 7));
            undoable(x, "closeWeek()", x::closeWeek);
            undoable(x, "remove(0)", () -> x.remove(0));
            StudioAirtime all = beforeExceptions();
            undoable(all, "add before shows of each kind", () -> all.add(false, 5, 0, 540, 7, 7));
            undoable(all, "remove(1) of shows of each kind", () -> all.remove(1));
            undoable(all, "closeWeek() with shows of each kind", all::closeWeek);
            // The same value again is a call that does not throw, too.
            due(480, "set(0, 480)", () -> x.set(0, 480));
            due(300, "setQuota(0, 300)", () -> x.setQuota(0, 300));
            due(0, "overrun(0, 0)", () -> x.overrun(0, 0));
            due(4, "saved states", () -> x.count(6));
            throwsArgument("set(0, -1)", () -> x.set(0, -1));
            throwsState("add in the way", () -> x.add(true, 0, 3, 600, 60, 0));
            due(4, "saved states behind exceptions", () -> x.count(6));
            type(x, "T0.0@600+30");
            due(1, "load()", x::load);
            due(5, "saved states behind load", () -> x.count(6));
            throwsState("add before the opening", () -> x.add(true, 0, 3, 0, 60, 0));
            type(x, "LT");
            due(4, "undo()", x::undo);
            due(1, "shows behind undo", () -> x.count(1));
            due(3, "the latest reason is as before undo", x::reason);
            due(2, "the buffer is as before undo", x::clearBuffer);
        });
        test("At most 6 states are saved;", () -> {
            StudioAirtime x = new StudioAirtime();
            for (int i = 1; i <= 14; i++) {
                x.setQuota(0, i);
                due(Math.min(i, 6), "saved states behind " + i, () -> x.count(6));
            }
            for (int left = 5; left >= 0; left--) {
                due(left, "undo()", x::undo);
            }
            throwsState("a seventh undo()", x::undo);
        });
        test("the oldest one is dropped first.", () -> {
            for (int changes : new int[] {5, 6, 7, 8, 13}) {
                StudioAirtime x = new StudioAirtime();
                for (int i = 1; i <= changes; i++) {
                    x.setQuota(0, i);
                }
                for (int i = changes - 1; i >= Math.max(0, changes - 6); i--) {
                    x.undo();
                    due(i == 0 ? 300 : i, "the quota behind undo", () -> x.group(0, 0));
                }
                due(0, "saved states", () -> x.count(6));
            }
        });
    }

    private static StudioAirtime beforeExceptions() {
        StudioAirtime x = new StudioAirtime();
        x.add(true, 0, 0, 480, 60, 3);
        x.add(false, 1, 1, 480, 30, 3);
        x.repeat(0, 2, 480);
        x.overrun(0, 30);
        type(x, "T0.0@600+");
        return x;
    }

    private static void exceptions() {
        section("Exceptions");
        test("A call that throws an exception changes nothing but, where it is told, the latest reason "
                + "(0 at first);", () -> {
            due(0, "the reason at first", () -> new StudioAirtime().reason());
            StudioAirtime x = beforeExceptions();
            changesNothing(x, "set(8, 0)", () -> x.set(8, 0));
            changesNothing(x, "set(0, 721)", () -> x.set(0, 721));
            changesNothing(x, "setQuota(6, 0)", () -> x.setQuota(6, 0));
            changesNothing(x, "setQuota(0, 2001)", () -> x.setQuota(0, 2001));
            changesNothing(x, "add with a wrong day", () -> x.add(true, 0, 7, 600, 60, 0));
            changesNothing(x, "repeat of no show", () -> x.repeat(3, 4, 600));
            changesNothing(x, "repeat on a wrong day", () -> x.repeat(0, 7, 600));
            changesNothing(x, "remove(3)", () -> x.remove(3));
            changesNothing(x, "remove(-1)", () -> x.remove(-1));
            changesNothing(x, "overrun(3, 0)", () -> x.overrun(3, 0));
            changesNothing(x, "overrun(0, 121)", () -> x.overrun(0, 121));
            changesNothing(x, "overrun(1, 1)", () -> x.overrun(1, 1));
            changesNothing(x, "append(127)", () -> x.append(127));
            changesNothing(x, "load()", x::load);
            changesNothing(x, "show(3, 0)", () -> x.show(3, 0));
            changesNothing(x, "ifOverrun of a tape", () -> x.ifOverrun(1, 1, 0));
            changesNothing(x, "greatestOverrun of a tape", () -> x.greatestOverrun(1));
            long before = x.digest();
            refused(x, 3, "a show before the opening", () -> x.add(true, 0, 3, 0, 60, 0));
            changesNothing(x, "the same again", () -> x.add(true, 0, 3, 0, 60, 0));
            refused(x, 5, "a repeat without a gap", () -> x.repeat(1, 1, 510));
            changesNothing(x, "the same again", () -> x.repeat(1, 1, 510));
            x.undo();
            due(0, "the overrun behind undo", () -> x.show(0, 6));
            x.overrun(0, 30);
            x.add(true, 0, 3, 600, 5, 0);
            x.undo();
            due(before, "digest() with the reason 0 again", x::digest);
            StudioAirtime none = new StudioAirtime();
            changesNothing(none, "undo() without a state", none::undo);
            StudioAirtime full = typed("L".repeat(60));
            changesNothing(full, "append to a full buffer", () -> full.append('L'));
        });
        test("exceptions for arguments leave it as it is.", () -> {
            StudioAirtime x = beforeExceptions();
            for (int reason : new int[] {0, 3}) {
                if (reason == 3) {
                    throwsState("a show before the opening", () -> x.add(true, 0, 3, 0, 60, 0));
                }
                throwsArgument("add with a wrong group", () -> x.add(true, 6, 3, 0, 60, 0));
                due(reason, "the reason behind add", x::reason);
                throwsIndex("repeat of no show", () -> x.repeat(3, 3, 0));
                due(reason, "the reason behind repeat of no show", x::reason);
                throwsArgument("repeat at a wrong start", () -> x.repeat(0, 3, 1440));
                due(reason, "the reason behind repeat at a wrong start", x::reason);
                throwsArgument("load", x::load);
                due(reason, "the reason behind load", x::reason);
                throwsArgument("why with a wrong length", () -> x.why(0, 0, 600, 4));
                due(reason, "the reason behind why", x::reason);
            }
        });
        test("If several exceptions apply, the one that is named first in the throws clause is thrown.", () -> {
            StudioAirtime x = beforeExceptions();
            throwsIndex("set: no setting, a wrong value", () -> x.set(8, -1));
            throwsIndex("set: no setting, a wrong value", () -> x.set(-1, 2000));
            throwsIndex("setQuota: no group, wrong minutes", () -> x.setQuota(6, -1));
            throwsArgument("add: a wrong day, a refusal", () -> x.add(true, 0, 7, 0, 60, 0));
            throwsArgument("add: wrong sponsor minutes, a refusal", () -> x.add(true, 0, 0, 480, 5, 6));
            throwsIndex("repeat: no show, a wrong day, a refusal", () -> x.repeat(3, 7, 0));
            throwsArgument("repeat: a wrong day, a refusal", () -> x.repeat(0, 7, 0));
            throwsArgument("repeat: a wrong start, a repeat of a repeat", () -> x.repeat(2, 0, 1440));
            throwsIndex("overrun: no show, a wrong overrun", () -> x.overrun(3, 121));
            throwsArgument("overrun: a wrong overrun, no live show", () -> x.overrun(1, 121));
            StudioAirtime full = typed("L".repeat(60));
            throwsArgument("append: a wrong code, a full buffer", () -> full.append(32));
            throwsIndex("show: no show, a wrong what", () -> x.show(3, 12));
            throwsIndex("group: no group, a wrong what", () -> x.group(6, 9));
            throwsIndex("day: no day, a wrong what", () -> x.day(7, 8));
            throwsIndex("ifOverrun: no show, a wrong overrun", () -> x.ifOverrun(3, 121, 8));
            throwsArgument("ifOverrun: a wrong overrun, no live show", () -> x.ifOverrun(1, 121, 0));
            throwsArgument("ifOverrun: a wrong what, no live show", () -> x.ifOverrun(2, 0, 8));
            throwsIndex("greatestOverrun: no show", () -> x.greatestOverrun(3));
        });
        test("The constants: `NONE = -1`: There is nothing to return.", () -> {
            due(-1, "NONE", () -> StudioAirtime.NONE);
            StudioAirtime x = new StudioAirtime();
            x.add(false, 0, 6, 1300, 80, 0);
            x.set(0, 720);
            x.set(1, 1300);
            due(StudioAirtime.NONE, "the original of a tape", () -> x.show(0, 7));
            due(StudioAirtime.NONE, "when a dropped show comes on air", () -> x.show(0, 8));
            due(StudioAirtime.NONE, "firstRepeat", () -> x.firstRepeat(0));
            x.setQuota(0, 84);
            due(StudioAirtime.NONE, "firstTime", () -> x.firstTime(0, 0, 5));
        });
        noBoundary("Ahead of the calls `set`", "Ahead of the calls `add`", "Ahead of the calls `append`",
                "Ahead of the calls `reason`", "Ahead of the calls `why`");
        test("nothing is changed.", () -> {
            StudioAirtime x = beforeExceptions();
            changesNothing(x, "why", () -> x.why(5, 6, 1375, 5));
            changesNothing(x, "why, refused", () -> x.why(5, 6, 1376, 5));
            changesNothing(x, "firstTime", () -> x.firstTime(0, 0, 5));
            changesNothing(x, "firstRepeat", () -> x.firstRepeat(0));
            changesNothing(x, "ifOverrun", () -> x.ifOverrun(0, 120, 2));
            changesNothing(x, "greatestOverrun", () -> x.greatestOverrun(0));
            changesNothing(x, "share", () -> (long) x.share());
            changesNothing(x, "digest", x::digest);
            due(4, "saved states", () -> x.count(6));
        });
    }
}
