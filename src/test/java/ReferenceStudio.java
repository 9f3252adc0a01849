import java.util.ArrayDeque;
import java.util.ArrayList;
import java.util.Comparator;
import java.util.Deque;
import java.util.List;
import java.util.regex.Matcher;
import java.util.regex.Pattern;

/**
 * The document once more, in another way than the program: minute by minute,
 * by trying out, and with the whole Java library. RandomRunsTest compares the two.
 */
final class ReferenceStudio {
    private static final String NUMBER = "(?:0|[1-9][0-9]{0,3})";
    private static final String SHOW = "(?:[LT][0-5]\\.[0-6]@" + NUMBER + "\\+" + NUMBER + "(?::" + NUMBER + ")?"
            + "|R" + NUMBER + "\\.[0-6]@" + NUMBER + ")";
    private static final Pattern TEXT = Pattern.compile(SHOW + "(?:;" + SHOW + ")*");
    private static final Pattern FIELDS = Pattern.compile("([LTR])(\\d+)\\.(\\d)@(\\d+)(?:\\+(\\d+))?(?::(\\d+))?");

    static final class Show {
        boolean live;
        Show original;
        int group;
        int day;
        int start;
        int length;
        int sponsors;
        int overrun;
        int onAir;
        int minutes;
        int delay;
        boolean cut;

        int kind() {
            return original != null ? 2 : live ? 0 : 1;
        }

        int week() {
            return 1440 * day + start;
        }
    }

    private static final class State {
        int[] settings = {480, 1380, 10, 60, 20, 50, 8, 120};
        int[] quotas = {300, 300, 300, 300, 300, 300};
        int[] carried = new int[6];
        int[][] accounts = new int[6][3];
        int week;
        List<Show> shows = new ArrayList<>();

        State copy() {
            State copy = new State();
            copy.settings = settings.clone();
            copy.quotas = quotas.clone();
            copy.carried = carried.clone();
            for (int g = 0; g < 6; g++) {
                copy.accounts[g] = accounts[g].clone();
            }
            copy.week = week;
            for (Show show : shows) {
                Show twin = new Show();
                twin.live = show.live;
                twin.group = show.group;
                twin.day = show.day;
                twin.start = show.start;
                twin.length = show.length;
                twin.sponsors = show.sponsors;
                twin.overrun = show.overrun;
                copy.shows.add(twin);
            }
            for (int i = 0; i < shows.size(); i++) {
                if (shows.get(i).original != null) {
                    copy.shows.get(i).original = copy.shows.get(shows.indexOf(shows.get(i).original));
                }
            }
            return copy;
        }
    }

    private State s = new State();
    private final Deque<State> saved = new ArrayDeque<>();
    private final StringBuilder buffer = new StringBuilder();
    private int reason;

    private void save() {
        saved.push(s.copy());
        if (saved.size() > 6) {
            saved.removeLast();
        }
    }

    private Show existing(int show) {
        if (show < 0 || show >= s.shows.size()) {
            throw new IndexOutOfBoundsException();
        }
        return s.shows.get(show);
    }

    private static void index(int value, int bound) {
        if (value < 0 || value >= bound) {
            throw new IndexOutOfBoundsException();
        }
    }

    private static void argument(int value, int least, int greatest) {
        if (value < least || value > greatest) {
            throw new IllegalArgumentException();
        }
    }

    int set(int setting, int value) {
        index(setting, 8);
        int[][] ranges = {{0, 720}, {721, 1440}, {0, 120}, {0, 240}, {1, 100}, {0, 100}, {0, 30}, {0, 600}};
        argument(value, ranges[setting][0], ranges[setting][1]);
        save();
        int previous = s.settings[setting];
        s.settings[setting] = value;
        return previous;
    }

    int setQuota(int group, int minutes) {
        index(group, 6);
        argument(minutes, 0, 2000);
        save();
        int previous = s.quotas[group];
        s.quotas[group] = minutes;
        return previous;
    }

    private static Show proposal(boolean live, int group, int day, int start, int length, int sponsors) {
        argument(group, 0, 5);
        argument(day, 0, 6);
        argument(start, 0, 1439);
        argument(length, 5, 240);
        argument(sponsors, 0, 30);
        argument(sponsors, 0, length);
        Show show = new Show();
        show.live = live;
        show.group = group;
        show.day = day;
        show.start = start;
        show.length = length;
        show.sponsors = sponsors;
        return show;
    }

    private Show repeatOf(int original, int day, int start) {
        Show first = existing(original);
        Show show = proposal(false, first.group, day, start, first.length, 0);
        show.original = first;
        return show;
    }

    private int worth(Show show, int minutes) {
        return show.original != null ? minutes * s.settings[5] / 100 : minutes;
    }

    private int refusal(Show wish) {
        if (s.shows.size() == 24) {
            return 1;
        }
        if (wish.original != null && wish.original.original != null) {
            return 2;
        }
        if (wish.start < s.settings[0] || wish.start + wish.length > s.settings[1]) {
            return 3;
        }
        boolean[] taken = new boolean[1440];
        for (Show show : s.shows) {
            for (int m = show.start; show.day == wish.day && m < show.start + show.length; m++) {
                taken[m] = true;
            }
        }
        for (int m = wish.start; m < wish.start + wish.length; m++) {
            if (taken[m]) {
                return 4;
            }
        }
        if (wish.original != null
                && wish.week() < wish.original.week() + wish.original.length + 60 * s.settings[4]) {
            return 5;
        }
        int sum = worth(wish, wish.length);
        for (Show show : s.shows) {
            sum += show.group == wish.group ? worth(show, show.length) : 0;
        }
        if (sum > s.quotas[wish.group] + s.carried[wish.group]) {
            return 6;
        }
        int[] hours = new int[24];
        List<Show> all = new ArrayList<>(s.shows);
        all.add(wish);
        for (Show show : all) {
            for (int m = show.start; show.day == wish.day && m < show.start + show.sponsors; m++) {
                hours[m / 60]++;
            }
        }
        for (int minutes : hours) {
            if (minutes > s.settings[6]) {
                return 7;
            }
        }
        return 0;
    }

    private int enter(Show wish) {
        s.shows.add(wish);
        s.shows.sort(Comparator.comparingInt(Show::week));
        return s.shows.indexOf(wish);
    }

    private int enterOrRefuse(Show wish) {
        reason = refusal(wish);
        if (reason != 0) {
            throw new IllegalStateException();
        }
        save();
        return enter(wish);
    }

    int add(boolean live, int group, int day, int start, int length, int sponsors) {
        return enterOrRefuse(proposal(live, group, day, start, length, sponsors));
    }

    int repeat(int original, int day, int start) {
        return enterOrRefuse(repeatOf(original, day, start));
    }

    int remove(int show) {
        Show gone = existing(show);
        save();
        int before = s.shows.size();
        s.shows.removeIf(other -> other == gone || other.original == gone);
        return before - s.shows.size();
    }

    int overrun(int show, int by) {
        Show changed = existing(show);
        argument(by, -60, 120);
        if (!changed.live) {
            throw new IllegalStateException();
        }
        save();
        int previous = changed.overrun;
        changed.overrun = by;
        return previous;
    }

    /** Walks through the minutes of each day. */
    private void broadcast() {
        for (Show show : s.shows) {
            show.onAir = -1;
            show.minutes = 0;
            show.delay = 0;
            show.cut = false;
        }
        for (int d = 0; d < 7; d++) {
            broadcastDay(d);
        }
    }

    private int broadcastDay(int d) {
        int clock = s.settings[0];
        for (Show show : s.shows) {
            if (show.day != d) {
                continue;
            }
            int at = clock;
            while (at < show.start) {
                at++;
            }
            show.delay = at - show.start;
            if (show.delay > (show.live ? s.settings[2] : s.settings[3]) || at >= s.settings[1]) {
                continue;
            }
            show.onAir = at;
            int wanted = show.live ? show.length + show.overrun : show.length;
            do {
                at++;
                wanted--;
                show.minutes++;
            } while (wanted > 0 && at < s.settings[1]);
            show.cut = wanted > 0;
            clock = at;
        }
        return clock;
    }

    private int dayMinutes(int group) {
        int sum = 0;
        for (Show show : s.shows) {
            sum += show.group == group ? worth(show, show.minutes) : 0;
        }
        return sum;
    }

    int closeWeek() {
        if (s.week == 1000) {
            throw new IllegalStateException();
        }
        save();
        broadcast();
        for (int g = 0; g < 6; g++) {
            int onAir = dayMinutes(g);
            int difference = s.quotas[g] + s.carried[g] - onAir;
            int kept = difference;
            while (kept > s.settings[7]) {
                kept--;
            }
            while (kept < -s.settings[7]) {
                kept++;
            }
            s.carried[g] = kept;
            s.accounts[g][0] += s.quotas[g];
            s.accounts[g][1] += onAir;
            s.accounts[g][2] += difference - kept;
        }
        s.shows.forEach(show -> show.overrun = 0);
        return ++s.week;
    }

    int append(int code) {
        argument(code, 33, 126);
        if (buffer.length() == 60) {
            throw new IllegalStateException();
        }
        buffer.append((char) code);
        return buffer.length();
    }

    int clearBuffer() {
        int length = buffer.length();
        buffer.setLength(0);
        return length;
    }

    int firstError() {
        for (int i = 0; i < buffer.length(); i++) {
            Matcher matcher = TEXT.matcher(buffer.substring(0, i + 1));
            if (!matcher.matches() && !matcher.hitEnd()) {
                return i;
            }
        }
        return buffer.length();
    }

    int load() {
        if (!TEXT.matcher(buffer).matches()) {
            throw new IllegalArgumentException();
        }
        save();
        int added = 0;
        reason = 0;
        for (String part : buffer.toString().split(";")) {
            Matcher fields = FIELDS.matcher(part);
            if (!fields.matches()) {
                throw new AssertionError(part);
            }
            try {
                Show wish = read(fields);
                reason = refusal(wish);
                if (reason == 0) {
                    enter(wish);
                }
            } catch (IllegalArgumentException | IndexOutOfBoundsException outOfRange) {
                reason = 20;
            }
            if (reason != 0) {
                break;
            }
            added++;
        }
        buffer.setLength(0);
        return added;
    }

    private Show read(Matcher fields) {
        int first = Integer.parseInt(fields.group(2));
        int day = Integer.parseInt(fields.group(3));
        int start = Integer.parseInt(fields.group(4));
        if (fields.group(1).equals("R")) {
            return repeatOf(first, day, start);
        }
        int sponsors = fields.group(6) == null ? 0 : Integer.parseInt(fields.group(6));
        return proposal(fields.group(1).equals("L"), first, day, start, Integer.parseInt(fields.group(5)), sponsors);
    }

    int undo() {
        if (saved.isEmpty()) {
            throw new IllegalStateException();
        }
        s = saved.pop();
        return saved.size();
    }

    int reason() {
        return reason;
    }

    int show(int number, int what) {
        Show show = existing(number);
        argument(what, 0, 11);
        broadcast();
        int fate = show.onAir < 0 ? 2 : show.delay > 0 ? 1 : 0;
        int[] all = {show.kind(), show.group, show.day, show.start, show.length, show.sponsors, show.overrun,
            s.shows.indexOf(show.original), show.onAir, show.minutes, show.delay, fate + (show.cut ? 4 : 0)};
        return all[what];
    }

    int group(int group, int what) {
        index(group, 6);
        argument(what, 0, 8);
        broadcast();
        int lengths = 0;
        int shows = 0;
        for (Show show : s.shows) {
            if (show.group == group) {
                lengths += worth(show, show.length);
                shows++;
            }
        }
        int[] all = {s.quotas[group], s.carried[group], s.quotas[group] + s.carried[group], lengths,
            dayMinutes(group), shows, s.accounts[group][0], s.accounts[group][1], s.accounts[group][2]};
        return all[what];
    }

    int sponsors(int day, int hour, boolean onAir) {
        index(day, 7);
        index(hour, 24);
        broadcast();
        int sum = 0;
        for (Show show : s.shows) {
            int from = onAir ? show.onAir : show.start;
            int minutes = onAir ? Math.min(show.sponsors, show.minutes) : show.sponsors;
            for (int m = from; show.day == day && m < from + minutes; m++) {
                sum += m / 60 == hour ? 1 : 0;
            }
        }
        return sum;
    }

    int day(int day, int what) {
        index(day, 7);
        argument(what, 0, 7);
        broadcast();
        int[] all = new int[8];
        for (Show show : s.shows) {
            if (show.day == day) {
                all[0]++;
                all[1] += show.length;
                all[2] += show.minutes;
                all[3] += show.onAir >= 0 && show.delay > 0 ? 1 : 0;
                all[4] += show.onAir < 0 ? 1 : 0;
                all[5] += show.onAir >= 0 ? show.delay : 0;
            }
        }
        all[6] = s.settings[0];
        for (Show show : s.shows) {
            if (show.day == day && show.onAir >= 0) {
                all[6] = show.onAir + show.minutes;
            }
        }
        for (int hour = 0; hour < 24 && what == 7; hour++) {
            all[7] += sponsors(day, hour, true) > s.settings[6] ? 1 : 0;
        }
        return all[what];
    }

    int count(int what) {
        argument(what, 0, 7);
        broadcast();
        int[] all = new int[8];
        all[0] = s.week;
        all[1] = s.shows.size();
        all[6] = saved.size();
        for (Show show : s.shows) {
            all[2] += show.kind() == 0 ? 1 : 0;
            all[3] += show.kind() == 2 ? 1 : 0;
            all[4] += show.onAir >= 0 && show.onAir != show.start ? 1 : 0;
            all[5] += show.onAir < 0 ? 1 : 0;
            all[7] += show.minutes;
        }
        return all[what];
    }

    int setting(int setting) {
        index(setting, 8);
        return s.settings[setting];
    }

    int why(int group, int day, int start, int length) {
        return refusal(proposal(false, group, day, start, length, 0));
    }

    int firstTime(int group, int day, int length) {
        for (int start = 0; start < 1440; start += 5) {
            if (refusal(proposal(false, group, day, start, length, 0)) == 0) {
                return start;
            }
        }
        return -1;
    }

    int firstRepeat(int original) {
        existing(original);
        for (int time = 0; time < 7 * 1440; time += 5) {
            if (refusal(repeatOf(original, time / 1440, time % 1440)) == 0) {
                return time;
            }
        }
        return -1;
    }

    int ifOverrun(int show, int by, int what) {
        Show changed = existing(show);
        argument(by, -60, 120);
        argument(what, 0, 7);
        if (!changed.live) {
            throw new IllegalStateException();
        }
        int kept = changed.overrun;
        changed.overrun = by;
        int answer = day(changed.day, what);
        changed.overrun = kept;
        return answer;
    }

    int greatestOverrun(int show) {
        Show changed = existing(show);
        if (!changed.live) {
            throw new IllegalStateException();
        }
        int kept = changed.overrun;
        int greatest = 120;
        for (; greatest >= -60 && dropsOthers(changed, greatest); greatest--) {
            continue;
        }
        changed.overrun = kept;
        return greatest < -60 ? -101 : greatest;
    }

    private boolean dropsOthers(Show changed, int by) {
        changed.overrun = by;
        broadcast();
        return s.shows.stream().anyMatch(o -> o != changed && o.day == changed.day && o.onAir < 0);
    }

    double share() {
        return (double) count(7) / (7 * (s.settings[1] - s.settings[0]));
    }

    long digest() {
        List<Long> values = new ArrayList<>();
        for (int what = 0; what < 8; what++) {
            values.add((long) count(what));
        }
        for (int setting = 0; setting < 8; setting++) {
            values.add((long) setting(setting));
        }
        for (int i = 0; i < 6 * 9; i++) {
            values.add((long) group(i / 9, i % 9));
        }
        for (int show = 0; show < s.shows.size(); show++) {
            for (int what = 0; what < 12; what++) {
                values.add((long) show(show, what));
            }
            values.add((long) firstRepeat(show));
            if (s.shows.get(show).kind() == 0) {
                values.add((long) greatestOverrun(show));
            }
        }
        for (int day = 0; day < 7; day++) {
            for (int what = 0; what < 8; what++) {
                values.add((long) day(day, what));
            }
            for (int hour = 0; hour < 24; hour++) {
                values.add((long) sponsors(day, hour, false));
                values.add((long) sponsors(day, hour, true));
            }
        }
        for (int group = 0; group < 6; group++) {
            values.add((long) firstTime(group, 3, 30));
        }
        values.add(Double.doubleToLongBits(share()));
        values.add((long) reason);
        values.add((long) buffer.length());
        buffer.chars().forEach(c -> values.add((long) c));
        long hash = 2099;
        for (long value : values) {
            hash = 31 * hash + value;
        }
        return hash;
    }
}
