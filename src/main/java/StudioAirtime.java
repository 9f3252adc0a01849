/**
 * The airtime of a community studio. What each call promises stands in the
 * document (DOC.md); the words used here are those of its section "Terms".
 */
public final class StudioAirtime {

    public static final int NONE = -1;

    private static final int LIVE = 0;
    private static final int TAPE = 1;
    private static final int REPEAT = 2;

    private static final int OPENING = 0;
    private static final int CLOSE = 1;
    private static final int LIVE_PATIENCE = 2;
    private static final int TAPE_PATIENCE = 3;
    private static final int GAP = 4;
    private static final int REPEAT_SHARE = 5;
    private static final int SPONSOR_LIMIT = 6;
    private static final int CARRY_LIMIT = 7;
    private static final int[] LEAST_SETTINGS = {0, 721, 0, 0, 1, 0, 0, 0};
    private static final int[] GREATEST_SETTINGS = {720, 1440, 120, 240, 100, 100, 30, 600};
    private static final int[] FIRST_SETTINGS = {480, 1380, 10, 60, 20, 50, 8, 120};

    private static final int SETTINGS = 8;
    private static final int GROUPS = 6;
    private static final int DAYS = 7;
    private static final int HOURS = 24;
    private static final int SHOWS = 24;
    private static final int SIGNS = 60;
    private static final int SAVED = 6;
    private static final int DAY_MINUTES = 1440;
    private static final int HOUR_MINUTES = 60;
    private static final int TIME_STEP = 5;

    private static final int FIRST_QUOTA = 300;
    private static final int GREATEST_QUOTA = 2000;
    private static final int LEAST_LENGTH = 5;
    private static final int GREATEST_LENGTH = 240;
    private static final int GREATEST_SPONSORS = 30;
    private static final int LEAST_OVERRUN = -60;
    private static final int GREATEST_OVERRUN = 120;
    private static final int NO_OVERRUN = -101;
    private static final int LAST_WEEK = 1000;
    private static final int OUT_OF_RANGE = 20;

    private final Plan now;
    private final History history;
    private final Text text;
    // The three below are filled anew by each call that needs them and carry
    // nothing from call to call; they are kept so that no call makes objects.
    private final Proposal proposal;
    private final Airing air;
    private final Airing trial;
    private int latestReason;

    public StudioAirtime() {
        now = new Plan();
        history = new History();
        text = new Text();
        proposal = new Proposal();
        air = new Airing();
        trial = new Airing();
        latestReason = 0;
    }

    // ---- settings and groups

    public int set(int setting, int value) throws IndexOutOfBoundsException, IllegalArgumentException {
        if (!isWithin(setting, 0, SETTINGS - 1)) {
            throw new IndexOutOfBoundsException("no such setting");
        }
        if (!isWithin(value, LEAST_SETTINGS[setting], GREATEST_SETTINGS[setting])) {
            throw new IllegalArgumentException("the value is out of range");
        }
        history.save(now);
        int previous = now.settings[setting];
        now.settings[setting] = value;
        return previous;
    }

    public int setQuota(int group, int minutes) throws IndexOutOfBoundsException, IllegalArgumentException {
        if (!isWithin(group, 0, GROUPS - 1)) {
            throw new IndexOutOfBoundsException("no such group");
        }
        if (!isWithin(minutes, 0, GREATEST_QUOTA)) {
            throw new IllegalArgumentException("the minutes are out of range");
        }
        history.save(now);
        int previous = now.quotas[group];
        now.quotas[group] = minutes;
        return previous;
    }

    // ---- shows

    public int add(boolean live, int group, int day, int start, int length, int sponsors)
            throws IllegalArgumentException, IllegalStateException {
        proposal.become(live ? LIVE : TAPE, group, day, start, length, sponsors);
        if (!proposal.isInRange()) {
            throw new IllegalArgumentException("an argument is out of range");
        }
        return enterProposal();
    }

    public int repeat(int original, int day, int start)
            throws IndexOutOfBoundsException, IllegalArgumentException, IllegalStateException {
        proposal.becomeRepeat(original, day, start);
        if (!now.inheritFromOriginal(proposal)) {
            throw new IndexOutOfBoundsException("no such show");
        }
        if (!proposal.isInRange()) {
            throw new IllegalArgumentException("the day or the start is out of range");
        }
        return enterProposal();
    }

    public int remove(int show) throws IndexOutOfBoundsException {
        if (!now.hasShow(show)) {
            throw new IndexOutOfBoundsException("no such show");
        }
        history.save(now);
        return now.takeOutWithRepeats(show);
    }

    public int overrun(int show, int by)
            throws IndexOutOfBoundsException, IllegalArgumentException, IllegalStateException {
        if (!now.hasShow(show)) {
            throw new IndexOutOfBoundsException("no such show");
        }
        if (!isWithin(by, LEAST_OVERRUN, GREATEST_OVERRUN)) {
            throw new IllegalArgumentException("the overrun is out of range");
        }
        if (now.kinds[show] != LIVE) {
            throw new IllegalStateException("it is no live show");
        }
        history.save(now);
        int previous = now.overruns[show];
        now.overruns[show] = by;
        return previous;
    }

    public int closeWeek() throws IllegalStateException {
        if (now.week >= LAST_WEEK) {
            throw new IllegalStateException("it is the last week");
        }
        history.save(now);
        air.play(now);
        for (int group = 0; group < GROUPS; group++) {
            now.closeGroup(group, air.worthOfGroup(now, group));
        }
        now.beginNextWeek();
        return now.week;
    }

    // ---- texts

    public int append(int code) throws IllegalArgumentException, IllegalStateException {
        if (!isWithin(code, 33, 126)) {
            throw new IllegalArgumentException("the code is not 33 to 126");
        }
        if (text.length >= SIGNS) {
            throw new IllegalStateException("the buffer is full");
        }
        text.signs[text.length] = code;
        text.length++;
        return text.length;
    }

    public int clearBuffer() {
        int previous = text.length;
        text.length = 0;
        return previous;
    }

    public int firstError() {
        text.readAll(proposal);
        return text.at;
    }

    public int load() throws IllegalArgumentException {
        if (!text.readAll(proposal)) {
            throw new IllegalArgumentException("the buffer is not a complete text");
        }
        history.save(now);
        int added = 0;
        latestReason = 0;
        text.at = 0;
        for (int i = 0; i < SIGNS && text.at < text.length && latestReason == 0; i++) {
            text.readShow(proposal);
            text.readSign(';');
            latestReason = refusalOfReadShow();
            if (latestReason == 0) {
                now.insert(proposal);
                added++;
            }
        }
        text.length = 0;
        return added;
    }

    public int undo() throws IllegalStateException {
        if (history.size == 0) {
            throw new IllegalStateException("no state is saved");
        }
        history.restore(now);
        return history.size;
    }

    // ---- what there is

    public int reason() {
        return latestReason;
    }

    public int show(int show, int what) throws IndexOutOfBoundsException, IllegalArgumentException {
        if (!now.hasShow(show)) {
            throw new IndexOutOfBoundsException("no such show");
        }
        if (!isWithin(what, 0, 11)) {
            throw new IllegalArgumentException("what is not 0 to 11");
        }
        air.play(now);
        return showProperty(show, what);
    }

    public int group(int group, int what) throws IndexOutOfBoundsException, IllegalArgumentException {
        if (!isWithin(group, 0, GROUPS - 1)) {
            throw new IndexOutOfBoundsException("no such group");
        }
        if (!isWithin(what, 0, 8)) {
            throw new IllegalArgumentException("what is not 0 to 8");
        }
        air.play(now);
        return groupProperty(group, what);
    }

    public int sponsors(int day, int hour, boolean onAir) throws IndexOutOfBoundsException {
        if (!isWithin(day, 0, DAYS - 1) || !isWithin(hour, 0, HOURS - 1)) {
            throw new IndexOutOfBoundsException("no such day or hour");
        }
        if (!onAir) {
            return now.plannedSponsors(day, hour);
        }
        air.play(now);
        return air.sponsorsInHour(now, day, hour);
    }

    public int day(int day, int what) throws IndexOutOfBoundsException, IllegalArgumentException {
        if (!isWithin(day, 0, DAYS - 1)) {
            throw new IndexOutOfBoundsException("no such day");
        }
        if (!isWithin(what, 0, 7)) {
            throw new IllegalArgumentException("what is not 0 to 7");
        }
        air.play(now);
        return air.dayProperty(now, day, what);
    }

    public int count(int what) throws IllegalArgumentException {
        if (!isWithin(what, 0, 7)) {
            throw new IllegalArgumentException("what is not 0 to 7");
        }
        air.play(now);
        return countOf(what);
    }

    public int setting(int setting) throws IndexOutOfBoundsException {
        if (!isWithin(setting, 0, SETTINGS - 1)) {
            throw new IndexOutOfBoundsException("no such setting");
        }
        return now.settings[setting];
    }

    // ---- what would be; nothing is changed

    public int why(int group, int day, int start, int length) throws IllegalArgumentException {
        proposal.become(TAPE, group, day, start, length, 0);
        if (!proposal.isInRange()) {
            throw new IllegalArgumentException("an argument is out of range");
        }
        return now.refusal(proposal);
    }

    public int firstTime(int group, int day, int length) throws IllegalArgumentException {
        proposal.become(TAPE, group, day, 0, length, 0);
        if (!proposal.isInRange()) {
            throw new IllegalArgumentException("an argument is out of range");
        }
        return now.firstTapeTime(group, day, length);
    }

    public int firstRepeat(int original) throws IndexOutOfBoundsException {
        if (!now.hasShow(original)) {
            throw new IndexOutOfBoundsException("no such show");
        }
        return now.firstRepeatTime(original);
    }

    public int ifOverrun(int show, int by, int what)
            throws IndexOutOfBoundsException, IllegalArgumentException, IllegalStateException {
        if (!now.hasShow(show)) {
            throw new IndexOutOfBoundsException("no such show");
        }
        if (!isWithin(by, LEAST_OVERRUN, GREATEST_OVERRUN) || !isWithin(what, 0, 7)) {
            throw new IllegalArgumentException("the overrun or what is out of range");
        }
        if (now.kinds[show] != LIVE) {
            throw new IllegalStateException("it is no live show");
        }
        trial.playWith(now, show, by);
        return trial.dayProperty(now, now.days[show], what);
    }

    public int greatestOverrun(int show) throws IndexOutOfBoundsException, IllegalStateException {
        if (!now.hasShow(show)) {
            throw new IndexOutOfBoundsException("no such show");
        }
        if (now.kinds[show] != LIVE) {
            throw new IllegalStateException("it is no live show");
        }
        return greatestHarmlessOverrun(show);
    }

    public double share() {
        air.play(now);
        return shareOnAir();
    }

    public long digest() {
        air.play(now);
        Hash hash = new Hash();
        for (int what = 0; what <= 7; what++) {
            hash.take(countOf(what));
        }
        for (int setting = 0; setting < SETTINGS; setting++) {
            hash.take(now.settings[setting]);
        }
        for (int group = 0; group < GROUPS; group++) {
            for (int what = 0; what <= 8; what++) {
                hash.take(groupProperty(group, what));
            }
        }
        for (int show = 0; show < now.size; show++) {
            takeShow(hash, show);
        }
        for (int day = 0; day < DAYS; day++) {
            takeDay(hash, day);
        }
        for (int group = 0; group < GROUPS; group++) {
            hash.take(now.firstTapeTime(group, 3, 30));
        }
        hash.take(bitsOf(shareOnAir()));
        hash.take(latestReason);
        hash.take(text.length);
        for (int i = 0; i < text.length; i++) {
            hash.take(text.signs[i]);
        }
        return hash.value;
    }

    // ---- behind the face

    private static boolean isWithin(int number, int least, int greatest) {
        return number >= least && number <= greatest;
    }

    /** How many of the minutes that begin at a time of the day lie in an hour. */
    private static int minutesInHour(int from, int minutes, int hour) {
        int begin = Math.max(from, HOUR_MINUTES * hour);
        int end = Math.min(from + minutes, HOUR_MINUTES * (hour + 1));
        return Math.max(0, end - begin);
    }

    private int enterProposal() throws IllegalStateException {
        latestReason = now.refusal(proposal);
        if (latestReason != 0) {
            throw new IllegalStateException("the show is refused");
        }
        history.save(now);
        return now.insert(proposal);
    }

    private int refusalOfReadShow() {
        if (proposal.kind == REPEAT && !now.inheritFromOriginal(proposal)) {
            return OUT_OF_RANGE;
        }
        return proposal.isInRange() ? now.refusal(proposal) : OUT_OF_RANGE;
    }

    private int showProperty(int show, int what) {
        switch (what) {
            case 0: return now.kinds[show];
            case 1: return now.groups[show];
            case 2: return now.days[show];
            case 3: return now.starts[show];
            case 4: return now.lengths[show];
            case 5: return now.sponsors[show];
            case 6: return now.overruns[show];
            case 7: return now.originals[show];
            case 8: return air.starts[show];
            case 9: return air.minutes[show];
            case 10: return air.delays[show];
            default: return air.fate(show);
        }
    }

    private int groupProperty(int group, int what) {
        switch (what) {
            case 0: return now.quotas[group];
            case 1: return now.carried[group];
            case 2: return now.allowance(group);
            case 3: return now.worthOfLengths(group);
            case 4: return air.worthOfGroup(now, group);
            case 5: return now.showsOfGroup(group);
            case 6: return now.closedQuotas[group];
            case 7: return now.closedMinutes[group];
            default: return now.lost[group];
        }
    }

    private int countOf(int what) {
        switch (what) {
            case 0: return now.week;
            case 1: return now.size;
            case 2: return now.showsOfKind(LIVE);
            case 3: return now.showsOfKind(REPEAT);
            case 4: return air.delayedShows(now);
            case 5: return air.droppedShows(now);
            case 6: return history.size;
            default: return air.minutesOfWeek(now);
        }
    }

    private int greatestHarmlessOverrun(int show) {
        if (!isHarmless(show, LEAST_OVERRUN)) {
            return NO_OVERRUN;
        }
        // As long as no other show is dropped, a smaller overrun never delays
        // one more: so the harmless overruns are all those up to the greatest.
        int harmless = LEAST_OVERRUN;
        int above = GREATEST_OVERRUN + 1;
        for (int i = 0; i < 8 && above - harmless > 1; i++) {
            int middle = harmless + (above - harmless) / 2;
            if (isHarmless(show, middle)) {
                harmless = middle;
            } else {
                above = middle;
            }
        }
        return harmless;
    }

    private boolean isHarmless(int show, int by) {
        trial.playWith(now, show, by);
        for (int other = 0; other < now.size; other++) {
            if (other != show && now.days[other] == now.days[show] && trial.isDropped(other)) {
                return false;
            }
        }
        return true;
    }

    private double shareOnAir() {
        int open = DAYS * (now.settings[CLOSE] - now.settings[OPENING]);
        return open > 0 ? (double) air.minutesOfWeek(now) / open : 0.0;
    }

    /**
     * The IEEE bits of a number from 0 to 1. They are worked out by exact
     * doublings, because Double is not in the library that the program keeps to.
     */
    private static long bitsOf(double number) {
        if (!(number > 0.0)) {
            return 0L;
        }
        double scaled = number;
        long exponent = 1023L;
        for (int i = 0; i < 1022 && scaled < 1.0; i++) {
            scaled *= 2.0;
            exponent--;
        }
        return (exponent << 52) + (long) ((scaled - 1.0) * 4503599627370496.0);
    }

    private void takeShow(Hash hash, int show) {
        for (int what = 0; what <= 11; what++) {
            hash.take(showProperty(show, what));
        }
        hash.take(now.firstRepeatTime(show));
        if (now.kinds[show] == LIVE) {
            hash.take(greatestHarmlessOverrun(show));
        }
    }

    private void takeDay(Hash hash, int day) {
        for (int what = 0; what <= 7; what++) {
            hash.take(air.dayProperty(now, day, what));
        }
        for (int hour = 0; hour < HOURS; hour++) {
            hash.take(now.plannedSponsors(day, hour));
            hash.take(air.sponsorsInHour(now, day, hour));
        }
    }

    /** A show that is not in the plan, but might be. */
    private static final class Proposal {
        int kind;
        int group;
        int day;
        int start;
        int length;
        int sponsors;
        int original;

        void become(int newKind, int newGroup, int newDay, int newStart, int newLength, int newSponsors) {
            kind = newKind;
            group = newGroup;
            day = newDay;
            start = newStart;
            length = newLength;
            sponsors = newSponsors;
            original = NONE;
        }

        /** Its group and its length are still those of nothing: the plan knows its original. */
        void becomeRepeat(int newOriginal, int newDay, int newStart) {
            become(REPEAT, 0, newDay, newStart, 0, 0);
            original = newOriginal;
        }

        boolean isInRange() {
            return isWithin(group, 0, GROUPS - 1)
                    && isWithin(day, 0, DAYS - 1)
                    && isWithin(start, 0, DAY_MINUTES - 1)
                    && isWithin(length, LEAST_LENGTH, GREATEST_LENGTH)
                    && isWithin(sponsors, 0, Math.min(GREATEST_SPONSORS, length));
        }
    }

    /** All that undo brings back: settings, groups, accounts, the week and its shows. */
    private static final class Plan {
        final int[] settings = new int[SETTINGS];
        final int[] quotas = new int[GROUPS];
        final int[] carried = new int[GROUPS];
        final int[] closedQuotas = new int[GROUPS];
        final int[] closedMinutes = new int[GROUPS];
        final int[] lost = new int[GROUPS];
        int week;
        int size;
        // The shows, by their numbers.
        final int[] kinds = new int[SHOWS];
        final int[] groups = new int[SHOWS];
        final int[] days = new int[SHOWS];
        final int[] starts = new int[SHOWS];
        final int[] lengths = new int[SHOWS];
        final int[] sponsors = new int[SHOWS];
        final int[] overruns = new int[SHOWS];
        final int[] originals = new int[SHOWS];

        Plan() {
            for (int setting = 0; setting < SETTINGS; setting++) {
                settings[setting] = FIRST_SETTINGS[setting];
            }
            for (int group = 0; group < GROUPS; group++) {
                quotas[group] = FIRST_QUOTA;
            }
        }

        void copyFrom(Plan other) {
            System.arraycopy(other.settings, 0, settings, 0, SETTINGS);
            System.arraycopy(other.quotas, 0, quotas, 0, GROUPS);
            System.arraycopy(other.carried, 0, carried, 0, GROUPS);
            System.arraycopy(other.closedQuotas, 0, closedQuotas, 0, GROUPS);
            System.arraycopy(other.closedMinutes, 0, closedMinutes, 0, GROUPS);
            System.arraycopy(other.lost, 0, lost, 0, GROUPS);
            week = other.week;
            size = other.size;
            System.arraycopy(other.kinds, 0, kinds, 0, SHOWS);
            System.arraycopy(other.groups, 0, groups, 0, SHOWS);
            System.arraycopy(other.days, 0, days, 0, SHOWS);
            System.arraycopy(other.starts, 0, starts, 0, SHOWS);
            System.arraycopy(other.lengths, 0, lengths, 0, SHOWS);
            System.arraycopy(other.sponsors, 0, sponsors, 0, SHOWS);
            System.arraycopy(other.overruns, 0, overruns, 0, SHOWS);
            System.arraycopy(other.originals, 0, originals, 0, SHOWS);
        }

        boolean hasShow(int show) {
            return show >= 0 && show < size;
        }

        int allowance(int group) {
            return quotas[group] + carried[group];
        }

        int worth(int kind, int minutes) {
            return kind == REPEAT ? minutes * settings[REPEAT_SHARE] / 100 : minutes;
        }

        int worthOfLengths(int group) {
            int sum = 0;
            for (int show = 0; show < size; show++) {
                if (groups[show] == group) {
                    sum += worth(kinds[show], lengths[show]);
                }
            }
            return sum;
        }

        int showsOfGroup(int group) {
            int found = 0;
            for (int show = 0; show < size; show++) {
                if (groups[show] == group) {
                    found++;
                }
            }
            return found;
        }

        int showsOfKind(int kind) {
            int found = 0;
            for (int show = 0; show < size; show++) {
                if (kinds[show] == kind) {
                    found++;
                }
            }
            return found;
        }

        int plannedSponsors(int day, int hour) {
            int sum = 0;
            for (int show = 0; show < size; show++) {
                if (days[show] == day) {
                    sum += minutesInHour(starts[show], sponsors[show], hour);
                }
            }
            return sum;
        }

        int patience(int show) {
            return settings[kinds[show] == LIVE ? LIVE_PATIENCE : TAPE_PATIENCE];
        }

        /** Answers false if there is no such original. */
        boolean inheritFromOriginal(Proposal wish) {
            if (!hasShow(wish.original)) {
                return false;
            }
            wish.group = groups[wish.original];
            wish.length = lengths[wish.original];
            return true;
        }

        /** The first reason for which a proposal is refused; 0 if there is none. */
        int refusal(Proposal wish) {
            boolean isRepeat = wish.kind == REPEAT && hasShow(wish.original);
            if (size >= SHOWS) {
                return 1;
            }
            if (isRepeat && kinds[wish.original] == REPEAT) {
                return 2;
            }
            if (wish.start < settings[OPENING] || wish.start + wish.length > settings[CLOSE]) {
                return 3;
            }
            if (showInTheWay(wish.day, wish.start, wish.length) != NONE) {
                return 4;
            }
            if (isRepeat && DAY_MINUTES * wish.day + wish.start < earliestRepeat(wish.original)) {
                return 5;
            }
            if (exceedsAllowance(wish.group, worth(wish.kind, wish.length))) {
                return 6;
            }
            return exceedsSponsorLimit(wish.day, wish.start, wish.sponsors) ? 7 : 0;
        }

        private int showInTheWay(int day, int start, int length) {
            for (int show = 0; show < size; show++) {
                if (days[show] == day && starts[show] < start + length && starts[show] + lengths[show] > start) {
                    return show;
                }
            }
            return NONE;
        }

        private int earliestRepeat(int original) {
            return DAY_MINUTES * days[original] + starts[original] + lengths[original]
                    + HOUR_MINUTES * settings[GAP];
        }

        private boolean exceedsAllowance(int group, int furtherWorth) {
            return worthOfLengths(group) + furtherWorth > allowance(group);
        }

        /** Hours that the new minutes do not touch count too: the limit may have been lowered since. */
        private boolean exceedsSponsorLimit(int day, int start, int newSponsors) {
            for (int hour = 0; hour < HOURS; hour++) {
                int minutes = plannedSponsors(day, hour) + minutesInHour(start, newSponsors, hour);
                if (minutes > settings[SPONSOR_LIMIT]) {
                    return true;
                }
            }
            return false;
        }

        int firstTapeTime(int group, int day, int length) {
            if (size >= SHOWS || exceedsAllowance(group, length) || exceedsSponsorLimit(day, 0, 0)) {
                return NONE;
            }
            return firstFreeStart(day, length, 0);
        }

        int firstRepeatTime(int original) {
            int length = lengths[original];
            if (size >= SHOWS || kinds[original] == REPEAT
                    || exceedsAllowance(groups[original], worth(REPEAT, length))) {
                return NONE;
            }
            for (int day = 0; day < DAYS; day++) {
                int start = firstFreeStart(day, length, earliestRepeat(original) - DAY_MINUTES * day);
                if (start != NONE && !exceedsSponsorLimit(day, 0, 0)) {
                    return DAY_MINUTES * day + start;
                }
            }
            return NONE;
        }

        private int firstFreeStart(int day, int length, int earliest) {
            int start = nextTimeStep(Math.max(earliest, settings[OPENING]));
            for (int passed = 0; passed <= size && start + length <= settings[CLOSE]; passed++) {
                int other = showInTheWay(day, start, length);
                if (other == NONE) {
                    return start;
                }
                // Until its end the other show is in the way of every start.
                start = nextTimeStep(starts[other] + lengths[other]);
            }
            return NONE;
        }

        private static int nextTimeStep(int time) {
            return (time + TIME_STEP - 1) / TIME_STEP * TIME_STEP;
        }

        /** Puts a show at its place; the caller has seen that it is not refused. */
        int insert(Proposal wish) {
            if (size >= SHOWS) {
                return NONE;
            }
            int number = numberFor(wish.day, wish.start);
            for (int show = size; show > number; show--) {
                moveShow(show - 1, show);
            }
            size++;
            originals[number] = wish.original;
            for (int show = 0; show < size; show++) {
                if (originals[show] >= number) {
                    originals[show]++;
                }
            }
            kinds[number] = wish.kind;
            groups[number] = wish.group;
            days[number] = wish.day;
            starts[number] = wish.start;
            lengths[number] = wish.length;
            sponsors[number] = wish.sponsors;
            overruns[number] = 0;
            return number;
        }

        private int numberFor(int day, int start) {
            int number = 0;
            for (int show = 0; show < size; show++) {
                if (days[show] < day || days[show] == day && starts[show] < start) {
                    number++;
                }
            }
            return number;
        }

        /** Goes from behind: a repeat's number is above that of its original, so that one stays. */
        int takeOutWithRepeats(int show) {
            int before = size;
            for (int other = size - 1; other > show; other--) {
                if (originals[other] == show) {
                    takeOut(other);
                }
            }
            takeOut(show);
            return before - size;
        }

        private void takeOut(int number) {
            for (int show = number; show < size - 1; show++) {
                moveShow(show + 1, show);
            }
            size--;
            for (int show = 0; show < size; show++) {
                if (originals[show] > number) {
                    originals[show]--;
                }
            }
        }

        private void moveShow(int from, int to) {
            kinds[to] = kinds[from];
            groups[to] = groups[from];
            days[to] = days[from];
            starts[to] = starts[from];
            lengths[to] = lengths[from];
            sponsors[to] = sponsors[from];
            overruns[to] = overruns[from];
            originals[to] = originals[from];
        }

        void closeGroup(int group, int worthOnAir) {
            int difference = allowance(group) - worthOnAir;
            int limit = settings[CARRY_LIMIT];
            carried[group] = Math.max(-limit, Math.min(limit, difference));
            lost[group] += difference - carried[group];
            closedMinutes[group] += worthOnAir;
            closedQuotas[group] += quotas[group];
        }

        void beginNextWeek() {
            for (int show = 0; show < size; show++) {
                overruns[show] = 0;
            }
            week++;
        }
    }

    /** What a plan is like on air. */
    private static final class Airing {
        // By the numbers of the shows.
        final int[] starts = new int[SHOWS];
        final int[] minutes = new int[SHOWS];
        final int[] delays = new int[SHOWS];
        final boolean[] cuts = new boolean[SHOWS];
        final int[] clocks = new int[DAYS];

        void play(Plan plan) {
            playWith(plan, NONE, 0);
        }

        /** One show may have another overrun than the plan tells. */
        void playWith(Plan plan, int changed, int by) {
            for (int day = 0; day < DAYS; day++) {
                clocks[day] = plan.settings[OPENING];
            }
            for (int show = 0; show < plan.size; show++) {
                playShow(plan, show, show == changed ? by : plan.overruns[show]);
            }
        }

        private void playShow(Plan plan, int show, int overrun) {
            int day = plan.days[show];
            int start = Math.max(plan.starts[show], clocks[day]);
            int left = plan.settings[CLOSE] - start;
            delays[show] = start - plan.starts[show];
            if (delays[show] > plan.patience(show) || left <= 0) {
                starts[show] = NONE;
                minutes[show] = 0;
                cuts[show] = false;
                return;
            }
            int wanted = Math.max(1, plan.lengths[show] + overrun);
            starts[show] = start;
            minutes[show] = Math.min(wanted, left);
            cuts[show] = wanted > left;
            clocks[day] = start + minutes[show];
        }

        boolean isDropped(int show) {
            return starts[show] == NONE;
        }

        boolean isDelayed(int show) {
            return !isDropped(show) && delays[show] > 0;
        }

        int fate(int show) {
            int manner = isDropped(show) ? 2 : isDelayed(show) ? 1 : 0;
            return cuts[show] ? manner + 4 : manner;
        }

        int worthOfGroup(Plan plan, int group) {
            int sum = 0;
            for (int show = 0; show < plan.size; show++) {
                if (plan.groups[show] == group) {
                    sum += plan.worth(plan.kinds[show], minutes[show]);
                }
            }
            return sum;
        }

        int sponsorsInHour(Plan plan, int day, int hour) {
            int sum = 0;
            for (int show = 0; show < plan.size; show++) {
                if (plan.days[show] == day && !isDropped(show)) {
                    sum += minutesInHour(starts[show], Math.min(plan.sponsors[show], minutes[show]), hour);
                }
            }
            return sum;
        }

        int dayProperty(Plan plan, int day, int what) {
            if (what == 6) {
                return clocks[day];
            }
            if (what == 7) {
                return hoursAboveLimit(plan, day);
            }
            int sum = 0;
            for (int show = 0; show < plan.size; show++) {
                if (plan.days[show] == day) {
                    sum += partOfDay(plan, show, what);
                }
            }
            return sum;
        }

        int minutesOfWeek(Plan plan) {
            return sumOverWeek(plan, 2);
        }

        int delayedShows(Plan plan) {
            return sumOverWeek(plan, 3);
        }

        int droppedShows(Plan plan) {
            return sumOverWeek(plan, 4);
        }

        private int sumOverWeek(Plan plan, int what) {
            int sum = 0;
            for (int show = 0; show < plan.size; show++) {
                sum += partOfDay(plan, show, what);
            }
            return sum;
        }

        /** What one show adds to a property of its day. */
        private int partOfDay(Plan plan, int show, int what) {
            switch (what) {
                case 0: return 1;
                case 1: return plan.lengths[show];
                case 2: return minutes[show];
                case 3: return isDelayed(show) ? 1 : 0;
                case 4: return isDropped(show) ? 1 : 0;
                default: return isDropped(show) ? 0 : delays[show];
            }
        }

        private int hoursAboveLimit(Plan plan, int day) {
            int found = 0;
            for (int hour = 0; hour < HOURS; hour++) {
                if (sponsorsInHour(plan, day, hour) > plan.settings[SPONSOR_LIMIT]) {
                    found++;
                }
            }
            return found;
        }
    }

    /** The saved states: a ring, in which the newest takes the place of the oldest when it is full. */
    private static final class History {
        private final Plan[] plans = new Plan[SAVED];
        private int oldest;
        int size;

        void save(Plan plan) {
            if (size == SAVED) {
                oldest = (oldest + 1) % SAVED;
                size--;
            }
            int place = (oldest + size) % SAVED;
            if (plans[place] == null) {
                plans[place] = new Plan();
            }
            plans[place].copyFrom(plan);
            size++;
        }

        void restore(Plan plan) {
            if (size == 0) {
                return;
            }
            size--;
            Plan saved = plans[(oldest + size) % SAVED];
            if (saved != null) {
                plan.copyFrom(saved);
            }
        }
    }

    /**
     * The buffer, and where it is being read. A function that reads answers
     * whether all that it looks for was there; if not, it stays at the sign
     * that is wrong, or at the end of the buffer.
     */
    private static final class Text {
        final int[] signs = new int[SIGNS];
        int length;
        int at;
        private int number;

        boolean readAll(Proposal proposal) {
            at = 0;
            for (int shows = 0; shows < SIGNS; shows++) {
                if (!readShow(proposal)) {
                    return false;
                }
                if (!readSign(';')) {
                    return at == length;
                }
            }
            return false;
        }

        boolean readShow(Proposal proposal) {
            if (readSign('L')) {
                return readOwnShow(proposal, LIVE);
            }
            if (readSign('T')) {
                return readOwnShow(proposal, TAPE);
            }
            return readSign('R') && readRepeat(proposal);
        }

        private boolean readOwnShow(Proposal proposal, int kind) {
            if (!readDigit(GROUPS - 1)) {
                return false;
            }
            int group = number;
            if (!readSign('.') || !readDigit(DAYS - 1)) {
                return false;
            }
            int day = number;
            if (!readSign('@') || !readNumber()) {
                return false;
            }
            int start = number;
            if (!readSign('+') || !readNumber()) {
                return false;
            }
            int minutes = number;
            if (!readSign(':')) {
                proposal.become(kind, group, day, start, minutes, 0);
                return true;
            }
            if (!readNumber()) {
                return false;
            }
            proposal.become(kind, group, day, start, minutes, number);
            return true;
        }

        private boolean readRepeat(Proposal proposal) {
            if (!readNumber()) {
                return false;
            }
            int original = number;
            if (!readSign('.') || !readDigit(DAYS - 1)) {
                return false;
            }
            int day = number;
            if (!readSign('@') || !readNumber()) {
                return false;
            }
            proposal.becomeRepeat(original, day, number);
            return true;
        }

        boolean readSign(char sign) {
            if (at >= length || signs[at] != sign) {
                return false;
            }
            at++;
            return true;
        }

        private boolean readDigit(int greatest) {
            if (at >= length || !isWithin(signs[at] - '0', 0, greatest)) {
                return false;
            }
            number = signs[at] - '0';
            at++;
            return true;
        }

        private boolean readNumber() {
            if (!readDigit(9)) {
                return false;
            }
            // A leading zero is a number of its own: a digit behind it is wrong.
            int value = number;
            for (int digits = 1; digits < 4 && value > 0 && readDigit(9); digits++) {
                value = 10 * value + number;
            }
            number = value;
            return true;
        }
    }

    private static final class Hash {
        long value = 2099L;

        void take(long next) {
            value = 31L * value + next;
        }
    }
}
