/**
 * Promenade pitches of puppet booths by lot, sightline and rain check.
 * What each call promises is told in DOC.md.
 */
public final class PuppetPitches {
    public static final int NO_SUCH = -1, BAD_VALUE = -2, BAD_TEXT = -3, TOO_MANY = -4, NOT_POSSIBLE = -5, NONE = -6;
    public static final int LEFT = 0, RIGHT = 1, STOP = 2, GIVE = 3, GAP = 4, RAIN = 5;

    private static final int PITCHES = 12;
    private static final int MOST_BOOTHS = 8;
    private static final int GREATEST_HEIGHT = 9;
    private static final int MOST_DAYS = 9999;
    private static final int MOST_DAYS_FORETOLD = 100;
    private static final int MOST_LETTERS = 60;
    private static final int MOST_CHANGES = 6;
    private static final int SLOTS = 2;
    private static final int FIRST_ROOFS = 1 << 4 | 1 << 5;

    private static final int[] FIRST_SETTINGS = {200, 100, 40, 25, 1, 20};
    private static final int[] GREATEST_SETTINGS = {999, 999, 100, 100, 5, 100};

    private final State now = new State();
    private final State foretold = new State();
    private final View view = new View();
    private final Pad pad = new Pad();
    private final History history = new History();
    /** What was saved; null where nothing was. */
    private final State[] slots = new State[SLOTS];

    public PuppetPitches() {
    }

    // ---- changes

    public int set(int setting, int value) {
        if (setting < 0 || setting >= GREATEST_SETTINGS.length) {
            return BAD_VALUE;
        }
        if (value < 0 || value > GREATEST_SETTINGS[setting]) {
            return BAD_VALUE;
        }
        history.record(now);
        int before = now.setting(setting);
        now.changeSetting(setting, value);
        return before;
    }

    public int roof(int pitch, boolean isRoofed) {
        if (!isPitch(pitch)) {
            return NO_SUCH;
        }
        if (now.isRoofed(pitch) == isRoofed) {
            return NOT_POSSIBLE;
        }
        history.record(now);
        now.roofs ^= 1 << pitch;
        return Integer.bitCount(now.roofs);
    }

    public int come(int height) {
        if (!isHeight(height)) {
            return BAD_VALUE;
        }
        if (now.booths >= MOST_BOOTHS) {
            return TOO_MANY;
        }
        history.record(now);
        now.addBooth(height, NONE);
        return now.booths - 1;
    }

    public int go(int booth) {
        if (!now.isBooth(booth)) {
            return NO_SUCH;
        }
        history.record(now);
        int brought = now.hats[booth];
        now.removeBooth(booth);
        return brought;
    }

    public int height(int booth, int height) {
        if (!now.isBooth(booth)) {
            return NO_SUCH;
        }
        if (!isHeight(height)) {
            return BAD_VALUE;
        }
        history.record(now);
        int before = now.heights[booth];
        now.heights[booth] = height;
        return before;
    }

    public int stand(int booth, int pitch) {
        if (!now.isBooth(booth) || pitch != NONE && !isPitch(pitch)) {
            return NO_SUCH;
        }
        if (now.isTakenByOther(pitch, booth)) {
            return NOT_POSSIBLE;
        }
        history.record(now);
        int before = now.places[booth];
        now.places[booth] = pitch;
        return before;
    }

    public int shuffle(int number) {
        if (number < 0) {
            return BAD_VALUE;
        }
        history.record(now);
        int before = (int) now.x;
        now.x = number;
        return before;
    }

    public int play() {
        if (now.days >= MOST_DAYS) {
            return TOO_MANY;
        }
        history.record(now);
        return Day.pass(now, view);
    }

    public int read() {
        if (pad.findFault() != NONE) {
            return BAD_TEXT;
        }
        if (pad.hasSharedPitch()) {
            return NOT_POSSIBLE;
        }
        history.record(now);
        now.forgetBooths();
        for (int part = 0; part < pad.parts && part < MOST_BOOTHS; part++) {
            now.addBooth(pad.heights[part], pad.places[part]);
        }
        pad.length = 0;
        return now.booths;
    }

    // ---- what there is; nothing changes

    public int booth(int booth, int what) {
        if (!now.isBooth(booth)) {
            return NO_SUCH;
        }
        switch (what) {
            case 0:
                return now.heights[booth];
            case 1:
                return now.places[booth];
            case 2:
                view.look(now, NONE);
                return view.crowdAt(now.places[booth], now.heights[booth]);
            case 3:
                return stoppingFrom(true, booth);
            case 4:
                return stoppingFrom(false, booth);
            case 5:
                return now.hats[booth];
            case 6:
                return now.firsts[booth];
            case 7:
                return now.idleDays[booth];
            default:
                return BAD_VALUE;
        }
    }

    public int pitch(int pitch, int what) {
        if (!isPitch(pitch)) {
            return NO_SUCH;
        }
        switch (what) {
            case 0:
                return now.isRoofed(pitch) ? 1 : 0;
            case 1:
                return now.boothAt(pitch);
            case 2:
                view.look(now, NONE);
                return view.isOpen(pitch, now.setting(GAP)) ? 1 : 0;
            default:
                return BAD_VALUE;
        }
    }

    public int seen(int booth, int side, int way) {
        if (!now.isBooth(booth)) {
            return NO_SUCH;
        }
        if (side != 0 && side != 1 || way != 0 && way != 1) {
            return BAD_VALUE;
        }
        if (!now.isStanding(booth)) {
            return 0;
        }
        boolean isFromLeft = side == 0;
        if (way == 1) {
            return now.isHidden(booth, isFromLeft) ? 0 : 1;
        }
        view.look(now, NONE);
        Stream stream = view.streamFrom(isFromLeft);
        return stream.isSeen(now.places[booth], now.heights[booth]) ? 1 : 0;
    }

    public int count(int what) {
        if (what >= 0 && what < FIRST_SETTINGS.length) {
            return now.setting(what);
        }
        switch (what) {
            case 6:
                return (int) now.x;
            case 7:
                return now.booths;
            case 8:
                return now.countStanding();
            case 9:
                return now.roofs;
            case 10:
                return now.setting(LEFT) + now.setting(RIGHT) - stoppingNowhere();
            case 11:
                return stoppingNowhere();
            case 12:
                return now.days;
            case 13:
                return now.rainyDays;
            case 14:
                return now.takings;
            case 15:
                return pad.length;
            case 16:
                return history.kept;
            default:
                return BAD_VALUE;
        }
    }

    public int lot(int place) {
        return place < 0 || place >= MOST_BOOTHS ? NO_SUCH : now.lots[place];
    }

    // ---- what if; nothing changes

    public int ifStood(int booth, int pitch) {
        if (!now.isBooth(booth) || !isPitch(pitch)) {
            return NO_SUCH;
        }
        if (now.isTakenByOther(pitch, booth)) {
            return NOT_POSSIBLE;
        }
        view.look(now, booth);
        return view.crowdAt(pitch, now.heights[booth]);
    }

    public int bestPitch(int booth) {
        if (!now.isBooth(booth)) {
            return NO_SUCH;
        }
        view.look(now, booth);
        return view.bestOpenPitch(now.heights[booth], 0);
    }

    public int ifPlayed(int days, int what) {
        if (days < 1 || days > MOST_DAYS_FORETOLD || what != 0 && what != 1) {
            return BAD_VALUE;
        }
        foretold.copyFrom(now);
        int coins = 0;
        for (int day = 0; day < days; day++) {
            coins += Day.pass(foretold, view);
        }
        return what == 0 ? coins : foretold.rainyDays - now.rainyDays;
    }

    public int bestHeight(int booth) {
        if (!now.isBooth(booth)) {
            return NO_SUCH;
        }
        if (!now.isStanding(booth)) {
            return NOT_POSSIBLE;
        }
        view.look(now, booth);
        int best = 1;
        int greatest = view.crowdAt(now.places[booth], best);
        for (int height = 2; height <= GREATEST_HEIGHT; height++) {
            int crowd = view.crowdAt(now.places[booth], height);
            if (crowd > greatest) {
                best = height;
                greatest = crowd;
            }
        }
        return best;
    }

    // ---- texts

    public int put(long characters) {
        int letters = Pad.countLetters(characters);
        if (letters == 0) {
            return BAD_VALUE;
        }
        if (pad.length + letters > MOST_LETTERS) {
            return TOO_MANY;
        }
        pad.append(characters, letters);
        return pad.length;
    }

    public int wipe() {
        int before = pad.length;
        pad.length = 0;
        return before;
    }

    public int fault() {
        return pad.findFault();
    }

    // ---- undo, saving

    public int undo() {
        if (history.kept == 0) {
            return NOT_POSSIBLE;
        }
        history.takeBack(now);
        return history.kept;
    }

    public int save(int slot) {
        if (slot < 0 || slot >= slots.length) {
            return BAD_VALUE;
        }
        if (slots[slot] == null) {
            slots[slot] = new State();
        }
        slots[slot].copyFrom(now);
        return now.booths;
    }

    public int restore(int slot) {
        if (slot < 0 || slot >= slots.length) {
            return BAD_VALUE;
        }
        State saved = slots[slot];
        if (saved == null) {
            return NOT_POSSIBLE;
        }
        history.record(now);
        now.copyFrom(saved);
        return now.booths;
    }

    private int stoppingFrom(boolean isFromLeft, int booth) {
        view.look(now, NONE);
        return view.streamFrom(isFromLeft).stopping(now.places[booth], now.heights[booth]);
    }

    private int stoppingNowhere() {
        view.look(now, NONE);
        return view.fromLeft.passing + view.fromRight.passing;
    }

    private static boolean isPitch(int pitch) {
        return pitch >= 0 && pitch < PITCHES;
    }

    private static boolean isHeight(int height) {
        return height >= 1 && height <= GREATEST_HEIGHT;
    }

    private static void copyRow(int[] from, int[] to) {
        for (int i = 0; i < from.length && i < to.length; i++) {
            to[i] = from[i];
        }
    }

    /** All that undo, save and restore keep. Only the first places of a row of booths are in use. */
    private static final class State {
        private final int[] settings = new int[FIRST_SETTINGS.length];
        long x = 1;
        int roofs = FIRST_ROOFS;
        int days;
        int rainyDays;
        int takings;
        int booths;
        final int[] heights = new int[MOST_BOOTHS];
        /** The pitches at which the booths stand; a booth that stands nowhere has NONE. */
        final int[] places = new int[MOST_BOOTHS];
        final int[] hats = new int[MOST_BOOTHS];
        final int[] firsts = new int[MOST_BOOTHS];
        final int[] idleDays = new int[MOST_BOOTHS];
        /** The latest row of lots, as the booths are numbered now; NONE for one that is not there. */
        final int[] lots = new int[MOST_BOOTHS];

        State() {
            copyRow(FIRST_SETTINGS, settings);
            forgetLots();
        }

        void copyFrom(State other) {
            copyRow(other.settings, settings);
            x = other.x;
            roofs = other.roofs;
            days = other.days;
            rainyDays = other.rainyDays;
            takings = other.takings;
            booths = other.booths;
            copyRow(other.heights, heights);
            copyRow(other.places, places);
            copyRow(other.hats, hats);
            copyRow(other.firsts, firsts);
            copyRow(other.idleDays, idleDays);
            copyRow(other.lots, lots);
        }

        int setting(int setting) {
            return setting >= 0 && setting < settings.length ? settings[setting] : 0;
        }

        void changeSetting(int setting, int value) {
            if (setting >= 0 && setting < settings.length) {
                settings[setting] = value;
            }
        }

        boolean isRoofed(int pitch) {
            return isPitch(pitch) && (roofs >> pitch & 1) == 1;
        }

        boolean isBooth(int booth) {
            return booth >= 0 && booth < booths && booth < MOST_BOOTHS;
        }

        boolean isStanding(int booth) {
            return isBooth(booth) && places[booth] != NONE;
        }

        int countStanding() {
            int standing = 0;
            for (int booth = 0; booth < MOST_BOOTHS; booth++) {
                if (isStanding(booth)) {
                    standing++;
                }
            }
            return standing;
        }

        int boothAt(int pitch) {
            for (int booth = 0; booth < MOST_BOOTHS; booth++) {
                if (isStanding(booth) && places[booth] == pitch) {
                    return booth;
                }
            }
            return NONE;
        }

        boolean isTakenByOther(int pitch, int booth) {
            int there = boothAt(pitch);
            return there != NONE && there != booth;
        }

        /** Whether a booth that stands is hidden, told by asking each other booth. */
        boolean isHidden(int booth, boolean isFromLeft) {
            for (int other = 0; other < MOST_BOOTHS; other++) {
                if (other != booth && hides(other, booth, isFromLeft)) {
                    return true;
                }
            }
            return false;
        }

        private boolean hides(int other, int booth, boolean isFromLeft) {
            if (!isStanding(other) || !isStanding(booth) || heights[other] < heights[booth]) {
                return false;
            }
            return isFromLeft ? places[other] < places[booth] : places[other] > places[booth];
        }

        void addBooth(int height, int place) {
            if (booths < 0 || booths >= MOST_BOOTHS) {
                return;
            }
            heights[booths] = height;
            places[booths] = place;
            hats[booths] = 0;
            firsts[booths] = 0;
            idleDays[booths] = 0;
            booths++;
        }

        void removeBooth(int booth) {
            if (!isBooth(booth)) {
                return;
            }
            closeUp(heights, booth);
            closeUp(places, booth);
            closeUp(hats, booth);
            closeUp(firsts, booth);
            closeUp(idleDays, booth);
            booths--;
            for (int place = 0; place < lots.length; place++) {
                if (lots[place] == booth) {
                    lots[place] = NONE;
                } else if (lots[place] > booth) {
                    lots[place]--;
                }
            }
        }

        private static void closeUp(int[] row, int gone) {
            for (int i = Math.max(gone, 0); i < row.length - 1; i++) {
                row[i] = row[i + 1];
            }
        }

        void forgetBooths() {
            booths = 0;
            forgetLots();
        }

        private void forgetLots() {
            for (int place = 0; place < lots.length; place++) {
                lots[place] = NONE;
            }
        }

        /** Draws a number below a bound, which is 1 at least. */
        int draw(int bound) {
            x = (x * 1103515245L + 12345L) % 2147483648L;
            return bound < 1 ? 0 : (int) (x / 65536L % bound);
        }
    }

    /** People who come from one end, as they pass the pitches. */
    private static final class Stream {
        private final boolean isFromLeft;
        private final int[] arriving = new int[PITCHES];
        /** The greatest height on the way to each pitch, without the pitch itself. */
        private final int[] tallest = new int[PITCHES];
        private int stopShare;
        int passing;

        Stream(boolean isFromLeft) {
            this.isFromLeft = isFromLeft;
        }

        void walk(int[] tops, int people, int share) {
            stopShare = share;
            int walking = people;
            int top = 0;
            for (int step = 0; step < PITCHES; step++) {
                int pitch = isFromLeft ? step : PITCHES - 1 - step;
                arriving[pitch] = walking;
                tallest[pitch] = top;
                if (pitch < tops.length && tops[pitch] > top) {
                    walking -= walking * share / 100;
                    top = tops[pitch];
                }
            }
            passing = walking;
        }

        boolean isSeen(int pitch, int height) {
            return isPitch(pitch) && height > tallest[pitch];
        }

        int stopping(int pitch, int height) {
            return isSeen(pitch, height) ? arriving[pitch] * stopShare / 100 : 0;
        }
    }

    /** The heights along the promenade, and who would stop where. */
    private static final class View {
        /** The height of the booth at each pitch, 0 where none stands. */
        private final int[] tops = new int[PITCHES];
        final Stream fromLeft = new Stream(true);
        final Stream fromRight = new Stream(false);

        /** Looks at the booths as they stand, without one of them, or with all if that is NONE. */
        void look(State state, int without) {
            clear();
            for (int booth = 0; booth < MOST_BOOTHS; booth++) {
                if (booth != without && state.isStanding(booth)) {
                    raise(state.places[booth], state.heights[booth]);
                }
            }
            letPeoplePass(state);
        }

        void clear() {
            for (int pitch = 0; pitch < tops.length; pitch++) {
                tops[pitch] = 0;
            }
        }

        void raise(int pitch, int height) {
            if (isPitch(pitch)) {
                tops[pitch] = height;
            }
        }

        void letPeoplePass(State state) {
            fromLeft.walk(tops, state.setting(LEFT), state.setting(STOP));
            fromRight.walk(tops, state.setting(RIGHT), state.setting(STOP));
        }

        Stream streamFrom(boolean isFromLeft) {
            return isFromLeft ? fromLeft : fromRight;
        }

        int crowdAt(int pitch, int height) {
            return fromLeft.stopping(pitch, height) + fromRight.stopping(pitch, height);
        }

        boolean isOpen(int pitch, int gap) {
            for (int other = 0; other < tops.length; other++) {
                if (tops[other] > 0 && Math.abs(other - pitch) <= gap) {
                    return false;
                }
            }
            return true;
        }

        int bestOpenPitch(int height, int gap) {
            int best = NONE;
            int greatest = -1;
            for (int pitch = 0; pitch < PITCHES; pitch++) {
                int crowd = crowdAt(pitch, height);
                if (crowd > greatest && isOpen(pitch, gap)) {
                    best = pitch;
                    greatest = crowd;
                }
            }
            return best;
        }
    }

    /** How a day goes. */
    private static final class Day {
        /** Plays a day and returns what all hats bring on it. */
        static int pass(State state, View view) {
            drawLots(state);
            choosePitches(state, view);
            boolean isRaining = state.draw(100) < state.setting(RAIN);
            state.days++;
            if (isRaining) {
                state.rainyDays++;
            }
            return passHats(state, view, isRaining);
        }

        private static void drawLots(State state) {
            int[] lots = state.lots;
            for (int place = 0; place < lots.length; place++) {
                lots[place] = state.isBooth(place) ? place : NONE;
            }
            for (int place = Math.min(state.booths, lots.length) - 1; place >= 1; place--) {
                int other = state.draw(place + 1);
                if (other >= 0 && other < lots.length) {
                    int booth = lots[place];
                    lots[place] = lots[other];
                    lots[other] = booth;
                }
            }
            int first = lots[0];
            if (state.isBooth(first)) {
                state.firsts[first]++;
            }
        }

        private static void choosePitches(State state, View view) {
            view.clear();
            view.letPeoplePass(state);
            for (int place = 0; place < state.lots.length; place++) {
                int booth = state.lots[place];
                if (state.isBooth(booth)) {
                    int pitch = view.bestOpenPitch(state.heights[booth], state.setting(GAP));
                    state.places[booth] = pitch;
                    view.raise(pitch, state.heights[booth]);
                    view.letPeoplePass(state);
                }
            }
        }

        private static int passHats(State state, View view, boolean isRaining) {
            int coins = 0;
            for (int booth = 0; booth < MOST_BOOTHS; booth++) {
                if (state.isStanding(booth)) {
                    int pitch = state.places[booth];
                    boolean isWashedOut = isRaining && !state.isRoofed(pitch);
                    int crowd = isWashedOut ? 0 : view.crowdAt(pitch, state.heights[booth]);
                    int hat = crowd * state.setting(GIVE) / 100;
                    state.hats[booth] += hat;
                    coins += hat;
                } else if (state.isBooth(booth)) {
                    state.idleDays[booth]++;
                }
            }
            state.takings += coins;
            return coins;
        }
    }

    /** The text of a plan, and what was read from it. */
    private static final class Pad {
        private static final int WRONG = -1;
        private static final int HEIGHT_DUE = 0;
        private static final int HEIGHT_READ = 1;
        private static final int PITCH_DUE = 2;
        /** A 1 was read that may be the first digit of 10 or 11. */
        private static final int ONE_READ = 3;
        private static final int PITCH_READ = 4;

        private final char[] text = new char[MOST_LETTERS];
        int length;
        int parts;
        final int[] heights = new int[MOST_BOOTHS];
        final int[] places = new int[MOST_BOOTHS];

        /** How many characters a number holds, 0 if it is not a row of characters. */
        static int countLetters(long characters) {
            long rest = characters;
            int letters = 0;
            while (letters < 8 && (rest & 255) != 0) {
                long code = rest & 255;
                if (code < 33 || code > 126) {
                    return 0;
                }
                rest >>>= 8;
                letters++;
            }
            return rest == 0 ? letters : 0;
        }

        void append(long characters, int letters) {
            long rest = characters;
            for (int i = length + letters - 1; i >= length; i--) {
                if (i >= 0 && i < text.length) {
                    text[i] = (char) (rest & 255);
                }
                rest >>>= 8;
            }
            length += letters;
        }

        /** Reads the parts; returns where the text is wrong, or NONE. */
        int findFault() {
            parts = 0;
            int stage = HEIGHT_DUE;
            for (int i = 0; i < length && i < text.length; i++) {
                stage = stageAfter(stage, text[i]);
                if (stage == WRONG) {
                    return i;
                }
            }
            return stage == HEIGHT_DUE || stage == PITCH_DUE ? length : NONE;
        }

        private int stageAfter(int stage, char letter) {
            switch (stage) {
                case HEIGHT_DUE:
                    return readHeight(letter);
                case HEIGHT_READ:
                    return letter == '@' ? PITCH_DUE : readComma(letter);
                case PITCH_DUE:
                    return readFirstDigit(letter);
                case ONE_READ:
                    return letter == '0' || letter == '1' ? readPitch(10 + letter - '0') : readComma(letter);
                case PITCH_READ:
                    return readComma(letter);
                default:
                    return WRONG;
            }
        }

        private int readHeight(char letter) {
            if (letter < '1' || letter > '9' || parts >= MOST_BOOTHS) {
                return WRONG;
            }
            heights[parts] = letter - '0';
            places[parts] = NONE;
            parts++;
            return HEIGHT_READ;
        }

        private int readFirstDigit(char letter) {
            if (letter < '0' || letter > '9') {
                return WRONG;
            }
            readPitch(letter - '0');
            return letter == '1' ? ONE_READ : PITCH_READ;
        }

        private int readPitch(int pitch) {
            if (parts >= 1 && parts <= MOST_BOOTHS) {
                places[parts - 1] = pitch;
            }
            return PITCH_READ;
        }

        private int readComma(char letter) {
            return letter == ',' && parts < MOST_BOOTHS ? HEIGHT_DUE : WRONG;
        }

        boolean hasSharedPitch() {
            int taken = 0;
            for (int part = 0; part < parts && part < MOST_BOOTHS; part++) {
                if (isPitch(places[part])) {
                    int bit = 1 << places[part];
                    if ((taken & bit) != 0) {
                        return true;
                    }
                    taken |= bit;
                }
            }
            return false;
        }
    }

    /** The states before the latest changes, in a ring. */
    private static final class History {
        /** A state is made when its place is first used, and used again from then on. */
        private final State[] states = new State[MOST_CHANGES];
        private int next;
        int kept;

        void record(State state) {
            if (next < 0 || next >= states.length) {
                return;
            }
            if (states[next] == null) {
                states[next] = new State();
            }
            states[next].copyFrom(state);
            next = next + 1 < states.length ? next + 1 : 0;
            kept = Math.min(kept + 1, states.length);
        }

        void takeBack(State state) {
            int latest = next > 0 ? next - 1 : states.length - 1;
            if (kept < 1 || latest >= states.length || states[latest] == null) {
                return;
            }
            state.copyFrom(states[latest]);
            next = latest;
            kept--;
        }
    }
}
