import java.util.ArrayList;
import java.util.List;
import java.util.regex.Pattern;

/**
 * The document told a second time, as plainly as the library allows and with
 * no regard for speed, so that random runs can be compared with it.
 */
final class Model {
    private static final int NO_SUCH = -1, BAD_VALUE = -2, BAD_TEXT = -3, TOO_MANY = -4, NOT_POSSIBLE = -5, NONE = -6;
    private static final int[] GREATEST = {999, 999, 100, 100, 5, 100};
    private static final String PART = "[1-9](@(1[01]|[0-9]))?";
    private static final Pattern PLAN = Pattern.compile("(" + PART + ",){0,7}" + PART);
    private static final Pattern BEGUN_PLAN = Pattern.compile("(" + PART + ",){0,7}([1-9](@(1[01]|[0-9])?)?)?");

    private static final class Booth {
        int height;
        int pitch = NONE;
        int hats;
        int firsts;
        int idle;
    }

    private static final class World {
        int[] settings = {200, 100, 40, 25, 1, 20};
        boolean[] roofs = new boolean[12];
        List<Booth> booths = new ArrayList<>();
        List<Booth> row = new ArrayList<>();
        long x = 1;
        int days;
        int rainy;
        int takings;

        World copy() {
            World other = new World();
            other.settings = settings.clone();
            other.roofs = roofs.clone();
            other.x = x;
            other.days = days;
            other.rainy = rainy;
            other.takings = takings;
            for (Booth booth : booths) {
                Booth twin = new Booth();
                twin.height = booth.height;
                twin.pitch = booth.pitch;
                twin.hats = booth.hats;
                twin.firsts = booth.firsts;
                twin.idle = booth.idle;
                other.booths.add(twin);
            }
            for (Booth booth : row) {
                int number = booths.indexOf(booth);
                other.row.add(number < 0 ? new Booth() : other.booths.get(number));
            }
            return other;
        }

        boolean seen(Booth booth, int side) {
            return booth.pitch != NONE && booths.stream().noneMatch(other -> other != booth && other.pitch != NONE
                && (side == 0 ? other.pitch < booth.pitch : other.pitch > booth.pitch)
                && other.height >= booth.height);
        }

        /** Those who stop at a booth from one side; for null those who stop nowhere. */
        int crowd(Booth asked, int side) {
            int people = settings[side];
            List<Booth> way = new ArrayList<>(booths);
            way.removeIf(booth -> booth.pitch == NONE);
            way.sort((a, b) -> side == 0 ? a.pitch - b.pitch : b.pitch - a.pitch);
            for (Booth booth : way) {
                int stopping = seen(booth, side) ? people * settings[2] / 100 : 0;
                if (booth == asked) {
                    return stopping;
                }
                people -= stopping;
            }
            return asked == null ? people : 0;
        }

        int crowd(Booth booth) {
            return crowd(booth, 0) + crowd(booth, 1);
        }

        int crowdIf(Booth booth, int height, int pitch) {
            int[] before = {booth.height, booth.pitch};
            booth.height = height;
            booth.pitch = pitch;
            int crowd = crowd(booth);
            booth.height = before[0];
            booth.pitch = before[1];
            return crowd;
        }

        boolean open(int pitch, int gap, Booth without) {
            return booths.stream().noneMatch(booth -> booth != without && booth.pitch != NONE
                && Math.abs(booth.pitch - pitch) <= gap);
        }

        int choice(Booth booth, int gap) {
            int best = NONE;
            for (int pitch = 11; pitch >= 0; pitch--) {
                if (open(pitch, gap, booth) && (best == NONE
                    || crowdIf(booth, booth.height, pitch) >= crowdIf(booth, booth.height, best))) {
                    best = pitch;
                }
            }
            return best;
        }

        int draw(int m) {
            x = (x * 1103515245L + 12345L) % 2147483648L;
            return (int) (x / 65536 % m);
        }

        int day() {
            booths.forEach(booth -> booth.pitch = NONE);
            row = new ArrayList<>(booths);
            for (int k = row.size() - 1; k >= 1; k--) {
                int other = draw(k + 1);
                Booth booth = row.get(k);
                row.set(k, row.get(other));
                row.set(other, booth);
            }
            for (Booth booth : row) {
                booth.pitch = choice(booth, settings[4]);
                booth.idle += booth.pitch == NONE ? 1 : 0;
                booth.firsts += booth == row.get(0) ? 1 : 0;
            }
            boolean rains = draw(100) < settings[5];
            int coins = 0;
            for (Booth booth : booths) {
                int crowd = rains && !(booth.pitch != NONE && roofs[booth.pitch]) ? 0 : crowd(booth);
                booth.hats += crowd * settings[3] / 100;
                coins += crowd * settings[3] / 100;
            }
            days++;
            rainy += rains ? 1 : 0;
            takings += coins;
            return coins;
        }
    }

    private World now = new World();
    private final List<World> history = new ArrayList<>();
    private final World[] slots = new World[2];
    private String pad = "";

    Model() {
        now.roofs[4] = true;
        now.roofs[5] = true;
    }

    private void record() {
        history.add(now);
        now = now.copy();
        if (history.size() > 6) {
            history.remove(0);
        }
    }

    private Booth at(int booth) {
        return booth >= 0 && booth < now.booths.size() ? now.booths.get(booth) : null;
    }

    private static boolean isPitch(int pitch) {
        return pitch >= 0 && pitch <= 11;
    }

    private static boolean isHeight(int height) {
        return height >= 1 && height <= 9;
    }

    private Booth there(int pitch) {
        return now.booths.stream().filter(booth -> booth.pitch == pitch).findFirst().orElse(null);
    }

    int set(int setting, int value) {
        if (setting < 0 || setting > 5 || value < 0 || value > GREATEST[setting]) {
            return BAD_VALUE;
        }
        record();
        int before = now.settings[setting];
        now.settings[setting] = value;
        return before;
    }

    int roof(int pitch, boolean isRoofed) {
        if (!isPitch(pitch)) {
            return NO_SUCH;
        }
        if (now.roofs[pitch] == isRoofed) {
            return NOT_POSSIBLE;
        }
        record();
        now.roofs[pitch] = isRoofed;
        return Integer.bitCount(count(9));
    }

    int come(int height) {
        if (!isHeight(height)) {
            return BAD_VALUE;
        }
        if (now.booths.size() == 8) {
            return TOO_MANY;
        }
        record();
        Booth booth = new Booth();
        booth.height = height;
        now.booths.add(booth);
        return now.booths.size() - 1;
    }

    int go(int booth) {
        if (at(booth) == null) {
            return NO_SUCH;
        }
        record();
        return now.booths.remove(booth).hats;
    }

    int height(int booth, int height) {
        if (at(booth) == null) {
            return NO_SUCH;
        }
        if (!isHeight(height)) {
            return BAD_VALUE;
        }
        record();
        int before = at(booth).height;
        at(booth).height = height;
        return before;
    }

    int stand(int booth, int pitch) {
        if (at(booth) == null || pitch != NONE && !isPitch(pitch)) {
            return NO_SUCH;
        }
        if (pitch != NONE && there(pitch) != null && there(pitch) != at(booth)) {
            return NOT_POSSIBLE;
        }
        record();
        int before = at(booth).pitch;
        at(booth).pitch = pitch;
        return before;
    }

    int shuffle(int number) {
        if (number < 0) {
            return BAD_VALUE;
        }
        record();
        int before = (int) now.x;
        now.x = number;
        return before;
    }

    int play() {
        record();
        return now.day();
    }

    int read() {
        if (fault() != NONE) {
            return BAD_TEXT;
        }
        List<Booth> read = new ArrayList<>();
        for (String part : pad.split(",")) {
            String[] halves = part.split("@");
            Booth booth = new Booth();
            booth.height = Integer.parseInt(halves[0]);
            booth.pitch = halves.length == 1 ? NONE : Integer.parseInt(halves[1]);
            read.add(booth);
        }
        for (Booth one : read) {
            for (Booth other : read) {
                if (one != other && one.pitch != NONE && one.pitch == other.pitch) {
                    return NOT_POSSIBLE;
                }
            }
        }
        record();
        now.booths = read;
        pad = "";
        return read.size();
    }

    int booth(int booth, int what) {
        Booth asked = at(booth);
        if (asked == null) {
            return NO_SUCH;
        }
        if (what < 0 || what > 7) {
            return BAD_VALUE;
        }
        return new int[] {asked.height, asked.pitch, now.crowd(asked), now.crowd(asked, 0), now.crowd(asked, 1),
            asked.hats, asked.firsts, asked.idle}[what];
    }

    int pitch(int pitch, int what) {
        if (!isPitch(pitch)) {
            return NO_SUCH;
        }
        if (what < 0 || what > 2) {
            return BAD_VALUE;
        }
        return new int[] {now.roofs[pitch] ? 1 : 0, there(pitch) == null ? NONE : now.booths.indexOf(there(pitch)),
            now.open(pitch, now.settings[4], null) ? 1 : 0}[what];
    }

    int seen(int booth, int side, int way) {
        if (at(booth) == null) {
            return NO_SUCH;
        }
        if (side < 0 || side > 1 || way < 0 || way > 1) {
            return BAD_VALUE;
        }
        return now.seen(at(booth), side) ? 1 : 0;
    }

    int count(int what) {
        if (what < 0 || what > 16) {
            return BAD_VALUE;
        }
        if (what < 6) {
            return now.settings[what];
        }
        int roofs = 0;
        for (int pitch = 0; pitch < 12; pitch++) {
            roofs |= now.roofs[pitch] ? 1 << pitch : 0;
        }
        int standing = (int) now.booths.stream().filter(booth -> booth.pitch != NONE).count();
        int crowds = now.booths.stream().mapToInt(now::crowd).sum();
        return new int[] {(int) now.x, now.booths.size(), standing, roofs, crowds,
            now.crowd(null, 0) + now.crowd(null, 1), now.days, now.rainy, now.takings, pad.length(),
            history.size()}[what - 6];
    }

    int lot(int place) {
        if (place < 0 || place > 7) {
            return NO_SUCH;
        }
        int number = place < now.row.size() ? now.booths.indexOf(now.row.get(place)) : -1;
        return number < 0 ? NONE : number;
    }

    int ifStood(int booth, int pitch) {
        if (at(booth) == null || !isPitch(pitch)) {
            return NO_SUCH;
        }
        if (there(pitch) != null && there(pitch) != at(booth)) {
            return NOT_POSSIBLE;
        }
        return now.crowdIf(at(booth), at(booth).height, pitch);
    }

    int bestPitch(int booth) {
        return at(booth) == null ? NO_SUCH : now.choice(at(booth), 0);
    }

    int ifPlayed(int days, int what) {
        if (days < 1 || days > 100 || what < 0 || what > 1) {
            return BAD_VALUE;
        }
        World world = now.copy();
        int coins = 0;
        for (int day = 0; day < days; day++) {
            coins += world.day();
        }
        return what == 0 ? coins : world.rainy - now.rainy;
    }

    int bestHeight(int booth) {
        Booth asked = at(booth);
        if (asked == null) {
            return NO_SUCH;
        }
        if (asked.pitch == NONE) {
            return NOT_POSSIBLE;
        }
        int best = 9;
        for (int height = 8; height >= 1; height--) {
            if (now.crowdIf(asked, height, asked.pitch) >= now.crowdIf(asked, best, asked.pitch)) {
                best = height;
            }
        }
        return best;
    }

    int put(long characters) {
        StringBuilder text = new StringBuilder();
        boolean isOver = false;
        for (int shift = 0; shift < 64; shift += 8) {
            int code = (int) (characters >>> shift & 255);
            if (code == 0) {
                isOver = true;
            } else if (isOver || code < 33 || code > 126) {
                return BAD_VALUE;
            } else {
                text.insert(0, (char) code);
            }
        }
        if (text.isEmpty()) {
            return BAD_VALUE;
        }
        if (pad.length() + text.length() > 60) {
            return TOO_MANY;
        }
        pad += text;
        return pad.length();
    }

    int wipe() {
        int before = pad.length();
        pad = "";
        return before;
    }

    int fault() {
        return faultOf(pad);
    }

    static int faultOf(String text) {
        for (int i = 0; i < text.length(); i++) {
            if (!BEGUN_PLAN.matcher(text.substring(0, i + 1)).matches()) {
                return i;
            }
        }
        return PLAN.matcher(text).matches() ? NONE : text.length();
    }

    int undo() {
        if (history.isEmpty()) {
            return NOT_POSSIBLE;
        }
        now = history.remove(history.size() - 1);
        return history.size();
    }

    int save(int slot) {
        if (slot < 0 || slot > 1) {
            return BAD_VALUE;
        }
        slots[slot] = now.copy();
        return now.booths.size();
    }

    int restore(int slot) {
        if (slot < 0 || slot > 1) {
            return BAD_VALUE;
        }
        if (slots[slot] == null) {
            return NOT_POSSIBLE;
        }
        record();
        now = slots[slot].copy();
        return now.booths.size();
    }
}
