/** A house in which something beeps at three: what beeps when, where it is heard, and how to find it. */
public final class BeepHouse {
    public static final int NONE = -1, BAD = -2, NO = -3, FULL = -4;

    private static final int ROOMS = 8;
    private static final int ALARMS = 6;
    private static final int KINDS = 6;
    private static final int NOTES = 6;
    private static final int UNDOS = 8;
    private static final int IMAGES = 2;
    private static final int DOOR_MOST = 9;
    private static final int BATTERY_MOST = 99;
    private static final int COLD_MOST = 9;
    private static final int COLD_AT_FIRST = 3;
    private static final int LAST_SECOND = 9999;
    private static final int NEXT_MOST = 120;
    private static final int TEXT_MOST = 150;
    private static final int COUNTS = 8;

    /** What the document tells for BAD where -2 or -1 would be an ordinary answer. */
    private static final int FAR_BELOW = -10;
    private static final int NOT_SO_MANY = -5;

    /** Above every distance (seven doors of nine at most) and above every sum of six of them. */
    private static final int UNJOINED = 1000;
    /** Above every number of times that SURE can need. */
    private static final int NEVER = 100;

    /**
     * A kind looks at a second only for leaving 0 or 20 by 41 or 7 by 30, so these
     * three beep whenever any second at all would.
     */
    private static final int[] TELLING_SECONDS = {0, 7, 20};

    private static final String HOUSE_WORD = "house";
    private static final String DOOR_WORD = "door";
    private static final String ALARM_WORD = "alarm";
    private static final String DOWN_WORD = "down";

    private final Text text;
    private final Search search;
    private final Home[] images;
    private final boolean[] kept;
    private Home home;
    private Home draft;
    private long above;
    private long below;
    private int badCalls;
    private int noCalls;
    private int fullCalls;

    public BeepHouse() {
        text = new Text();
        search = new Search();
        home = new Home();
        draft = new Home();
        images = new Home[] {new Home(), new Home()};
        kept = new boolean[IMAGES];
        above = 0;
        below = 1;
    }

    // ---- a house

    public int house() {
        int before = home.alarms;
        home.reset();
        return before;
    }

    public int door(int a, int b, int length) {
        if (!isRoom(a) || !isRoom(b) || a == b || !within(length, 1, DOOR_MOST)) {
            badCalls++;
            return FAR_BELOW;
        }
        int before = home.doorBetween(a, b);
        home.setDoor(a, b, length);
        return before;
    }

    public int alarm(int kind, int room, int battery) {
        if (!within(kind, 0, KINDS - 1) || !isRoom(room) || !within(battery, 0, BATTERY_MOST)) {
            return refuseBad();
        }
        if (home.alarms >= ALARMS) {
            return refuseFull();
        }
        home.addAlarm(kind, room, battery);
        return home.alarms - 1;
    }

    public int type(int c) {
        if (!within(c, 0, 127)) {
            return refuseBad();
        }
        if (text.length >= TEXT_MOST) {
            return refuseFull();
        }
        text.add((char) c);
        return text.length;
    }

    public int clear() {
        int before = text.length;
        text.length = 0;
        return before;
    }

    public int read() {
        draft.reset();
        int items = text.tell(draft);
        if (items > 0) {
            Home old = home;
            home = draft;
            draft = old;
        }
        return items;
    }

    // ---- seconds

    public int waits(int n) {
        if (!within(n, 1, 99)) {
            return refuseBad();
        }
        home.remember();
        home.pass(n);
        return home.bitsHeard(home.now.place, home.now.second);
    }

    public int walk(int room) {
        if (!isRoom(room)) {
            return refuseBad();
        }
        int steps = home.distanceBetween(home.now.place, room);
        if (steps >= UNJOINED) {
            return refuseNo();
        }
        home.remember();
        home.pass(steps);
        home.now.place = room;
        return steps;
    }

    public int take(int k, int down) {
        if (!isAlarm(k) || !within(down, 0, 1)) {
            return refuseBad();
        }
        if (home.room[k] != home.now.place) {
            return refuseNo();
        }
        home.remember();
        home.now.setDown(k, down);
        return 1;
    }

    public int battery(int k, int b) {
        if (!isAlarm(k) || !within(b, 0, BATTERY_MOST)) {
            return refuseBad();
        }
        int before = home.now.battery[k];
        home.remember();
        home.now.battery[k] = b;
        return before;
    }

    public int cold(int c) {
        if (!within(c, 0, COLD_MOST)) {
            return refuseBad();
        }
        int before = home.now.cold;
        home.remember();
        home.now.cold = c;
        return before;
    }

    public int undo() {
        if (home.undos <= 0) {
            return refuseNo();
        }
        home.goBack();
        return home.now.second;
    }

    public int of(int k, int what) {
        if (!isAlarm(k)) {
            return refuseBad();
        }
        switch (what) {
            case 0:
                return home.kind[k];
            case 1:
                return home.room[k];
            case 2:
                return home.now.battery[k];
            case 3:
                return home.now.down >> k & 1;
            case 4:
                return home.kindOf(k).loud();
            default:
                return refuseBad();
        }
    }

    public int far(int a, int b) {
        if (!isRoom(a) || !isRoom(b)) {
            return refuseBad();
        }
        int distance = home.distanceBetween(a, b);
        return distance >= UNJOINED ? NONE : distance;
    }

    // ---- beeps

    public int beeps(int k, int s) {
        if (!isAlarm(k) || !isSecond(s)) {
            return refuseBad();
        }
        return home.soundsIn(k, s) ? 1 : 0;
    }

    public int heard(int room, int s) {
        if (!isRoom(room) || !isSecond(s)) {
            return refuseBad();
        }
        return home.bitsHeard(room, s);
    }

    public int through(int room, int k) {
        if (!isRoom(room) || !isAlarm(k)) {
            return refuseBad();
        }
        return home.entrance(room, k);
    }

    public int next(int which, int what) {
        if (!within(what, 0, 1) || !(what == 0 ? isRoom(which) : isAlarm(which))) {
            return refuseBad();
        }
        for (int d = 0; d <= NEXT_MOST; d++) {
            int s = home.now.second + d;
            if (what == 0 ? home.bitsHeard(which, s) != 0 : home.soundsIn(which, s)) {
                return d;
            }
        }
        return NONE;
    }

    public int coldest(int k) {
        if (!isAlarm(k)) {
            return refuseBad();
        }
        for (int c = 0; c <= COLD_MOST; c++) {
            if (home.kindOf(k).everSounds(c, home.now.battery[k])) {
                return c;
            }
        }
        return NONE;
    }

    // ---- which it is

    public int sure(int alarms, int what) {
        if (!within(alarms, 1, home.allBits()) || !within(what, 0, 1)) {
            return refuseBad();
        }
        search.learnAlike(home);
        search.settleAll(alarms);
        if (search.times[alarms] >= NEVER) {
            return NONE;
        }
        return what == 0 ? search.times[alarms] : search.firstRoom[alarms];
    }

    public int way(int i) {
        if (i < NONE) {
            badCalls++;
            return FAR_BELOW;
        }
        search.findTargets(home);
        search.measureLegs(home);
        if (!search.allJoined()) {
            return NONE;
        }
        search.fillRest();
        if (i == NONE) {
            return search.wholeWay();
        }
        return i >= search.targets ? NOT_SO_MANY : search.targetAt(i);
    }

    public int two(int a, int b) {
        if (!isRoom(a) || !isRoom(b)) {
            return refuseBad();
        }
        int pairs = 0;
        for (int j = 1; j < home.alarms; j++) {
            for (int i = 0; i < j; i++) {
                if (home.toldApart(a, i, j) || home.toldApart(b, i, j)) {
                    pairs++;
                }
            }
        }
        return pairs;
    }

    public int beside() {
        int best = 0;
        int most = home.howManyReach(0);
        for (int r = 1; r < ROOMS; r++) {
            int many = home.howManyReach(r);
            if (many > most) {
                best = r;
                most = many;
            }
        }
        return best;
    }

    public int note(int room, int t) {
        if (!isRoom(room) || !within(t, NONE, ROOMS - 1)) {
            return refuseBad();
        }
        if (home.notes >= NOTES) {
            return refuseFull();
        }
        home.addNote(room, t);
        return home.notes;
    }

    public int forget() {
        int before = home.notes;
        home.notes = 0;
        return before;
    }

    public int which() {
        return home.bitsFitting();
    }

    public int stand() {
        int bits = home.bitsFitting();
        if (bits == 0) {
            return NONE;
        }
        search.learnAlike(home);
        return search.roomOfSmallestGroups(bits);
    }

    public int is(int k, int s, int beeped) {
        if (!isAlarm(k) || !isSecond(s) || !within(beeped, 0, 1)) {
            return refuseBad();
        }
        int bits = 0;
        for (int i = 0; i < KINDS; i++) {
            if (home.kinds[i].sounds(s, home.now.cold, home.now.battery[k]) == (beeped == 1)) {
                bits |= 1 << i;
            }
        }
        return bits;
    }

    public int missed(int room, int s, int c) {
        if (!isRoom(room) || !isSecond(s) || !within(c, 0, 10)) {
            return refuseBad();
        }
        setTenths(Integer.bitCount(home.bitsHeard(room, s)) * (10 - c));
        return 1;
    }

    public int nights(int seed, int n) {
        if (!within(seed, 0, 999999) || !within(n, 0, 60)) {
            return refuseBad();
        }
        int loudNights = 0;
        long x = seed;
        for (int i = 0; i < n; i++) {
            x = (x * 1103515245L + 12345L) % 2147483648L;
            int room = (int) (x / 65536L % ROOMS);
            int cold = (int) (x / 1048576L % (COLD_MOST + 1));
            if (home.everHeard(room, cold)) {
                loudNights++;
            }
        }
        return loudNights;
    }

    // ---- what there is

    public long part(int what) {
        if (!within(what, 0, 1)) {
            return refuseBad();
        }
        return what == 0 ? above : below;
    }

    public int image(int i) {
        if (!within(i, 0, IMAGES - 1)) {
            return refuseBad();
        }
        images[i].copyFrom(home);
        kept[i] = true;
        return 1;
    }

    public int from(int i) {
        if (!within(i, 0, IMAGES - 1)) {
            return refuseBad();
        }
        if (!kept[i]) {
            return refuseNo();
        }
        home.copyFrom(images[i]);
        return 1;
    }

    public int status(int what) {
        switch (what) {
            case 0:
                return badCalls;
            case 1:
                return noCalls;
            case 2:
                return fullCalls;
            default:
                badCalls++;
                return NONE;
        }
    }

    public int count(int what) {
        return within(what, 0, COUNTS - 1) ? howMany(what) : refuseBad();
    }

    public long digest() {
        long h = 1229;
        for (int what = 0; what < COUNTS; what++) {
            h = mix(h, howMany(what));
        }
        h = home.mixAll(h);
        return mix(mix(h, above), below);
    }

    // ---- what the calls share

    private int howMany(int what) {
        switch (what) {
            case 0:
                return home.alarms;
            case 1:
                return home.now.second;
            case 2:
                return home.now.place;
            case 3:
                return home.now.cold;
            case 4:
                return Integer.bitCount(home.now.down);
            case 5:
                return home.notes;
            case 6:
                return home.undos;
            default:
                return text.length;
        }
    }

    private void setTenths(int tenths) {
        for (int d = 10; d > 0; d--) {
            if (10 % d == 0 && tenths % d == 0) {
                above = tenths / d;
                below = 10 / d;
                return;
            }
        }
    }

    private int refuseBad() {
        badCalls++;
        return BAD;
    }

    private int refuseNo() {
        noCalls++;
        return NO;
    }

    private int refuseFull() {
        fullCalls++;
        return FULL;
    }

    private boolean isAlarm(int k) {
        return within(k, 0, home.alarms - 1);
    }

    private static boolean isRoom(int r) {
        return within(r, 0, ROOMS - 1);
    }

    private static boolean isSecond(int s) {
        return within(s, 0, LAST_SECOND);
    }

    private static boolean within(int v, int least, int most) {
        return v >= least && v <= most;
    }

    private static boolean has(int bits, int k) {
        return (bits >> k & 1) == 1;
    }

    private static long mix(long h, long v) {
        return 31 * h + v;
    }

    // ---- the kinds, each under the one that the document tells

    private static class Plain {
        boolean sounds(int s, int c, int b) {
            return s % 41 == 0 && b - c < 20;
        }

        int loud() {
            return 20;
        }

        boolean soundsDown() {
            return false;
        }

        final boolean everSounds(int c, int b) {
            for (int i = 0; i < TELLING_SECONDS.length; i++) {
                if (sounds(TELLING_SECONDS[i], c, b)) {
                    return true;
                }
            }
            return false;
        }
    }

    private static class Old extends Plain {
        boolean sounds(int s, int c, int b) {
            return super.sounds(s, c, b - 10);
        }
    }

    private static final class Wired extends Plain {
        boolean sounds(int s, int c, int b) {
            return super.sounds(s, c, b) || s % 41 == 20 && b - c < 10;
        }

        int loud() {
            return 2 * super.loud();
        }
    }

    private static class Drawer extends Plain {
        int loud() {
            return super.loud() - 12;
        }

        boolean soundsDown() {
            return true;
        }
    }

    private static final class Phone extends Drawer {
        boolean sounds(int s, int c, int b) {
            return s % 30 == 7;
        }

        int loud() {
            return super.loud() + 1;
        }
    }

    private static final class Fresh extends Old {
        boolean sounds(int s, int c, int b) {
            return c >= 5 && super.sounds(s, c, b);
        }
    }

    /** Just what UNDO brings back. */
    private static final class Moment {
        final int[] battery = new int[ALARMS];
        int second;
        int place;
        int cold;
        int down;

        void copyFrom(Moment other) {
            System.arraycopy(other.battery, 0, battery, 0, ALARMS);
            second = other.second;
            place = other.place;
            cold = other.cold;
            down = other.down;
        }

        void setDown(int k, int isDown) {
            down = down & ~(1 << k) | isDown << k;
        }
    }

    /** Just what an IMAGE keeps. */
    private static final class Home {
        final Plain[] kinds;
        final int[] doors = new int[ROOMS * ROOMS];
        final int[] distance = new int[ROOMS * ROOMS];
        final int[] kind = new int[ALARMS];
        final int[] room = new int[ALARMS];
        final int[] noteRoom = new int[NOTES];
        final int[] noteThrough = new int[NOTES];
        final Moment now = new Moment();
        final Moment[] past = new Moment[UNDOS];
        boolean measured;
        int alarms;
        int notes;
        int undos;

        Home() {
            kinds = new Plain[] {new Plain(), new Old(), new Wired(), new Drawer(), new Phone(), new Fresh()};
            for (int i = 0; i < UNDOS; i++) {
                past[i] = new Moment();
            }
            reset();
        }

        void reset() {
            for (int i = 0; i < doors.length; i++) {
                doors[i] = NONE;
            }
            measured = false;
            alarms = 0;
            notes = 0;
            undos = 0;
            now.second = 0;
            now.place = 0;
            now.cold = COLD_AT_FIRST;
            now.down = 0;
        }

        void copyFrom(Home other) {
            System.arraycopy(other.doors, 0, doors, 0, doors.length);
            System.arraycopy(other.distance, 0, distance, 0, distance.length);
            System.arraycopy(other.kind, 0, kind, 0, ALARMS);
            System.arraycopy(other.room, 0, room, 0, ALARMS);
            System.arraycopy(other.noteRoom, 0, noteRoom, 0, NOTES);
            System.arraycopy(other.noteThrough, 0, noteThrough, 0, NOTES);
            now.copyFrom(other.now);
            for (int i = 0; i < UNDOS; i++) {
                past[i].copyFrom(other.past[i]);
            }
            measured = other.measured;
            alarms = other.alarms;
            notes = other.notes;
            undos = other.undos;
        }

        int doorBetween(int a, int b) {
            return doors[a * ROOMS + b];
        }

        void setDoor(int a, int b, int length) {
            doors[a * ROOMS + b] = length;
            doors[b * ROOMS + a] = length;
            measured = false;
        }

        void addAlarm(int itsKind, int itsRoom, int itsBattery) {
            kind[alarms] = itsKind;
            room[alarms] = itsRoom;
            now.battery[alarms] = itsBattery;
            alarms++;
            undos = 0;
        }

        void addNote(int r, int t) {
            noteRoom[notes] = r;
            noteThrough[notes] = t;
            notes++;
        }

        /** The oldest moment gives its object to the newest, so that no call makes one. */
        void remember() {
            if (undos >= UNDOS) {
                Moment oldest = past[0];
                for (int i = 1; i < UNDOS; i++) {
                    past[i - 1] = past[i];
                }
                past[UNDOS - 1] = oldest;
                undos = UNDOS - 1;
            }
            past[undos].copyFrom(now);
            undos++;
        }

        void goBack() {
            undos--;
            now.copyFrom(past[undos]);
        }

        void pass(int seconds) {
            now.second = Math.min(LAST_SECOND, now.second + seconds);
        }

        int allBits() {
            return (1 << alarms) - 1;
        }

        Plain kindOf(int k) {
            return kinds[kind[k]];
        }

        /** UNJOINED, if there is no way. */
        int distanceBetween(int a, int b) {
            if (!measured) {
                measure();
                measured = true;
            }
            return distance[a * ROOMS + b];
        }

        /** Done when first asked for, as many doors are told in a row and a longer one undoes shorter ways. */
        private void measure() {
            for (int i = 0; i < doors.length; i++) {
                distance[i] = doors[i] == NONE ? UNJOINED : doors[i];
            }
            for (int r = 0; r < ROOMS; r++) {
                distance[r * ROOMS + r] = 0;
            }
            for (int via = 0; via < ROOMS; via++) {
                for (int a = 0; a < ROOMS; a++) {
                    int toVia = distance[a * ROOMS + via];
                    for (int b = 0; b < ROOMS && toVia < UNJOINED; b++) {
                        int detour = toVia + distance[via * ROOMS + b];
                        distance[a * ROOMS + b] = Math.min(distance[a * ROOMS + b], detour);
                    }
                }
            }
        }

        boolean mayBeep(int k) {
            return !has(now.down, k) || kindOf(k).soundsDown();
        }

        boolean soundsIn(int k, int s) {
            return mayBeep(k) && kindOf(k).sounds(s, now.cold, now.battery[k]);
        }

        boolean reaches(int r, int k) {
            return kindOf(k).loud() > distanceBetween(r, room[k]);
        }

        int bitsHeard(int r, int s) {
            int bits = 0;
            for (int k = 0; k < alarms; k++) {
                if (soundsIn(k, s) && reaches(r, k)) {
                    bits |= 1 << k;
                }
            }
            return bits;
        }

        boolean everHeard(int r, int cold) {
            for (int k = 0; k < alarms; k++) {
                if (mayBeep(k) && reaches(r, k) && kindOf(k).everSounds(cold, now.battery[k])) {
                    return true;
                }
            }
            return false;
        }

        int howManyReach(int r) {
            int many = 0;
            for (int k = 0; k < alarms; k++) {
                if (reaches(r, k)) {
                    many++;
                }
            }
            return many;
        }

        /** The room through which an alarm would be heard; NONE, if it would not be. */
        int entrance(int r, int k) {
            int whole = distanceBetween(r, room[k]);
            if (kindOf(k).loud() <= whole) {
                return NONE;
            }
            for (int n = 0; n < ROOMS && whole > 0; n++) {
                int length = doorBetween(r, n);
                if (length != NONE && length + distanceBetween(n, room[k]) == whole) {
                    return n;
                }
            }
            return r;
        }

        boolean toldApart(int r, int i, int j) {
            return entrance(r, i) != entrance(r, j);
        }

        int bitsFitting() {
            int bits = 0;
            for (int k = 0; k < alarms; k++) {
                if (fitsNotes(k)) {
                    bits |= 1 << k;
                }
            }
            return bits;
        }

        private boolean fitsNotes(int k) {
            for (int i = 0; i < notes; i++) {
                if (entrance(noteRoom[i], k) != noteThrough[i]) {
                    return false;
                }
            }
            return true;
        }

        long mixAll(long start) {
            long h = start;
            for (int a = 0; a < ROOMS; a++) {
                for (int b = a + 1; b < ROOMS; b++) {
                    h = mix(h, doorBetween(a, b));
                }
            }
            for (int k = 0; k < alarms; k++) {
                h = mix(mix(h, kind[k]), room[k]);
                h = mix(mix(h, now.battery[k]), now.down >> k & 1);
            }
            for (int i = 0; i < notes; i++) {
                h = mix(mix(h, noteRoom[i]), noteThrough[i]);
            }
            return h;
        }
    }

    /** THE TEXT, and the token at which its reading stands. */
    private static final class Text {
        private static final int END = 0;
        private static final int WORD = 1;
        private static final int NUMBER = 2;
        private static final int STOP = 3;
        private static final int OTHER = 4;

        final char[] bytes = new char[TEXT_MOST];
        int length;
        int sort;
        int begin;
        int end;
        /** NONE for all but numbers of one or two figures. */
        int value;

        void add(char c) {
            if (length < bytes.length) {
                bytes[length] = c;
                length++;
            }
        }

        /** How many items; or -10 less the fault, which is always where the token begins at which it stops. */
        int tell(Home h) {
            end = 0;
            step();
            for (int items = 0; items < TEXT_MOST; items++) {
                if (items > 0 && sort == END) {
                    return items;
                }
                if (!item(h, items == 0)) {
                    break;
                }
            }
            return FAR_BELOW - begin;
        }

        private boolean item(Home h, boolean first) {
            if (says(HOUSE_WORD)) {
                return first && houseItem(h);
            }
            if (first) {
                return false;
            }
            if (says(DOOR_WORD)) {
                return doorItem(h);
            }
            if (says(ALARM_WORD)) {
                return h.alarms < ALARMS && alarmItem(h);
            }
            return says(DOWN_WORD) && downItem(h);
        }

        private boolean houseItem(Home h) {
            step();
            int c = number(0, COLD_MOST);
            if (c == NONE || !stop()) {
                return false;
            }
            h.now.cold = c;
            return true;
        }

        private boolean doorItem(Home h) {
            step();
            int a = number(0, ROOMS - 1);
            if (a == NONE || value == a) {
                return false;
            }
            int b = number(0, ROOMS - 1);
            if (b == NONE) {
                return false;
            }
            int lengthTold = number(1, DOOR_MOST);
            if (lengthTold == NONE || !stop()) {
                return false;
            }
            h.setDoor(a, b, lengthTold);
            return true;
        }

        private boolean alarmItem(Home h) {
            step();
            int kind = number(0, KINDS - 1);
            if (kind == NONE) {
                return false;
            }
            int room = number(0, ROOMS - 1);
            if (room == NONE) {
                return false;
            }
            int battery = number(0, BATTERY_MOST);
            if (battery == NONE || !stop()) {
                return false;
            }
            h.addAlarm(kind, room, battery);
            return true;
        }

        private boolean downItem(Home h) {
            step();
            int k = number(0, h.alarms - 1);
            if (k == NONE || !stop()) {
                return false;
            }
            h.now.setDown(k, 1);
            return true;
        }

        /** Goes on behind a number that fits; stays at a token that does not, and answers NONE. */
        private int number(int least, int most) {
            if (sort != NUMBER || !within(value, least, most)) {
                return NONE;
            }
            int fitting = value;
            step();
            return fitting;
        }

        private boolean stop() {
            if (sort != STOP) {
                return false;
            }
            step();
            return true;
        }

        private boolean says(String word) {
            if (sort != WORD || end - begin != word.length()) {
                return false;
            }
            for (int i = 0; i < word.length(); i++) {
                if (bytes[begin + i] != word.charAt(i)) {
                    return false;
                }
            }
            return true;
        }

        private void step() {
            begin = behindRun(end, ' ', ' ');
            value = NONE;
            if (begin >= length) {
                sort = END;
                end = begin;
            } else if (within(bytes[begin], 'a', 'z')) {
                sort = WORD;
                end = behindRun(begin, 'a', 'z');
            } else if (within(bytes[begin], '0', '9')) {
                sort = NUMBER;
                end = behindRun(begin, '0', '9');
                value = valueOfFigures();
            } else {
                sort = bytes[begin] == ';' ? STOP : OTHER;
                end = begin + 1;
            }
        }

        private int behindRun(int start, char least, char most) {
            int i = start;
            while (i < length && bytes[i] >= least && bytes[i] <= most) {
                i++;
            }
            return i;
        }

        private int valueOfFigures() {
            if (end - begin > 2) {
                return NONE;
            }
            int v = 0;
            for (int i = begin; i < end; i++) {
                v = 10 * v + (bytes[i] - '0');
            }
            return v;
        }
    }

    /** The searches behind SURE, STAND and WALK, with rows made once so that no call makes any. */
    private static final class Search {
        /** By room and alarm: the alarms (bits) that sound there as this one does. */
        final int[] alike = new int[ROOMS * ALARMS];
        /** By alarms (bits): how often one must listen, and where first. */
        final int[] times = new int[1 << ALARMS];
        final int[] firstRoom = new int[1 << ALARMS];
        /** By alarm: through which room it comes in the one room that is looked at. */
        final int[] comes = new int[ALARMS];
        final int[] target = new int[ALARMS];
        /** By the target at which one is (ALARMS: at none yet) and the next one: how far that is. */
        final int[] leg = new int[(ALARMS + 1) * ALARMS];
        /** By targets (bits) and the target at which one is: the least way through all of them. */
        final int[] rest = new int[ALARMS << ALARMS];
        int targets;

        void learnAlike(Home h) {
            for (int r = 0; r < ROOMS; r++) {
                for (int k = 0; k < h.alarms; k++) {
                    alike[r * ALARMS + k] = 1 << k;
                    comes[k] = h.entrance(r, k);
                    for (int i = 0; i < k; i++) {
                        if (comes[i] == comes[k]) {
                            alike[r * ALARMS + k] |= 1 << i;
                            alike[r * ALARMS + i] |= 1 << k;
                        }
                    }
                }
            }
        }

        /** Parts of a set are lesser numbers, so each set finds its parts settled. */
        void settleAll(int alarms) {
            for (int set = 1; set <= alarms && set < times.length; set++) {
                if ((set & ~alarms) == 0) {
                    settle(set);
                }
            }
        }

        private void settle(int set) {
            firstRoom[set] = 0;
            if (Integer.bitCount(set) == 1) {
                times[set] = 0;
                return;
            }
            times[set] = NEVER;
            for (int r = 0; r < ROOMS; r++) {
                int needed = 1 + worstPart(set, r);
                if (needed < times[set]) {
                    times[set] = needed;
                    firstRoom[set] = r;
                }
            }
        }

        private int worstPart(int set, int r) {
            int worst = 0;
            for (int k = 0; k < ALARMS; k++) {
                if (has(set, k)) {
                    int part = set & alike[r * ALARMS + k];
                    if (part == set) {
                        return NEVER;
                    }
                    worst = Math.max(worst, times[part]);
                }
            }
            return worst;
        }

        int roomOfSmallestGroups(int bits) {
            int best = 0;
            int fewest = greatestGroup(bits, 0);
            for (int r = 1; r < ROOMS; r++) {
                int group = greatestGroup(bits, r);
                if (group < fewest) {
                    best = r;
                    fewest = group;
                }
            }
            return best;
        }

        private int greatestGroup(int bits, int r) {
            int greatest = 0;
            for (int k = 0; k < ALARMS; k++) {
                if (has(bits, k)) {
                    greatest = Math.max(greatest, Integer.bitCount(bits & alike[r * ALARMS + k]));
                }
            }
            return greatest;
        }

        void findTargets(Home h) {
            targets = 0;
            for (int k = 0; k < h.alarms; k++) {
                Plain kind = h.kindOf(k);
                boolean hangs = !has(h.now.down, k) && !kind.soundsDown();
                if (hangs && kind.everSounds(h.now.cold, h.now.battery[k])) {
                    target[targets] = k;
                    targets++;
                }
            }
        }

        void measureLegs(Home h) {
            for (int j = 0; j < targets; j++) {
                int goal = h.room[target[j]];
                leg[ALARMS * ALARMS + j] = h.distanceBetween(h.now.place, goal);
                for (int i = 0; i < targets; i++) {
                    leg[i * ALARMS + j] = h.distanceBetween(h.room[target[i]], goal);
                }
            }
        }

        boolean allJoined() {
            for (int i = 0; i < targets; i++) {
                if (leg[ALARMS * ALARMS + i] >= UNJOINED) {
                    return false;
                }
            }
            return true;
        }

        /** Sets with one target less are lesser numbers, so each set finds them filled. */
        void fillRest() {
            for (int set = 1; set < 1 << targets; set++) {
                for (int at = 0; at < targets; at++) {
                    if (!has(set, at)) {
                        rest[set * ALARMS + at] = leastFrom(set, at);
                    }
                }
            }
        }

        private int leastFrom(int set, int at) {
            int least = set == 0 ? 0 : UNJOINED;
            for (int i = 0; i < targets; i++) {
                if (has(set, i)) {
                    least = Math.min(least, leastBy(set, at, i));
                }
            }
            return least;
        }

        private int leastBy(int set, int at, int i) {
            return leg[at * ALARMS + i] + rest[(set & ~(1 << i)) * ALARMS + i];
        }

        int wholeWay() {
            return leastFrom((1 << targets) - 1, ALARMS);
        }

        /** The targets stand by rising number, so the least that keeps the way least makes the first order. */
        int targetAt(int place) {
            int set = (1 << targets) - 1;
            int at = ALARMS;
            for (int n = 0; n <= place && set != 0; n++) {
                at = firstOfLeast(set, at);
                set &= ~(1 << at);
            }
            return at < targets ? target[at] : NONE;
        }

        private int firstOfLeast(int set, int at) {
            int least = leastFrom(set, at);
            int chosen = 0;
            for (int i = targets - 1; i >= 0; i--) {
                if (has(set, i) && leastBy(set, at, i) == least) {
                    chosen = i;
                }
            }
            return chosen;
        }
    }
}
