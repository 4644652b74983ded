import java.math.BigInteger;
import java.util.ArrayList;
import java.util.List;

/**
 * Each sentence of the document that names a bound, under its promise: the call just inside and the call just
 * outside; of a refused call what it answers, what it counts, and that nothing else is changed by it.
 */
public final class EdgeTest {
    /** Makes the same object again and again, so that two of them can be laid side by side. */
    private interface Maker {
        BeepHouse make();
    }

    private interface Call {
        long on(BeepHouse x);
    }

    private interface CallWith {
        long on(BeepHouse x, int v);
    }

    private static final int COUNTS_BAD = 0;
    private static final int COUNTS_NO = 1;
    private static final int COUNTS_FULL = 2;
    private static final int COUNTS_NOTHING = -1;
    private static final int[] LOUD = {20, 20, 40, 8, 9, 20};

    private static final int PROMISES = 37;

    private static final int[] tested = new int[PROMISES + 1];
    private static int wrong = 0;
    private static int promise = 0;

    public static void main(String[] args) {
        houses();
        seconds();
        beeps();
        whichItIs();
        whatThereIs();
        int all = 0;
        for (promise = 1; promise <= PROMISES; promise++) {
            all += tested[promise];
            due("it has tests", tested[promise] > 0 ? 1 : 0, 1);
        }
        System.out.println(wrong == 0 ? "EdgeTest: " + all + " answers at the bounds are due" : "EdgeTest: " + wrong + " answers are wrong");
        if (wrong != 0) {
            System.exit(1);
        }
    }

    private static void houses() {
        newObject();
        house();
        houseLeavesNothingBehind();
        door();
        doorLengths();
        alarm();
        alarmsAreFull();
        type();
        clear();
        textBytes();
        textTooLong();
        textHouse();
        textDoor();
        textAlarm();
        textDown();
        textTokens();
        textSigns();
        textEnds();
        readTakesThePlace();
    }

    private static void seconds() {
        waits();
        waitsToTheEnd();
        walk();
        walkToTheEnd();
        take();
        battery();
        cold();
        undo();
        undoEightAtMost();
        undoBehindAnAlarm();
        of();
        far();
    }

    private static void beeps() {
        beepsBounds();
        beepsByBattery();
        beepsBySecond();
        beepsDown();
        heard();
        heardByLoudness();
        through();
        throughByLoudness();
        next();
        nextAtTheEnd();
        coldest();
    }

    private static void whichItIs() {
        sure();
        sureHowOften();
        way();
        wayTargets();
        two();
        beside();
        note();
        forget();
        which();
        stand();
        is();
        missed();
        missedFractions();
        nights();
        nightsSeeds();
    }

    private static void whatThereIs() {
        part();
        image();
        imageKeeps();
        from();
        fromLeaves();
        status();
        count();
        digest();
    }

    // ------------------------------------------------------------------ what the tests share

    private static void due(String sentence, long got, long want) {
        tested[promise]++;
        if (got != want) {
            wrong++;
            System.out.println("promise " + promise + ": " + sentence + ": answered " + got + ", due is " + want);
        }
    }

    /** The answer, the one STATUS that is counted, if any is, and that two like objects are still alike but for it. */
    private static void looks(String sentence, Maker maker, Call call, long answer, int counted) {
        BeepHouse touched = maker.make();
        BeepHouse untouched = maker.make();
        due(sentence, call.on(touched), answer);
        for (int what = 0; what < 3; what++) {
            int more = what == counted ? 1 : 0;
            due(sentence + ", status(" + what + ")", touched.status(what), untouched.status(what) + more);
        }
        List<Long> left = seen(touched);
        List<Long> right = seen(untouched);
        due(sentence + ", nothing else changed", left.equals(right) ? 1 : 0, 1);
    }

    /** Refused as BAD, in a house that is full of all and in one that is new. */
    private static void bad(String sentence, long answer, Call call) {
        looks(sentence + ", BAD", EdgeTest::rich, call, answer, COUNTS_BAD);
        looks(sentence + ", BAD, new", BeepHouse::new, call, answer, COUNTS_BAD);
    }

    /** Every number just outside, and far outside, of least to most. */
    private static void badOutside(String sentence, int least, int most, CallWith call) {
        badOutside(sentence, least, most, -2, call);
    }

    private static void badOutside(String sentence, int least, int most, long answer, CallWith call) {
        int[] outside = {least - 1, most + 1, least - 64, most + 32, most + 64, Integer.MIN_VALUE, Integer.MAX_VALUE};
        for (int v : outside) {
            bad(sentence + " " + v, answer, x -> call.on(x, v));
        }
    }

    /** A call that only asks: its answer, and nothing at all changed by it. */
    private static void asked(String sentence, Maker maker, Call call, long answer) {
        looks(sentence, maker, call, answer, COUNTS_NOTHING);
    }

    private static void askedInside(String sentence, int least, int most, CallWith call) {
        for (int v : new int[] {least, most}) {
            long answer = call.on(rich(), v);
            due(sentence + " " + v + " is not refused", answer >= -1 ? 1 : 0, 1);
            asked(sentence + " " + v, EdgeTest::rich, x -> call.on(x, v), answer);
        }
    }

    /** All that calls can tell of an object but STATUS, in a row; the object is another one behind it. */
    private static List<Long> seen(BeepHouse x) {
        List<Long> row = new ArrayList<>();
        for (int what = 0; what < 8; what++) {
            row.add((long) x.count(what));
        }
        row.add(x.part(0));
        row.add(x.part(1));
        seenBackward(x, row);
        for (int i = 0; i < 2; i++) {
            row.add((long) x.from(i));
            seenBackward(x, row);
        }
        row.add((long) x.read());
        row.add(x.digest());
        return row;
    }

    private static void seenBackward(BeepHouse x, List<Long> row) {
        row.add(x.digest());
        for (int a = 0; a < 8; a++) {
            for (int b = a + 1; b < 8; b++) {
                row.add((long) x.far(a, b));
            }
        }
        for (int i = 0; i < 9; i++) {
            row.add((long) x.undo());
            row.add(x.digest());
        }
    }

    /** Something of everything: six ALARMS and NOTES, eight to undo, both IMAGES, a TEXT, a FRACTION; ROOM 7 is not joined. */
    private static BeepHouse rich() {
        BeepHouse x = new BeepHouse();
        for (int r = 0; r < 6; r++) {
            x.door(r, r + 1, r + 2);
        }
        for (int k = 0; k < 6; k++) {
            x.alarm(k, k, 5 * k);
            x.note(k, k - 1);
        }
        x.waits(3);
        x.battery(2, 9);
        x.image(0);
        x.walk(3);
        x.take(3, 1);
        x.cold(6);
        x.battery(1, 1);
        x.walk(4);
        x.take(4, 1);
        x.waits(50);
        x.image(1);
        x.cold(8);
        x.waits(4);
        x.missed(0, 41, 7);
        add(x, "house 4;alarm 1 2 3;");
        x.image(2);
        x.walk(7);
        x.alarm(0, 0, 0);
        return x;
    }

    /** ROOMS 0 - 1 - .. - 7 in a row. */
    private static BeepHouse chain(int length) {
        BeepHouse x = new BeepHouse();
        for (int r = 0; r < 7; r++) {
            x.door(r, r + 1, length);
        }
        return x;
    }

    /** ROOM 7 as FAR from ROOM 0 as told, by as few DOORS as can be. */
    private static BeepHouse apart(int distance) {
        BeepHouse x = new BeepHouse();
        int at = 0;
        int left = distance;
        while (left > 9) {
            x.door(at, at + 1, 9);
            at++;
            left -= 9;
        }
        x.door(at, 7, left);
        return x;
    }

    private static BeepHouse withAlarms(int kind, int... rooms) {
        BeepHouse x = new BeepHouse();
        for (int r : rooms) {
            x.alarm(kind, r, 0);
        }
        return x;
    }

    private static void waitUntil(BeepHouse x, int second) {
        for (int i = 0; i < 200 && x.count(1) < second; i++) {
            x.waits(Math.min(99, second - x.count(1)));
        }
    }

    private static void add(BeepHouse x, String text) {
        for (int i = 0; i < text.length(); i++) {
            x.type(text.charAt(i));
        }
    }

    private static BeepHouse typed(BeepHouse x, String text) {
        x.clear();
        add(x, text);
        return x;
    }

    private static String blanks(int n) {
        return " ".repeat(n);
    }

    // ------------------------------------------------------------------ 1 to 7: a house

    private static void newObject() {
        promise = 1;
        int[] counts = {0, 0, 0, 3, 0, 0, 0, 0};
        for (int what = 0; what < 8; what++) {
            due("at first, count(" + what + ")", new BeepHouse().count(what), counts[what]);
        }
        for (int a = 0; a < 8; a++) {
            for (int b = 0; b < 8; b++) {
                if (a != b) {
                    due("DOORS: none at first", new BeepHouse().door(a, b, 1), -1);
                }
                due("FAR, without DOORS", new BeepHouse().far(a, b), a == b ? 0 : -1);
            }
            due("no ALARMS, nothing HEARD", new BeepHouse().heard(a, 0), 0);
        }
        due("THE FRACTION is 0 by 1 at first, above", new BeepHouse().part(0), 0);
        due("THE FRACTION is 0 by 1 at first, below", new BeepHouse().part(1), 1);
        for (int what = 0; what < 3; what++) {
            due("STATUS at first", new BeepHouse().status(what), 0);
        }
        due("no IMAGE 0", new BeepHouse().from(0), -3);
        due("no IMAGE 1", new BeepHouse().from(1), -3);
        due("nothing to undo", new BeepHouse().undo(), -3);
        due("no ALARMS", new BeepHouse().house(), 0);
        due("an empty TEXT", new BeepHouse().clear(), 0);
        due("no NOTES", new BeepHouse().forget(), 0);
        BeepHouse longUsed = new BeepHouse();
        for (int i = 0; i < 511; i++) {
            longUsed.waits(1);
        }
        due("at most 512 calls: the 512th", longUsed.count(1), 511);
        BeepHouse used = rich();
        due("one object knows nothing of another", new BeepHouse().digest() == used.digest() ? 1 : 0, 0);
        due("NONE", BeepHouse.NONE, -1);
        due("BAD", BeepHouse.BAD, -2);
        due("NO", BeepHouse.NO, -3);
        due("FULL", BeepHouse.FULL, -4);
    }

    private static void house() {
        promise = 2;
        for (int n = 0; n <= 6; n++) {
            due("how many ALARMS there were", withAlarms(0, new int[n]).house(), n);
        }
        BeepHouse x = rich();
        due("how many ALARMS there were", x.house(), 6);
        due("and then none", x.house(), 0);
        int[] counts = {0, 0, 0, 3, 0, 0, 0, 20};
        for (int what = 0; what < 8; what++) {
            due("all as at first, count(" + what + ")", x.count(what), counts[what]);
        }
        for (int r = 1; r < 8; r++) {
            due("all as at first, no DOORS", x.far(0, r), -1);
        }
        due("THE FRACTION stays, above", x.part(0), rich().part(0));
        due("THE FRACTION stays, below", x.part(1), rich().part(1));
        due("STATUS stays, BAD", x.status(0), 1);
        due("STATUS stays, NO", x.status(1), 1);
        due("STATUS stays, FULL", x.status(2), 1);
        due("nothing to undo", x.undo(), -3);
        due("THE TEXT stays", x.read(), 2);
        for (int i = 0; i < 2; i++) {
            BeepHouse y = rich();
            y.from(i);
            due("IMAGES stay", x.from(i), 1);
            due("IMAGES stay as they were", x.digest() == y.digest() ? 1 : 0, 1);
        }
    }

    private static void houseLeavesNothingBehind() {
        promise = 2;
        BeepHouse x = rich();
        x.house();
        for (int k = 0; k < 6; k++) {
            due("ALARMS from 0 on again", x.alarm(0, k, 50 + k), k);
            due("up at first", x.of(k, 3), 0);
            due("with its own BATTERY", x.of(k, 2), 50 + k);
            due("NOTES from 1 on again", x.note(0, 0), k + 1);
        }
        due("DOORS: none", x.door(0, 1, 4), -1);
        due("one to undo", x.cold(7), 3);
        due("one to undo", x.undo(), 0);
        due("and no other", x.undo(), -3);
    }

    private static void door() {
        promise = 3;
        badOutside("DOORS of ROOMS 0 .. 7, a", 0, 7, -10, (x, v) -> x.door(v, 3, 5));
        badOutside("DOORS of ROOMS 0 .. 7, b", 0, 7, -10, (x, v) -> x.door(3, v, 5));
        badOutside("a length of 1 to 9", 1, 9, -10, (x, v) -> x.door(3, 4, v));
        badOutside("two wrong numbers are one BAD", 0, 7, -10, (x, v) -> x.door(v, v, v));
        for (int r = 0; r < 8; r++) {
            int same = r;
            bad("between two unlike ROOMS, " + r, -10, x -> x.door(same, same, 5));
        }
        BeepHouse x = new BeepHouse();
        due("ROOMS 0, 7", x.door(0, 7, 5), -1);
        due("ROOMS 6, 7", x.door(6, 7, 5), -1);
        due("ROOMS 1, 0", x.door(1, 0, 5), -1);
        due("either way", x.far(0, 7) * 100 + x.far(7, 0), 505);
        due("either way: it was there", x.door(7, 0, 5), 5);
        due("not one that may be undone", x.count(6), 0);
    }

    private static void doorLengths() {
        promise = 3;
        BeepHouse x = new BeepHouse();
        int before = -1;
        for (int length : new int[] {1, 9, 9, 1, 5, 4, 6}) {
            due("how long it was", x.door(2, 3, length), before);
            due("the last one told counts", x.far(2, 3), length);
            due("the last one told counts, back", x.far(3, 2), length);
            before = length;
        }
        BeepHouse y = rich();
        due("a DOOR takes nothing that may be undone away", y.door(0, 7, 1), -1);
        due("a DOOR takes nothing that may be undone away", y.count(6), 8);
    }

    private static void alarm() {
        promise = 4;
        badOutside("KINDS 0 .. 5", 0, 5, (x, v) -> x.alarm(v, 0, 0));
        badOutside("ROOMS 0 .. 7", 0, 7, (x, v) -> x.alarm(0, v, 0));
        badOutside("a BATTERY (0 .. 99)", 0, 99, (x, v) -> x.alarm(0, 0, v));
        int[][] inside = {{0, 0, 0}, {5, 7, 99}, {0, 7, 99}, {5, 0, 0}, {5, 0, 99}, {0, 7, 0}};
        BeepHouse x = new BeepHouse();
        for (int k = 0; k < 6; k++) {
            due("ALARMS 0 .. 5, as they come", x.alarm(inside[k][0], inside[k][1], inside[k][2]), k);
            due("how many", x.count(0), k + 1);
            for (int what = 0; what < 3; what++) {
                due("as told", x.of(k, what), inside[k][what]);
            }
            due("up at first", x.of(k, 3), 0);
        }
        due("none refused", x.status(0) + x.status(1) + x.status(2), 0);
    }

    private static void alarmsAreFull() {
        promise = 4;
        looks("FULL: 6", EdgeTest::rich, x -> x.alarm(0, 0, 0), -4, COUNTS_FULL);
        looks("FULL: 6, just behind the 6th", () -> withAlarms(0, 0, 1, 2, 3, 4, 5), x -> x.alarm(5, 7, 99), -4, COUNTS_FULL);
        due("the 6th is none too many", withAlarms(0, 0, 1, 2, 3, 4).alarm(5, 7, 99), 5);
        looks("BAD is ahead of FULL", EdgeTest::rich, x -> x.alarm(6, 0, 0), -2, COUNTS_BAD);
        BeepHouse x = rich();
        x.house();
        due("FULL no more behind house()", x.alarm(0, 0, 0), 0);
    }

    private static void type() {
        promise = 5;
        badOutside("a byte (0 .. 127)", 0, 127, (x, v) -> x.type(v));
        for (int c = 0; c < 128; c++) {
            BeepHouse x = new BeepHouse();
            due("a byte (0 .. 127)", x.type(c), 1);
            due("how many it has", x.count(7), 1);
        }
        BeepHouse x = new BeepHouse();
        for (int n = 1; n <= 150; n++) {
            due("how many it has", x.type(n % 128), n);
        }
        looks("FULL: 150", () -> typed(rich(), blanks(150)), y -> y.type(32), -4, COUNTS_FULL);
        looks("BAD is ahead of FULL", () -> typed(rich(), blanks(150)), y -> y.type(128), -2, COUNTS_BAD);
        due("the 150th is none too many", typed(new BeepHouse(), blanks(149)).type(127), 150);
        due("a byte is not one that may be undone", x.count(6), 0);
    }

    private static void clear() {
        promise = 6;
        for (int n : new int[] {0, 1, 149, 150}) {
            BeepHouse x = typed(new BeepHouse(), blanks(n));
            due("how many it had", x.clear(), n);
            due("empty", x.count(7), 0);
            due("empty: how many it had", x.clear(), 0);
            due("empty: the FAULT is its length", x.read(), -10);
            due("FULL no more", x.type(32), 1);
        }
        BeepHouse x = rich();
        BeepHouse y = rich();
        due("how many it had", x.clear(), 20);
        due("its bytes are gone", typed(x, "house 4;alarm 1 2 3;").count(7), 20);
        due("THE TEXT alone is changed", seen(x).equals(seen(y)) ? 1 : 0, 1);
    }

    /** Read as so many ITEMS, in a house that is full of all, and counted as no refusal. */
    private static BeepHouse good(String sentence, String text, int items) {
        promise = 7;
        BeepHouse x = typed(rich(), text);
        due(sentence + ": " + text, x.read(), items);
        due(sentence + ": " + text + ", STATUS", x.status(0) * 100 + x.status(1) * 10 + x.status(2), 111);
        return x;
    }

    private static void fault(String sentence, String text, int place) {
        promise = 7;
        looks(sentence + ": " + text, () -> typed(rich(), text), x -> x.read(), -10 - place, COUNTS_NOTHING);
    }

    private static void textBytes() {
        String doors = "door 0 1 2;".repeat(12);
        good("150 bytes", "house 1;" + doors + "door0 1 2;", 14);
        good("150 bytes, blanks behind", "house 1;" + blanks(142), 1);
        good("150 bytes, blanks ahead", blanks(142) + "house 1;", 1);
        fault("150 bytes, ends too early", "house 1;" + doors + "door 0 1 2", 150);
        fault("150 bytes, the last one wrong", "house 1;" + blanks(141) + ";", 149);
        fault("150 bytes, all blank", blanks(150), 150);
    }

    private static void textTooLong() {
        promise = 7;
        BeepHouse x = typed(new BeepHouse(), "house 1;" + blanks(142));
        due("a byte too many is not there", x.type(';'), -4);
        due("a byte too many is not there", x.read(), 1);
        String sixAlarms = "alarm 0 0 0;".repeat(6);
        BeepHouse y = good("a HOUSE of six ALARMS", "house 1;" + sixAlarms, 7);
        due("and FULL it is", y.alarm(0, 0, 0), -4);
        fault("a 7th alarm at its word", "house 1;" + sixAlarms + "alarm 0 0 0;", 80);
        fault("a 7th alarm at its word, cut off behind it", "house 1;" + sixAlarms + "alarm", 80);
        fault("a 7th alarm at its word, ahead of a wrong number", "house 1;" + sixAlarms + "  alarm 9 9 9;", 82);
        good("other ITEMS behind the 6th", "house 1;" + sixAlarms + "down 5;door 6 7 9;", 9);
    }

    private static void textHouse() {
        for (int c = 0; c <= 9; c++) {
            due("COLD (0 .. 9)", good("COLD (0 .. 9)", "house " + c + ";", 1).count(3), c);
            due("COLD of two figures", good("COLD of two figures", "house 0" + c + ";", 1).count(3), c);
        }
        fault("COLD (0 .. 9)", "house 10;", 6);
        fault("COLD (0 .. 9)", "house 99;", 6);
        fault("a third figure's number", "house 000;", 6);
        fault("a third figure's number", "house 001;", 6);
        fault("house once", "house 1;house 1;", 8);
        fault("house once, also behind others", "house 1;door 0 1 2;house 1;", 19);
        fault("house once, whatever is behind it", "house 1;house", 8);
        fault("house first of all: a door ahead", "door 0 1 2;house 1;", 0);
        fault("house first of all: an alarm ahead", "alarm 0 0 0;house 1;", 0);
        fault("house first of all: a down ahead", " down 0;house 1;", 1);
        fault("house first of all: a number ahead", "1 house 1;", 0);
        fault("house first of all: a ; ahead", ";house 1;", 0);
        fault("each ended by ;", "house 1 door 0 1 2;", 8);
        fault("each ended by one ;", "house 1;;", 8);
        fault("house with one number", "house 1 2;", 8);
        fault("house with one number", "house ;", 6);
        fault("a number, not a word", "house one;", 6);
    }

    private static void textDoor() {
        BeepHouse x = good("ROOMS 0 .. 7, a length of 1 to 9", "house 1;door 0 7 9;door 7 1 1;", 3);
        due("ROOMS 0, 7", x.far(0, 7), 9);
        due("either way", x.far(1, 7), 1);
        fault("ROOMS 0 .. 7, a", "house 1;door 8 1 2;", 13);
        fault("ROOMS 0 .. 7, b", "house 1;door 1 8 2;", 15);
        fault("a length of 1 to 9", "house 1;door 0 1 0;", 17);
        fault("a length of 1 to 9", "house 1;door 0 1 10;", 17);
        fault("a third figure's number, a", "house 1;door 001 2 3;", 13);
        fault("a third figure's number, b", "house 1;door 1 002 3;", 15);
        fault("a third figure's number, length", "house 1;door 1 2 003;", 17);
        due("two figures", good("two figures", "house 1;door 01 02 03;", 2).far(1, 2), 3);
        for (int r = 0; r < 8; r++) {
            fault("two ROOMS of a door alike", "house 1;door " + r + " " + r + " 1;", 15);
        }
        fault("two ROOMS of a door alike, however told", "house 1;door 1 01 1;", 15);
        fault("two ROOMS of a door alike, ahead of what comes", "house 1;door 1 1 0", 15);
        fault("a ROOM too large, ahead of alike", "house 1;door 8 8 1;", 13);
        due("the last one told counts", good("the last one told counts", "house 1;door 0 1 2;door 1 0 9;", 3).far(0, 1), 9);
        fault("a door of three numbers", "house 1;door 0 1;", 16);
        fault("a door of three numbers", "house 1;door 0 1 2 3;", 19);
    }

    private static void textAlarm() {
        BeepHouse x = good("KIND 0 .. 5, ROOM 0 .. 7, BATTERY 0 .. 99", "house 1;alarm 0 0 0;alarm 5 7 99;", 3);
        due("the first one", x.of(0, 0) * 10000 + x.of(0, 1) * 1000 + x.of(0, 2) * 10 + x.of(0, 3), 0);
        due("the second one", x.of(1, 0) * 10000 + x.of(1, 1) * 1000 + x.of(1, 2) * 10 + x.of(1, 3), 57990);
        fault("KIND 0 .. 5", "house 1;alarm 6 0 0;", 14);
        fault("ROOM 0 .. 7", "house 1;alarm 0 8 0;", 16);
        fault("BATTERY 0 .. 99", "house 1;alarm 0 0 100;", 18);
        fault("a third figure's number", "house 1;alarm 0 0 000;", 18);
        fault("a third figure's number, KIND", "house 1;alarm 000 0 0;", 14);
        fault("a third figure's number, ROOM", "house 1;alarm 0 000 0;", 16);
        fault("the first that can not stand there", "house 1;alarm 6 8 100;", 14);
        fault("an alarm of three numbers", "house 1;alarm 0 0;", 17);
        fault("an alarm of three numbers", "house 1;alarm 0 0 0 0;", 20);
    }

    private static void textDown() {
        BeepHouse x = good("down k", "house 1;alarm 0 0 0;alarm 0 0 0;down 1;", 4);
        due("down k: that one alone", x.of(0, 3) * 10 + x.of(1, 3), 1);
        due("down again", good("down again", "house 1;alarm 0 0 0;down 0;down 0;", 4).count(4), 1);
        fault("an ALARM that is not there yet, of none", "house 1;down 0;", 13);
        fault("an ALARM that is not there yet, of one", "house 1;alarm 0 0 0;down 1;", 25);
        fault("an ALARM that comes later", "house 1;down 0;alarm 0 0 0;", 13);
        fault("an ALARM that never can be", "house 1;alarm 0 0 0;down 99;", 25);
        fault("a third figure's number", "house 1;alarm 0 0 0;down 000;", 25);
        due("two figures", good("two figures", "house 1;alarm 0 0 0;down 00;", 3).count(4), 1);
        fault("down of one number", "house 1;alarm 0 0 0;down;", 24);
        fault("down of one number", "house 1;alarm 0 0 0;down 0 0;", 27);
        String sixAlarms = "alarm 0 0 0;".repeat(6);
        due("the 6th", good("the 6th", "house 1;" + sixAlarms + "down 5;", 8).of(5, 3), 1);
        fault("the 7th", "house 1;" + sixAlarms + "down 6;", 85);
    }

    private static void textTokens() {
        good("blanks between, as many as there are", "  house   1  ;  door  0  1  2 ; ", 2);
        good("blanks, where words and numbers do without", "house1;door0 1 2;alarm0 0 0;down0;", 4);
        fault("figures side by side are one number", "house 1;door 01 2;", 17);
        fault("letters side by side are one word", "house 1;doordoor 0 1 2;", 8);
        fault("a word is not cut by a blank", "hou se 1;", 0);
        fault("a number is not cut by a blank", "house 0 1;", 8);
        fault("a word that is none: a letter less", "hous 1;", 0);
        fault("a word that is none: a letter more", "housee 1;", 0);
        fault("a word that is none: another letter", "houze 1;", 0);
        fault("a word that is none: another first letter", "mouse 1;", 0);
        fault("a word that is none: another last letter", "housy 1;", 0);
        fault("a word that is none: doo", "house 1;doo 0 1 2;", 8);
        fault("a word that is none: doors", "house 1;doors 0 1 2;", 8);
        fault("a word that is none: alar", "house 1;alar 0 0 0;", 8);
        fault("a word that is none: alarms", "house 1;alarms 0 0 0;", 8);
        fault("a word that is none: dow", "house 1;alarm 0 0 0;dow 0;", 20);
        fault("a word that is none: downs", "house 1;alarm 0 0 0;downs 0;", 20);
        fault("a word, where a number is due", "house 1;door 0 door 2;", 15);
        fault("a number, where a word is due", "house 1; 7;", 9);
        fault("a ; where a number is due", "house 1;door;", 12);
        fault("the first one of two", "house 1;door 0 0 0;door 9 9 9;", 15);
        fault("the first one, though another is good", "house 1;what;door 0 1 2;", 8);
    }

    /** The signs just beside a .. z, 0 .. 9, ; and the blank, and the least and the greatest byte. */
    private static void textSigns() {
        char[] none = {0, 9, 10, 13, 31, 33, 47, 58, 60, 64, 65, 90, 91, 95, 96, 123, 126, 127};
        for (char c : none) {
            fault("a byte that begins none, " + (int) c + " ahead", c + "house 1;", 0);
            fault("a byte that begins none, " + (int) c + " in the place of a blank", "house" + c + "1;", 5);
            fault("a byte that begins none, " + (int) c + " in the place of a number", "house " + c + ";", 6);
            fault("a byte that begins none, " + (int) c + " behind a number", "house 1" + c + ";", 7);
            fault("a byte that begins none, " + (int) c + " in the place of ;", "house 1" + c, 7);
            fault("a byte that begins none, " + (int) c + " behind all", "house 1;" + c, 8);
            fault("a byte that begins none, " + (int) c + " in a word", "hou" + c + "se 1;", 0);
        }
        fault("a is a letter", "house 1;a", 8);
        fault("z is a letter", "house 1;doorz 0 1 2;", 8);
        due("0 is a figure", good("0 is a figure", "house 0;", 1).count(3), 0);
        due("9 is a figure", good("9 is a figure", "house 9;", 1).count(3), 9);
        fault("capitals are no letters", "HOUSE 1;", 0);
    }

    private static void textEnds() {
        String whole = "house 1;alarm 0 2 34;door 5 6 7;down 0;";
        int[] itemEnds = {8, 21, 32, 39};
        int[] inWord = {1, 2, 3, 4, 9, 10, 11, 12, 22, 23, 24, 33, 34, 35};
        int[] wordBegin = {0, 0, 0, 0, 8, 8, 8, 8, 21, 21, 21, 32, 32, 32};
        for (int n = 0; n <= whole.length(); n++) {
            int place = n;
            for (int i = 0; i < inWord.length; i++) {
                place = inWord[i] == n ? wordBegin[i] : place;
            }
            int items = 0;
            for (int i = 0; i < itemEnds.length; i++) {
                items = itemEnds[i] == n ? i + 1 : items;
            }
            String text = whole.substring(0, n);
            if (items > 0) {
                good("ended by ;", text, items);
                good("ended by ;, and a blank", text + " ", items);
            } else {
                fault(place == n ? "it ends too early" : "a word that is none", text, place);
                fault("it ends too early, with blanks", text + blanks(3), place == n ? n + 3 : place);
            }
        }
        fault("an empty one", "", 0);
        fault("a blank alone", " ", 1);
    }

    private static void readTakesThePlace() {
        BeepHouse x = good("takes the place", "house 7;alarm 4 3 2;", 2);
        int[] counts = {1, 0, 0, 7, 0, 0, 0, 20};
        for (int what = 0; what < 8; what++) {
            due("takes the place, count(" + what + ")", x.count(what), counts[what]);
        }
        for (int r = 1; r < 8; r++) {
            due("DOORS are gone", x.far(0, r), -1);
        }
        due("THE FRACTION stays, above", x.part(0), rich().part(0));
        due("THE FRACTION stays, below", x.part(1), rich().part(1));
        due("nothing to undo", x.undo(), -3);
        due("THE TEXT stays", x.read(), 2);
        for (int i = 0; i < 2; i++) {
            BeepHouse y = rich();
            y.from(i);
            y.clear();
            due("IMAGES stay", x.from(i), 1);
            x.clear();
            due("IMAGES stay as they were", x.digest() == y.digest() ? 1 : 0, 1);
        }
        BeepHouse z = typed(new BeepHouse(), "house 1;down 0;");
        due("a HOUSE with a FAULT", z.read(), -23);
        due("all stays, COLD", z.count(3), 3);
        z.alarm(0, 0, 0);
        due("an ALARM of the house that was is none of the new one", z.read(), -23);
        due("the same again, when it is read again", typed(z, "house 1;door 0 1 2;").read() * 10 + z.read(), 22);
        looks("all stays, behind a HOUSE that was read, too", () -> {
            BeepHouse y = typed(rich(), "house 7;door 0 1 2;alarm 4 3 2;");
            y.read();
            y.waits(5);
            return typed(y, "house 1;door 0 1 9;down 0;");
        }, y -> y.read(), -10 - 24, COUNTS_NOTHING);
    }

    // ------------------------------------------------------------------ 8 to 15: seconds

    private static void waits() {
        promise = 8;
        badOutside("n (1 .. 99)", 1, 99, (x, v) -> x.waits(v));
        for (int n : new int[] {1, 2, 98, 99}) {
            BeepHouse x = new BeepHouse();
            due("n (1 .. 99)", x.waits(n), 0);
            due("SECONDS go by", x.count(1), n);
            due("together one that may be undone", x.count(6), 1);
            due("together one that may be undone", x.undo(), 0);
        }
        BeepHouse x = withAlarms(0, 0, 1, 0);
        due("HEARD in the SECOND then: one ahead of 41", x.waits(40), 0);
        due("HEARD in the SECOND then: 41", x.waits(1), 0b101);
        due("HEARD in the SECOND then: one behind 41", x.waits(1), 0);
        due("not those HEARD on the way", x.waits(80), 0);
        due("HEARD in the ROOM", x.waits(1), 0b101);
        due("nothing HEARD is no refusal", x.status(0) + x.status(1) + x.status(2), 0);
    }

    private static void waitsToTheEnd() {
        promise = 8;
        int[][] steps = {{9998, 1, 9999}, {9998, 2, 9999}, {9999, 1, 9999}, {9999, 99, 9999}, {9900, 99, 9999}, {9899, 99, 9998}, {9901, 99, 9999}};
        for (int[] s : steps) {
            BeepHouse x = withAlarms(0, 0);
            waitUntil(x, s[0]);
            int undone = x.count(6);
            due("9999 at most", x.waits(s[1]), 0);
            due("9999 at most, the SECOND", x.count(1), s[2]);
            due("one that may be undone all the same", x.count(6), undone);
            due("and undone", x.undo(), s[0]);
            due("no refusal", x.status(0), 0);
        }
        BeepHouse y = withAlarms(4, 0);
        waitUntil(y, 9990);
        due("HEARD near the end: 9997", y.waits(7), 1);
        BeepHouse z = withAlarms(0, 0);
        waitUntil(z, 9962);
        due("HEARD near the end: 9963", z.waits(1), 1);
        due("10004 does not come", z.waits(41), 0);
    }

    private static void walk() {
        promise = 9;
        badOutside("ROOMS 0 .. 7", 0, 7, (x, v) -> x.walk(v));
        looks("NO: it is not joined", EdgeTest::rich, x -> x.walk(7), -3, COUNTS_NO);
        looks("NO: it is not joined, new", BeepHouse::new, x -> x.walk(1), -3, COUNTS_NO);
        BeepHouse x = new BeepHouse();
        due("the ROOM where one is is joined, without DOORS", x.walk(0), 0);
        due("in no SECONDS", x.count(1), 0);
        due("one that may be undone", x.count(6), 1);
        BeepHouse y = chain(9);
        due("the farthest that can be", y.walk(7), 63);
        due("as many SECONDS", y.count(1), 63);
        due("the ROOM", y.count(2), 7);
        due("and back to ROOM 0", y.walk(0), 63);
        due("as many SECONDS more", y.count(1), 126);
        due("undone, the SECOND", y.undo(), 63);
        due("undone, the ROOM", y.count(2), 7);
        BeepHouse z = new BeepHouse();
        z.door(0, 1, 1);
        due("the nearest that can be", z.walk(1), 1);
        due("joined by the last ROOM", z.door(1, 7, 9), -1);
        due("joined by the last ROOM", z.walk(7), 9);
    }

    private static void walkToTheEnd() {
        promise = 9;
        int[][] steps = {{9990, 9999}, {9991, 9999}, {9989, 9998}, {9999, 9999}};
        for (int[] s : steps) {
            BeepHouse x = chain(9);
            waitUntil(x, s[0]);
            due("how many", x.walk(1), 9);
            due("SECONDS: 9999 at most", x.count(1), s[1]);
            due("one is there", x.count(2), 1);
            due("undone", x.undo(), s[0]);
            due("undone, the ROOM", x.count(2), 0);
        }
    }

    private static void take() {
        promise = 10;
        badOutside("ALARMS that there are", 0, 5, (x, v) -> x.take(v, 1));
        badOutside("down (1), up (0)", 0, 1, (x, v) -> x.take(4, v));
        looks("ALARMS that there are: of two the third", () -> withAlarms(0, 0, 0), x -> x.take(2, 1), -2, COUNTS_BAD);
        due("ALARMS that there are: of two the second", withAlarms(0, 0, 0).take(1, 1), 1);
        for (int k = 0; k < 6; k++) {
            int one = k;
            if (k != 4) {
                looks("NO: in another ROOM, down", EdgeTest::rich, x -> x.take(one, 1), -3, COUNTS_NO);
                looks("NO: in another ROOM, up", EdgeTest::rich, x -> x.take(one, 0), -3, COUNTS_NO);
                looks("BAD is ahead of NO", EdgeTest::rich, x -> x.take(one, 2), -2, COUNTS_BAD);
            }
        }
        BeepHouse x = withAlarms(0, 0, 0, 0, 0, 0, 0);
        int[] takes = {0, 1, 1, 1, 5, 1, 0, 1, 0, 0, 5, 0, 5, 0, 1, 0};
        int[] downs = {1, 2, 3, 3, 2, 1, 1, 0};
        for (int i = 0; i < downs.length; i++) {
            due("taken down, put up", x.take(takes[2 * i], takes[2 * i + 1]), 1);
            due("that one", x.of(takes[2 * i], 3), takes[2 * i + 1]);
            due("how many are down", x.count(4), downs[i]);
            due("one that may be undone, also where nothing changes", x.count(6), i + 1);
        }
    }

    private static void battery() {
        promise = 11;
        badOutside("ALARMS that there are", 0, 5, (x, v) -> x.battery(v, 5));
        badOutside("a BATTERY (0 .. 99)", 0, 99, (x, v) -> x.battery(4, v));
        looks("ALARMS that there are: of two the third", () -> withAlarms(0, 0, 0), x -> x.battery(2, 1), -2, COUNTS_BAD);
        due("ALARMS that there are: of two the second", withAlarms(0, 0, 0).battery(1, 1), 0);
        BeepHouse x = withAlarms(0, 7, 0, 0, 0, 0, 7);
        int before = 0;
        for (int b : new int[] {99, 0, 1, 98, 98}) {
            due("what it had, in whatever ROOM", x.battery(5, b), before);
            due("is put in", x.of(5, 2), b);
            due("the others have theirs", x.of(4, 2) + x.of(0, 2), 0);
            before = b;
        }
        due("each one that may be undone, also the same again", x.count(6), 5);
        x.undo();
        x.undo();
        due("undone", x.of(5, 2), 1);
    }

    private static void cold() {
        promise = 12;
        badOutside("COLD (0 .. 9)", 0, 9, (x, v) -> x.cold(v));
        BeepHouse x = new BeepHouse();
        int before = 3;
        for (int c : new int[] {0, 9, 9, 1, 8}) {
            due("what it was", x.cold(c), before);
            due("COLD", x.count(3), c);
            before = c;
        }
        due("each one that may be undone, also the same again", x.count(6), 5);
        x.undo();
        due("undone", x.count(3), 1);
    }

    private static void undo() {
        promise = 13;
        looks("NO: none may be, new", BeepHouse::new, x -> x.undo(), -3, COUNTS_NO);
        looks("NO: none may be, behind the last", () -> withAlarms(0, 0), x -> x.undo(), -3, COUNTS_NO);
        BeepHouse x = chain(5);
        x.alarm(0, 1, 50);
        x.waits(30);
        x.walk(1);
        x.take(0, 1);
        x.take(0, 0);
        x.battery(0, 7);
        x.cold(9);
        int[] second = {35, 35, 35, 35, 30, 0};
        int[] battery = {7, 50, 50, 50, 50, 50};
        int[] down = {0, 0, 1, 0, 0, 0};
        int[] room = {1, 1, 1, 1, 0, 0};
        for (int i = 0; i < 6; i++) {
            due("as ahead of the last, the SECOND", x.undo(), second[i]);
            due("the SECOND", x.count(1), second[i]);
            due("BATTERIES", x.of(0, 2), battery[i]);
            due("what is down", x.of(0, 3), down[i]);
            due("ROOM", x.count(2), room[i]);
            due("COLD", x.count(3), 3);
            due("one less may be", x.count(6), 5 - i);
        }
        looks("NO: none may be", () -> undone(rich()), y -> y.undo(), -3, COUNTS_NO);
    }

    private static BeepHouse undone(BeepHouse x) {
        while (x.count(6) > 0) {
            x.undo();
        }
        return x;
    }

    private static void undoEightAtMost() {
        promise = 13;
        for (int n = 0; n <= 10; n++) {
            BeepHouse x = new BeepHouse();
            for (int i = 0; i < n; i++) {
                x.waits(1);
            }
            int may = Math.min(8, n);
            due("8 at most", x.count(6), may);
            for (int i = 1; i <= may; i++) {
                due("the last ones, backward", x.undo(), n - i);
            }
            due("and no more", x.undo(), -3);
            due("the first ones stay", x.count(1), n - may);
            due("there is room again", x.waits(1) + x.count(6), 1);
        }
        BeepHouse y = rich();
        y.waits(0);
        y.walk(7);
        y.take(0, 1);
        y.battery(9, 0);
        y.cold(10);
        due("refused ones are none that may be", y.count(6), 8);
        due("the last that was not refused", y.undo() * 10 + y.count(3), 678);
    }

    private static void undoBehindAnAlarm() {
        promise = 13;
        BeepHouse x = new BeepHouse();
        x.waits(9);
        x.cold(4);
        due("ahead of an ALARM", x.count(6), 2);
        due("ahead of an ALARM, a refused one", x.alarm(6, 0, 0), -2);
        due("still", x.count(6), 2);
        due("an ALARM comes", x.alarm(0, 0, 0), 0);
        due("behind an ALARM that comes none may be", x.count(6), 0);
        due("behind an ALARM that comes none may be", x.undo(), -3);
        due("the SECOND stays", x.count(1), 9);
        due("COLD stays", x.count(3), 4);
        x.cold(5);
        due("from then on again", x.undo(), 9);
        due("and not farther", x.undo(), -3);
        BeepHouse y = rich();
        due("a 7th that is refused as FULL", y.alarm(0, 0, 0), -4);
        due("takes nothing away", y.count(6), 8);
        y.door(0, 1, 1);
        y.forget();
        y.note(0, 0);
        y.missed(0, 0, 0);
        y.clear();
        y.type(0);
        y.image(0);
        due("nor do others; nor are they any that may be", y.count(6), 8);
        y.undo();
        due("NOTES are not undone", y.count(5), 1);
        due("DOORS are not undone", y.far(0, 1), 1);
        due("THE TEXT is not undone", y.count(7), 1);
    }

    private static void of() {
        promise = 14;
        badOutside("ALARMS that there are", 0, 5, (x, v) -> x.of(v, 0));
        badOutside("what 0 .. 4", 0, 4, (x, v) -> x.of(0, v));
        askedInside("ALARMS that there are", 0, 5, (x, v) -> x.of(v, 0));
        askedInside("what 0 .. 4", 0, 4, (x, v) -> x.of(4, v));
        looks("ALARMS that there are: of two the third", () -> withAlarms(0, 0, 0), x -> x.of(2, 0), -2, COUNTS_BAD);
        asked("ALARMS that there are: of two the second", () -> withAlarms(5, 0, 7), x -> x.of(1, 1), 7);
        for (int kind = 0; kind < 6; kind++) {
            BeepHouse x = withAlarms(kind, 0);
            due("KIND", x.of(0, 0), kind);
            due("how LOUD", x.of(0, 4), LOUD[kind]);
            x.take(0, 1);
            x.cold(9);
            x.battery(0, 99);
            due("down (1)", x.of(0, 3), 1);
            due("as LOUD, however it is", x.of(0, 4), LOUD[kind]);
            x.take(0, 0);
            due("up (0)", x.of(0, 3), 0);
        }
    }

    private static void far() {
        promise = 15;
        badOutside("ROOMS 0 .. 7, a", 0, 7, (x, v) -> x.far(v, 0));
        badOutside("ROOMS 0 .. 7, b", 0, 7, (x, v) -> x.far(0, v));
        badOutside("ROOMS 0 .. 7, both", 0, 7, (x, v) -> x.far(v, v));
        askedInside("ROOMS 0 .. 7, a", 0, 7, (x, v) -> x.far(v, 1));
        askedInside("ROOMS 0 .. 7, b", 0, 7, (x, v) -> x.far(1, v));
        asked("0: the same", EdgeTest::rich, x -> x.far(7, 7), 0);
        asked("none", EdgeTest::rich, x -> x.far(0, 7), -1);
        asked("the most there can be", () -> chain(9), x -> x.far(0, 7), 63);
        asked("the least there can be", () -> chain(1), x -> x.far(7, 6), 1);
        BeepHouse x = new BeepHouse();
        x.door(0, 1, 9);
        x.door(0, 2, 4);
        x.door(2, 1, 5);
        due("a way as long as the DOOR", x.far(0, 1), 9);
        x.door(2, 1, 4);
        due("a way shorter than the DOOR", x.far(0, 1), 8);
        x.door(2, 1, 6);
        due("a way longer than the DOOR", x.far(0, 1), 9);
    }

    // ------------------------------------------------------------------ 16 to 20: beeps

    private static void beepsBounds() {
        promise = 16;
        badOutside("ALARMS that there are", 0, 5, (x, v) -> x.beeps(v, 0));
        badOutside("SECOND s (0 .. 9999)", 0, 9999, (x, v) -> x.beeps(0, v));
        askedInside("ALARMS that there are", 0, 5, (x, v) -> x.beeps(v, 41));
        askedInside("SECOND s (0 .. 9999)", 0, 9999, (x, v) -> x.beeps(0, v));
        looks("ALARMS that there are: of two the third", () -> withAlarms(0, 0, 0), x -> x.beeps(2, 0), -2, COUNTS_BAD);
        asked("ALARMS that there are: of two the second", () -> withAlarms(0, 0, 7), x -> x.beeps(1, 0), 1);
    }

    private static BeepHouse at(int kind, int cold, int battery) {
        BeepHouse x = new BeepHouse();
        x.alarm(kind, 0, battery);
        x.cold(cold);
        return x;
    }

    private static void beepsByBattery() {
        promise = 16;
        for (int c = 0; c <= 9; c++) {
            due("PLAIN: b less c is 19", at(0, c, 19 + c).beeps(0, 41), 1);
            due("PLAIN: b less c is 20", at(0, c, 20 + c).beeps(0, 41), 0);
            due("PLAIN: b is 0", at(0, c, 0).beeps(0, 41), 1);
            due("OLD: b less 10 less c is 19", at(1, c, 29 + c).beeps(0, 41), 1);
            due("OLD: b less 10 less c is 20", at(1, c, 30 + c).beeps(0, 41), 0);
            due("OLD: b is 0", at(1, c, 0).beeps(0, 41), 1);
            due("WIRED as PLAIN: b less c is 19", at(2, c, 19 + c).beeps(0, 41), 1);
            due("WIRED as PLAIN: b less c is 20", at(2, c, 20 + c).beeps(0, 41), 0);
            due("WIRED, at 20: b less c is 9", at(2, c, 9 + c).beeps(0, 20), 1);
            due("WIRED, at 20: b less c is 10", at(2, c, 10 + c).beeps(0, 20), 0);
            due("DRAWER as PLAIN: b less c is 19", at(3, c, 19 + c).beeps(0, 41), 1);
            due("DRAWER as PLAIN: b less c is 20", at(3, c, 20 + c).beeps(0, 41), 0);
            due("PHONE, whatever b is: 0", at(4, c, 0).beeps(0, 7), 1);
            due("PHONE, whatever b is: 99", at(4, c, 99).beeps(0, 7), 1);
            due("PHONE not at 41", at(4, c, 0).beeps(0, 41), 0);
            due("FRESH, not at COLD below 5", at(5, c, 0).beeps(0, 41), c < 5 ? 0 : 1);
            due("FRESH as OLD: b less 10 less c is 19", at(5, c, 29 + c).beeps(0, 41), c < 5 ? 0 : 1);
            due("FRESH as OLD: b less 10 less c is 20", at(5, c, 30 + c).beeps(0, 41), 0);
        }
    }

    private static void beepsBySecond() {
        promise = 16;
        int[][] beeping = {{0, 41, 9963}, {0, 41, 9963}, {0, 20, 41, 61, 9963, 9983}, {0, 41, 9963}, {7, 37, 9997}, {0, 41, 9963}};
        for (int kind = 0; kind < 6; kind++) {
            for (int s : beeping[kind]) {
                due("in SECOND " + s + ", KIND " + kind, at(kind, 9, 0).beeps(0, s), 1);
                if (s > 0) {
                    due("in the SECOND ahead of " + s + ", KIND " + kind, at(kind, 9, 0).beeps(0, s - 1), 0);
                }
                due("in the SECOND behind " + s + ", KIND " + kind, at(kind, 9, 0).beeps(0, s + 1), 0);
            }
            due("in SECOND 9999, KIND " + kind, at(kind, 9, 0).beeps(0, 9999), 0);
        }
        for (int kind : new int[] {0, 1, 3, 5}) {
            due("not as WIRED, KIND " + kind, at(kind, 9, 0).beeps(0, 20), 0);
        }
        due("in a SECOND that is not this one", at(0, 9, 0).beeps(0, 82), 1);
    }

    private static void beepsDown() {
        promise = 16;
        int[] second = {0, 0, 20, 0, 7, 0};
        for (int kind = 0; kind < 6; kind++) {
            int s = second[kind];
            BeepHouse x = at(kind, 9, 0);
            due("up", x.beeps(0, s), 1);
            x.take(0, 1);
            due("one that is down BEEPS not (a DRAWER, a PHONE all the same), KIND " + kind, x.beeps(0, s), kind == 3 || kind == 4 ? 1 : 0);
            x.take(0, 0);
            due("up again", x.beeps(0, s), 1);
        }
    }

    private static void heard() {
        promise = 17;
        badOutside("ROOMS 0 .. 7", 0, 7, (x, v) -> x.heard(v, 0));
        badOutside("SECOND s (0 .. 9999)", 0, 9999, (x, v) -> x.heard(0, v));
        askedInside("ROOMS 0 .. 7", 0, 7, (x, v) -> x.heard(v, 41));
        askedInside("SECOND s (0 .. 9999)", 0, 9999, (x, v) -> x.heard(0, v));
        asked("no ALARMS", BeepHouse::new, x -> x.heard(0, 0), 0);
        asked("all of six, as bits", () -> withAlarms(0, 7, 7, 7, 7, 7, 7), x -> x.heard(7, 0), 63);
        asked("joined at all: not", () -> withAlarms(2, 7, 7, 0), x -> x.heard(0, 0), 4);
        asked("none in a SECOND without", () -> withAlarms(0, 0), x -> x.heard(0, 1), 0);
    }

    /** In ROOM 7, just as FAR from ROOM 0 as it may be, and one more. */
    private static void heardByLoudness() {
        promise = 17;
        int[] second = {0, 0, 0, 0, 7, 0};
        for (int kind = 0; kind < 6; kind++) {
            for (int more = -1; more <= 1; more++) {
                BeepHouse x = apart(LOUD[kind] + more);
                x.cold(9);
                x.alarm(kind, 7, 0);
                due("how FAR", x.far(0, 7), LOUD[kind] + more);
                due("LOUDER than FAR, KIND " + kind + ", by " + -more, x.heard(0, second[kind]), more < 0 ? 1 : 0);
                due("LOUDER than FAR, where it is", x.heard(7, second[kind]), 1);
            }
        }
    }

    private static void through() {
        promise = 18;
        badOutside("ROOMS 0 .. 7", 0, 7, (x, v) -> x.through(v, 0));
        badOutside("ALARMS that there are", 0, 5, (x, v) -> x.through(0, v));
        askedInside("ROOMS 0 .. 7", 0, 7, (x, v) -> x.through(v, 1));
        askedInside("ALARMS that there are", 0, 5, (x, v) -> x.through(1, v));
        looks("ALARMS that there are: of two the third", () -> withAlarms(0, 0, 0), x -> x.through(0, 2), -2, COUNTS_BAD);
        asked("the ROOM itself, if it is there: 0", () -> withAlarms(0, 0), x -> x.through(0, 0), 0);
        asked("the ROOM itself, if it is there: 7", () -> withAlarms(0, 7), x -> x.through(7, 0), 7);
        asked("NONE: not joined", () -> withAlarms(2, 7), x -> x.through(0, 0), -1);
        BeepHouse x = new BeepHouse();
        x.alarm(0, 0, 99);
        for (int r = 1; r < 7; r++) {
            x.door(7, r, 2);
            x.door(r, 0, 2);
        }
        due("of six like ways the least", x.through(7, 0), 1);
        x.door(1, 0, 3);
        due("one of them longer", x.through(7, 0), 2);
        x.door(6, 0, 1);
        due("one of them shorter", x.through(7, 0), 6);
        x.door(7, 0, 3);
        due("a DOOR to it, as long", x.through(7, 0), 0);
        x.door(7, 0, 4);
        due("a DOOR to it, longer", x.through(7, 0), 6);
        due("did it BEEP: it does not", x.beeps(0, 0), 0);
        x.take(0, 1);
        due("did it BEEP: it is down", x.through(7, 0), 6);
    }

    private static void throughByLoudness() {
        promise = 18;
        for (int kind = 0; kind < 6; kind++) {
            for (int more = -1; more <= 1; more++) {
                BeepHouse x = apart(LOUD[kind] + more);
                x.alarm(kind, 7, 99);
                int first = LOUD[kind] + more <= 9 ? 7 : 1;
                due("NONE: not HEARD, KIND " + kind + ", by " + -more, x.through(0, 0), more < 0 ? first : -1);
                due("NONE is no refusal", x.status(0) + x.status(1) + x.status(2), 0);
            }
        }
    }

    private static void next() {
        promise = 19;
        badOutside("HEARD in a ROOM 0 .. 7", 0, 7, (x, v) -> x.next(v, 0));
        badOutside("BEEPS of an ALARM that there is", 0, 5, (x, v) -> x.next(v, 1));
        badOutside("what 0, 1", 0, 1, (x, v) -> x.next(0, v));
        askedInside("HEARD in a ROOM 0 .. 7", 0, 7, (x, v) -> x.next(v, 0));
        askedInside("BEEPS of an ALARM that there is", 0, 5, (x, v) -> x.next(v, 1));
        askedInside("what 0, 1", 0, 1, (x, v) -> x.next(0, v));
        looks("an ALARM that there is: of two the third", () -> withAlarms(0, 0, 0), x -> x.next(2, 1), -2, COUNTS_BAD);
        asked("a ROOM, though there is no such ALARM", () -> withAlarms(0, 7), x -> x.next(7, 0), 0);
        asked("none: no ALARM", BeepHouse::new, x -> x.next(0, 0), -1);
        asked("none: not joined", () -> withAlarms(0, 7), x -> x.next(0, 0), -1);
        asked("none: the BATTERY is good", () -> at(0, 0, 20), x -> x.next(0, 1), -1);
        asked("and at COLD 1 not", () -> at(0, 1, 20), x -> x.next(0, 1), 0);
        asked("none: not LOUD enough", () -> {
            BeepHouse x = apart(8);
            x.alarm(3, 7, 0);
            return x;
        }, x -> x.next(0, 0), -1);
        int[] period = {41, 41, 41, 41, 30, 41};
        int[] first = {0, 0, 0, 0, 7, 0};
        for (int kind = 0; kind < 6; kind++) {
            for (int s = 0; s <= 83; s++) {
                BeepHouse x = at(kind, 9, 19);
                waitUntil(x, s);
                int wait = Math.floorMod(first[kind] - s, period[kind]);
                due("in how many SECONDS, 0: in this one", x.next(0, 1), wait);
                due("in how many SECONDS, HEARD", x.next(0, 0), wait);
            }
        }
    }

    private static void nextAtTheEnd() {
        promise = 19;
        int[] wait = {5, 5, 5, 5, 28, 5};
        for (int kind = 0; kind < 6; kind++) {
            BeepHouse x = at(kind, 9, 0);
            waitUntil(x, 9999);
            due("behind 9999, too: BEEPS", x.next(0, 1), wait[kind]);
            due("behind 9999, too: HEARD", x.next(0, 0), wait[kind]);
            x.take(0, 1);
            due("behind 9999, down", x.next(0, 1), kind == 3 || kind == 4 ? wait[kind] : -1);
            due("the SECOND stays", x.count(1), 9999);
        }
    }

    private static void coldest() {
        promise = 20;
        badOutside("ALARMS that there are", 0, 5, (x, v) -> x.coldest(v));
        askedInside("ALARMS that there are", 0, 5, (x, v) -> x.coldest(v));
        looks("ALARMS that there are: of two the third", () -> withAlarms(0, 0, 0), x -> x.coldest(2), -2, COUNTS_BAD);
        int[] good = {20, 30, 20, 20, 1000, 30};
        for (int kind = 0; kind < 6; kind++) {
            for (int b = 0; b <= 99; b++) {
                int least = Math.max(kind == 5 ? 5 : 0, b - good[kind] + 1);
                for (int c : new int[] {0, 9}) {
                    BeepHouse x = at(kind, c, b);
                    due("the least COLD (0 .. 9), KIND " + kind + ", b " + b, x.coldest(0), least > 9 ? -1 : least);
                    x.take(0, 1);
                    due("were it up", x.coldest(0), least > 9 ? -1 : least);
                    due("COLD stays", x.count(3), c);
                }
            }
        }
        due("NONE is no refusal", at(0, 0, 99).coldest(0) + at(0, 0, 99).status(0), -1);
    }

    // ------------------------------------------------------------------ 21 to 31: which it is

    private static void sure() {
        promise = 21;
        badOutside("some ALARMS (bits; one at least)", 1, 63, (x, v) -> x.sure(v, 0));
        badOutside("how many times (0), the ROOM (1)", 0, 1, (x, v) -> x.sure(1, v));
        askedInside("some ALARMS (bits; one at least)", 1, 63, (x, v) -> x.sure(v, 0));
        askedInside("how many times (0), the ROOM (1)", 0, 1, (x, v) -> x.sure(33, v));
        looks("bits of ALARMS that there are: of two the third", () -> withAlarms(0, 0, 1), x -> x.sure(4, 0), -2, COUNTS_BAD);
        looks("bits of ALARMS that there are: of two one and the third", () -> withAlarms(0, 0, 1), x -> x.sure(5, 0), -2, COUNTS_BAD);
        looks("bits of ALARMS that there are: the sign", () -> withAlarms(0, 0, 1), x -> x.sure(1 << 31, 0), -2, COUNTS_BAD);
        asked("bits of ALARMS that there are: of two both", () -> withAlarms(0, 0, 1), x -> x.sure(3, 0), 1);
        for (int k = 0; k < 6; k++) {
            int bit = 1 << k;
            asked("0: there is but one", () -> withAlarms(0, 7, 7, 7, 7, 7, 7), x -> x.sure(bit, 0), 0);
            asked("0, if none is needed", () -> withAlarms(0, 7, 7, 7, 7, 7, 7), x -> x.sure(bit, 1), 0);
        }
        asked("none: it can not be known", () -> withAlarms(0, 7, 7), x -> x.sure(3, 0), -1);
        asked("none: it can not be known, the ROOM", () -> withAlarms(0, 7, 7), x -> x.sure(3, 1), -1);
        asked("none, by two of six", () -> withAlarms(0, 0, 1, 2, 3, 4, 4), x -> x.sure(63, 0), -1);
        asked("not by those two", () -> withAlarms(0, 0, 1, 2, 3, 4, 4), x -> x.sure(31, 0), 4);
    }

    /** Where no ROOM is joined, each time tells but one ALARM from all the others. */
    private static void sureHowOften() {
        promise = 21;
        for (int n = 1; n <= 6; n++) {
            int bits = (1 << n) - 1;
            int times = n - 1;
            asked("the fewest times, of " + n, () -> withAlarms(3, 0, 1, 2, 3, 4, 5), x -> x.sure(bits, 0), times);
            asked("the least ROOM, of " + n, () -> withAlarms(3, 0, 1, 2, 3, 4, 5), x -> x.sure(bits, 1), 0);
            asked("the least ROOM, from 2 on", () -> withAlarms(3, 2, 3, 4, 5, 6, 7), x -> x.sure(bits, 1), n == 1 ? 0 : 2);
            asked("the least ROOM, from 7 down", () -> withAlarms(3, 7, 6, 5, 4, 3, 2), x -> x.sure(bits, 1), n == 1 ? 0 : 8 - n);
        }
        BeepHouse x = new BeepHouse();
        for (int r = 0; r < 6; r++) {
            x.door(7, r, 1);
            x.alarm(3, r, 99);
        }
        due("once, where all come through unlike ROOMS", x.sure(63, 0), 1);
        due("and only there", x.sure(63, 1), 7);
        due("once, of two of them", x.sure(3, 0), 1);
        due("of two the least", x.sure(3, 1), 0);
        BeepHouse w = withAlarms(3, 1, 2, 3, 1);
        w.door(0, 1, 1);
        w.door(0, 2, 1);
        w.door(0, 3, 1);
        due("three come through unlike ROOMS", w.sure(7, 0) * 10 + w.sure(7, 1), 10);
        due("the 4th as one of them: it can not be known", w.sure(15, 0), -1);
        due("the others all the same", w.sure(14, 0) * 10 + w.sure(14, 1), 10);
        due("the least ROOM: by the one that is HEARD there", withAlarms(3, 1, 2, 0).sure(5, 1), 0);
        for (int more = -1; more <= 1; more++) {
            BeepHouse y = apart(8 + more);
            y.alarm(3, 7, 99);
            y.alarm(4, 7, 99);
            due("as LOUD as it is: 8 and 9 from " + (8 + more), y.sure(3, 0), more == 0 ? 1 : -1);
        }
        BeepHouse z = withAlarms(0, 0, 1);
        z.take(0, 1);
        z.battery(0, 99);
        due("up or not", z.sure(3, 0), 1);
    }

    private static void way() {
        promise = 22;
        for (int i : new int[] {-2, -3, -10, -64, Integer.MIN_VALUE}) {
            bad("i = NONE or an i-th, " + i, -10, x -> x.way(i));
            looks("also where there is none, " + i, () -> withAlarms(0, 1), x -> x.way(i), -10, COUNTS_BAD);
        }
        for (int n = 0; n <= 6; n++) {
            int many = n;
            Maker maker = () -> withAlarms(0, new int[many]);
            asked("how far, of " + n, maker, x -> x.way(-1), 0);
            for (int i = 0; i <= 7; i++) {
                int place = i;
                asked("the i-th ALARM, " + i + " of " + n, maker, x -> x.way(place), i < n ? i : -5);
            }
            asked("-5: not so many", maker, x -> x.way(Integer.MAX_VALUE), -5);
        }
        for (int i : new int[] {-1, 0, 1, 2, 5, 6, Integer.MAX_VALUE}) {
            asked("NONE: none (whatever i is), " + i, () -> withAlarms(0, 0, 7), x -> x.way(i), -1);
        }
        BeepHouse x = chain(9);
        x.alarm(0, 7, 0);
        due("the farthest one", x.way(-1), 63);
        x.alarm(0, 0, 0);
        due("by the one that is here", x.way(-1), 63);
        due("the one that is here first", x.way(0), 1);
        due("then the farthest", x.way(1), 0);
        BeepHouse y = new BeepHouse();
        y.door(0, 1, 2);
        y.door(0, 2, 2);
        y.alarm(0, 2, 0);
        y.alarm(0, 1, 0);
        due("of two like orders the first", y.way(0), 0);
        y.door(0, 1, 1);
        due("of two unlike ones the shorter", y.way(0), 1);
        due("its length", y.way(-1), 4);
    }

    private static void wayTargets() {
        promise = 22;
        for (int kind = 0; kind < 6; kind++) {
            for (int c = 0; c <= 9; c++) {
                int last = kind == 1 || kind == 5 ? 29 + c : 19 + c;
                boolean gone = kind != 3 && kind != 4 && (kind != 5 || c >= 5);
                due("would BEEP at this COLD, KIND " + kind, at(kind, c, last).way(0), gone ? 0 : -5);
                due("would not BEEP at this COLD, KIND " + kind, at(kind, c, last + 1).way(0), -5);
            }
            BeepHouse x = at(kind, 9, 0);
            x.take(0, 1);
            due("that are up: not one that is down, KIND " + kind, x.way(0), -5);
            due("and no way at all", x.way(-1), 0);
            BeepHouse y = withAlarms(kind, 7);
            y.cold(9);
            due("some can not be come to, KIND " + kind, y.way(-1), kind == 3 || kind == 4 ? 0 : -1);
            y.battery(0, 99);
            due("one that does not BEEP need not be come to", y.way(-1), 0);
        }
    }

    private static void two() {
        promise = 23;
        badOutside("ROOMS 0 .. 7, a", 0, 7, (x, v) -> x.two(v, 0));
        badOutside("ROOMS 0 .. 7, b", 0, 7, (x, v) -> x.two(0, v));
        askedInside("ROOMS 0 .. 7, a", 0, 7, (x, v) -> x.two(v, 1));
        askedInside("ROOMS 0 .. 7, b", 0, 7, (x, v) -> x.two(1, v));
        asked("of no ALARMS", BeepHouse::new, x -> x.two(0, 7), 0);
        asked("of one ALARM", () -> withAlarms(0, 0), x -> x.two(0, 7), 0);
        asked("unlike or not: of two, HEARD by one of them", () -> withAlarms(0, 0, 1), x -> x.two(0, 0), 1);
        asked("unlike ROOMS, each HEARD by another", () -> withAlarms(0, 0, 1), x -> x.two(0, 1), 1);
        asked("of two, HEARD by none", () -> withAlarms(0, 0, 1), x -> x.two(2, 3), 0);
        asked("of two that are alike", () -> withAlarms(0, 0, 0), x -> x.two(0, 0), 0);
        asked("of six, one HEARD", () -> withAlarms(0, 0, 1, 2, 3, 4, 5), x -> x.two(5, 5), 5);
        asked("of six, two HEARD", () -> withAlarms(0, 0, 1, 2, 3, 4, 5), x -> x.two(0, 5), 9);
        Maker star = () -> {
            BeepHouse x = new BeepHouse();
            for (int r = 0; r < 6; r++) {
                x.door(7, r, 1);
                x.alarm(3, r, 99);
            }
            return x;
        };
        asked("all pairs of six", star, x -> x.two(7, 6), 15);
        asked("all pairs of six, the other one", star, x -> x.two(6, 7), 15);
        asked("unlike or not: by both", star, x -> x.two(7, 7), 15);
    }

    private static void beside() {
        promise = 24;
        asked("of like ones the least: no ALARMS", BeepHouse::new, x -> x.beside(), 0);
        for (int r = 0; r < 8; r++) {
            int there = r;
            asked("the one ROOM, " + r, () -> withAlarms(3, there), x -> x.beside(), r);
            asked("of like ones the least, " + r, () -> withAlarms(3, 7, there), x -> x.beside(), r);
            asked("most, not the least ROOM", () -> withAlarms(3, 0, 7, 7), x -> x.beside(), 7);
        }
        asked("all six in the last", () -> withAlarms(3, 7, 7, 7, 7, 7, 7), x -> x.beside(), 7);
        for (int more = -1; more <= 1; more++) {
            int distance = 8 + more;
            asked("would be HEARD: " + distance + " away", () -> {
                BeepHouse x = apart(distance);
                x.alarm(3, 7, 99);
                return x;
            }, x -> x.beside(), distance < 8 ? 0 : 7);
        }
        BeepHouse x = withAlarms(0, 0, 7, 7);
        x.walk(0);
        x.take(0, 1);
        due("up or not", x.beside(), 7);
        BeepHouse y = withAlarms(0, 0, 0, 7);
        y.take(0, 1);
        y.take(1, 1);
        due("up or not: down", y.beside(), 0);
    }

    private static void note() {
        promise = 25;
        badOutside("ROOM r 0 .. 7", 0, 7, (x, v) -> x.note(v, 0));
        badOutside("through ROOM t (0 .. 7), or not (-1)", -1, 7, (x, v) -> x.note(0, v));
        looks("FULL: 6", EdgeTest::rich, x -> x.note(0, 0), -4, COUNTS_FULL);
        looks("BAD is ahead of FULL, ROOM", EdgeTest::rich, x -> x.note(8, 0), -2, COUNTS_BAD);
        looks("BAD is ahead of FULL, t", EdgeTest::rich, x -> x.note(0, 8), -2, COUNTS_BAD);
        int[][] inside = {{0, -1}, {7, 7}, {0, 0}, {7, -1}, {0, 7}, {7, 0}};
        BeepHouse x = new BeepHouse();
        for (int i = 0; i < 6; i++) {
            due("NOTES 0 .. 5, as they come", x.note(inside[i][0], inside[i][1]), i + 1);
            due("how many there are", x.count(5), i + 1);
        }
        due("a 7th", x.note(0, 0), -4);
        due("how many there are", x.count(5), 6);
        due("FULL", x.status(2), 1);
        due("none that may be undone", x.count(6), 0);
        BeepHouse y = rich();
        y.forget();
        due("FULL no more", y.note(0, 0), 1);
        due("what may be undone stays", y.count(6), 8);
    }

    private static void forget() {
        promise = 26;
        for (int n = 0; n <= 6; n++) {
            BeepHouse x = withAlarms(0, 0, 1);
            for (int i = 0; i < n; i++) {
                x.note(0, 0);
            }
            due("how many there were", x.forget(), n);
            due("no NOTES", x.count(5), 0);
            due("no NOTES: all fit", x.which(), 3);
            due("how many there were", x.forget(), 0);
        }
        BeepHouse x = rich();
        BeepHouse y = rich();
        due("how many there were", x.forget(), 6);
        for (int k = 0; k < 6; k++) {
            x.note(k, k - 1);
        }
        due("NOTES alone are changed", seen(x).equals(seen(y)) ? 1 : 0, 1);
    }

    private static void which() {
        promise = 27;
        asked("no ALARMS", BeepHouse::new, x -> x.which(), 0);
        for (int n = 1; n <= 6; n++) {
            int all = (1 << n) - 1;
            int many = n;
            asked("no NOTES: all of " + n, () -> withAlarms(0, new int[many]), x -> x.which(), all);
        }
        asked("NOTES, and none fits", EdgeTest::rich, x -> x.which(), 0);
        BeepHouse x = withAlarms(3, 0, 1, 7);
        x.note(7, 7);
        due("through 7", x.which(), 4);
        x.forget();
        x.note(7, -1);
        due("or not", x.which(), 3);
        for (int i = 0; i < 4; i++) {
            x.note(7, -1);
        }
        due("five alike", x.which(), 3);
        x.note(1, 1);
        due("by all NOTES, the 6th too", x.which(), 2);
        x.walk(0);
        x.forget();
        x.take(0, 1);
        x.battery(0, 99);
        x.note(0, 0);
        due("did it alone BEEP: down, with a good BATTERY", x.which(), 1);
        for (int more = -1; more <= 1; more++) {
            BeepHouse y = apart(8 + more);
            y.alarm(3, 7, 99);
            y.note(0, -1);
            due("not HEARD, from " + (8 + more), y.which(), more < 0 ? 0 : 1);
            y.forget();
            y.note(0, 7);
            due("HEARD, from " + (8 + more), y.which(), more < 0 ? 1 : 0);
        }
    }

    private static void stand() {
        promise = 28;
        asked("none: no ALARMS", BeepHouse::new, x -> x.stand(), -1);
        asked("none: none fits", EdgeTest::rich, x -> x.stand(), -1);
        asked("of like ones the least: one ALARM", () -> withAlarms(3, 7), x -> x.stand(), 0);
        asked("of like ones the least: six that are alike", () -> withAlarms(3, 7, 7, 7, 7, 7, 7), x -> x.stand(), 0);
        asked("one apart in 7", () -> withAlarms(3, 7, 7, 7, 6, 6, 6), x -> x.stand(), 6);
        asked("fewest, not the least ROOM", () -> withAlarms(3, 0, 7, 7, 1, 1, 2), x -> x.stand(), 1);
        asked("HEARD, in the last ROOM", () -> withAlarms(3, 7, 7, 7, 0, 1, 2), x -> x.stand(), 7);
        BeepHouse x = withAlarms(3, 0, 1, 2, 3);
        x.note(0, -1);
        due("of these: those that fit", x.stand(), 1);
        x.note(1, -1);
        due("of these: those that fit", x.stand(), 2);
        x.note(2, -1);
        due("but one fits", x.which() * 10 + x.stand(), 80);
        x.note(3, -1);
        due("none is", x.stand(), -1);
        due("NONE is no refusal", x.status(0) + x.status(1) + x.status(2), 0);
    }

    private static void is() {
        promise = 29;
        badOutside("ALARMS that there are", 0, 5, (x, v) -> x.is(v, 0, 0));
        badOutside("SECOND s (0 .. 9999)", 0, 9999, (x, v) -> x.is(0, v, 0));
        badOutside("would (1), would not (0)", 0, 1, (x, v) -> x.is(0, 0, v));
        askedInside("ALARMS that there are", 0, 5, (x, v) -> x.is(v, 41, 1));
        askedInside("SECOND s (0 .. 9999)", 0, 9999, (x, v) -> x.is(0, v, 0));
        askedInside("would (1), would not (0)", 0, 1, (x, v) -> x.is(0, 0, v));
        looks("ALARMS that there are: of two the third", () -> withAlarms(0, 0, 0), x -> x.is(2, 0, 0), -2, COUNTS_BAD);
        int[][] rows = {
            {4, 23, 0, 0b001111}, {4, 24, 0, 0b000010}, {4, 33, 0, 0b000010}, {4, 34, 0, 0}, {5, 34, 0, 0b100010}, {5, 35, 0, 0},
            {5, 24, 0, 0b101111}, {5, 25, 0, 0b100010}, {4, 13, 20, 0b000100}, {4, 14, 20, 0}, {4, 99, 7, 0b010000}, {4, 99, 6, 0},
            {4, 99, 8, 0}, {9, 0, 697, 0b111111}, {9, 0, 9999, 0}, {9, 0, 9997, 0b010000}, {9, 0, 9963, 0b101111}, {9, 0, 9983, 0b000100}};
        for (int[] r : rows) {
            for (int kind = 0; kind < 6; kind++) {
                BeepHouse x = at(kind, r[0], r[1]);
                due("KINDS by which it would BEEP", x.is(0, r[2], 1), r[3]);
                due("KINDS by which it would not", x.is(0, r[2], 0), 63 - r[3]);
                x.take(0, 1);
                due("being up, though it is down", x.is(0, r[2], 1), r[3]);
                due("being up, though it is down: not", x.is(0, r[2], 0), 63 - r[3]);
            }
        }
    }

    private static void missed() {
        promise = 30;
        badOutside("ROOMS 0 .. 7", 0, 7, (x, v) -> x.missed(v, 0, 0));
        badOutside("SECOND s (0 .. 9999)", 0, 9999, (x, v) -> x.missed(0, v, 0));
        badOutside("c of 10 (0 .. 10)", 0, 10, (x, v) -> x.missed(0, 0, v));
        for (int v : new int[] {0, 7}) {
            due("ROOMS 0 .. 7", rich().missed(v, 0, 0), 1);
        }
        for (int v : new int[] {0, 9999}) {
            due("SECOND s (0 .. 9999)", rich().missed(0, v, 0), 1);
        }
        for (int v : new int[] {0, 10}) {
            due("c of 10 (0 .. 10)", rich().missed(0, 0, v), 1);
        }
        asked("THE FRACTION alone is changed", EdgeTest::rich, x -> {
            long above = x.part(0);
            int there = x.missed(7, 0, 0);
            boolean other = x.part(0) != above;
            x.missed(0, 41, 7);
            return there + (other ? 1 : 0);
        }, 2);
    }

    private static void missedFractions() {
        promise = 30;
        for (int n = 0; n <= 6; n++) {
            for (int c = 0; c <= 10; c++) {
                BeepHouse x = withAlarms(0, new int[n]);
                x.door(0, 7, 9);
                int above = n * (10 - c);
                int common = BigInteger.valueOf(above).gcd(BigInteger.TEN).intValue();
                due("missed, " + n + " HEARD, " + c + " of 10", x.missed(7, 41, c), 1);
                due("lowest terms, above", x.part(0), above / common);
                due("lowest terms, below above 0", x.part(1), 10 / common);
                x.missed(7, 40, c);
                due("none HEARD: 0 by 1, above", x.part(0), 0);
                due("none HEARD: 0 by 1, below", x.part(1), 1);
            }
        }
    }

    private static void nights() {
        promise = 31;
        badOutside("a SEED (0 .. 999999)", 0, 999999, (x, v) -> x.nights(v, 0));
        badOutside("n (0 .. 60)", 0, 60, (x, v) -> x.nights(0, v));
        askedInside("a SEED (0 .. 999999)", 0, 999999, (x, v) -> x.nights(v, 60));
        askedInside("n (0 .. 60)", 0, 60, (x, v) -> x.nights(5, v));
        asked("no nights", () -> withAlarms(4, 0, 1, 2, 3, 4, 5), x -> x.nights(0, 0), 0);
        asked("no ALARMS", BeepHouse::new, x -> x.nights(999999, 60), 0);
        Maker everywhere = () -> {
            BeepHouse x = chain(1);
            x.alarm(4, 3, 99);
            return x;
        };
        asked("in each, of 1", everywhere, x -> x.nights(0, 1), 1);
        asked("in each, of 60", everywhere, x -> x.nights(999999, 60), 60);
    }

    /** By numbers without a bound, for each ROOM and each COLD at which it begins. */
    private static void nightsSeeds() {
        promise = 31;
        BigInteger times = BigInteger.valueOf(1103515245);
        BigInteger most = BigInteger.valueOf(2147483648L);
        // In the first night of 959 and of 1403 X lies so that a divisor one less would tell another COLD.
        for (int seed : new int[] {0, 1, 959, 1403, 12345, 500000, 999998, 999999}) {
            for (int n : new int[] {0, 1, 2, 59, 60}) {
                int[][] often = new int[8][10];
                BigInteger v = BigInteger.valueOf(seed);
                for (int i = 0; i < n; i++) {
                    v = v.multiply(times).add(BigInteger.valueOf(12345)).mod(most);
                    int room = v.divide(BigInteger.valueOf(65536)).mod(BigInteger.valueOf(8)).intValue();
                    int cold = v.divide(BigInteger.valueOf(1048576)).mod(BigInteger.TEN).intValue();
                    often[room][cold]++;
                }
                for (int room = 0; room < 8; room++) {
                    BeepHouse x = withAlarms(0, room);
                    int sum = 0;
                    for (int c = 9; c >= 0; c--) {
                        sum += often[room][c];
                        x.battery(0, 19 + c);
                        due("nights(" + seed + ", " + n + "), ROOM " + room + ", COLD " + c, x.nights(seed, n), sum);
                    }
                    due("COLD, SECOND, ROOM stay", x.count(1) * 100 + x.count(2) * 10 + x.count(3), 3);
                }
            }
        }
        int[] loud = {20, 20, 40, 8, 9, 20};
        for (int kind = 0; kind < 6; kind++) {
            BeepHouse x = withAlarms(kind, 0, 1, 2, 3, 4, 5);
            x.take(0, 1);
            int down = x.nights(3, 60);
            x.take(0, 0);
            due("HEARD there: not, if it is down, KIND " + kind, x.nights(3, 60) > down ? 1 : 0, kind == 3 || kind == 4 ? 0 : 1);
            BeepHouse near = apart(loud[kind] - 1);
            BeepHouse away = apart(loud[kind]);
            near.alarm(kind, 7, 0);
            away.alarm(kind, 7, 0);
            due("HEARD there: LOUDER than FAR, KIND " + kind, near.nights(3, 60) > away.nights(3, 60) ? 1 : 0, 1);
        }
    }

    // ------------------------------------------------------------------ 32 to 37: what there is

    private static void part() {
        promise = 32;
        badOutside("above (0), below (1)", 0, 1, (x, v) -> x.part(v));
        asked("above (0)", EdgeTest::rich, x -> x.part(0), rich().part(0));
        asked("below (1)", EdgeTest::rich, x -> x.part(1), rich().part(1));
        asked("0 by 1 at first, above", BeepHouse::new, x -> x.part(0), 0);
        asked("0 by 1 at first, below", BeepHouse::new, x -> x.part(1), 1);
        BeepHouse x = withAlarms(0, 0, 0, 0);
        x.missed(0, 0, 3);
        due("above", x.part(0), 21);
        due("below", x.part(1), 10);
        x.missed(0, 0, 11);
        due("behind a refused one, above", x.part(0), 21);
        due("behind a refused one, below", x.part(1), 10);
    }

    private static void image() {
        promise = 33;
        badOutside("IMAGES 0, 1", 0, 1, (x, v) -> x.image(v));
        for (int i = 0; i < 2; i++) {
            int one = i;
            due("IMAGES 0, 1", new BeepHouse().image(i), 1);
            looks("kept, and the other one not", () -> {
                BeepHouse x = new BeepHouse();
                x.image(one);
                return x;
            }, x -> x.from(1 - one), -3, COUNTS_NO);
        }
        BeepHouse x = rich();
        long before = x.digest();
        due("kept again", x.image(0), 1);
        due("nothing else is changed", x.digest() == before ? 1 : 0, 1);
        due("what may be undone stays", x.count(6), 8);
    }

    private static void imageKeeps() {
        promise = 33;
        for (int i = 0; i < 2; i++) {
            BeepHouse x = rich();
            BeepHouse y = rich();
            x.image(i);
            y.image(i);
            x.house();
            for (int k = 0; k < 6; k++) {
                x.alarm(5 - k, 7 - k, 99 - k);
                x.note(7, 7);
                x.door(k, 7, 9);
            }
            for (int n = 1; n <= 9; n++) {
                x.battery(n % 6, n);
            }
            x.far(0, 7);
            due("it goes on from one", x.from(i), 1);
            due("all is as it was, and what may be undone", seen(x).equals(seen(y)) ? 1 : 0, 1);
        }
        BeepHouse w = chain(2);
        w.image(0);
        w.door(0, 1, 9);
        due("DOORS told behind it", w.far(0, 1), 9);
        w.from(0);
        due("DOORS as they were", w.far(0, 1), 2);
        BeepHouse z = withAlarms(0, 0);
        z.cold(1);
        z.image(0);
        z.cold(2);
        z.image(0);
        z.cold(3);
        due("the last one kept counts", z.from(0) * 10 + z.count(3), 12);
        due("with what may be undone", z.count(6), 2);
        due("as it was then", z.undo() * 10 + z.count(3), 1);
    }

    private static void from() {
        promise = 34;
        badOutside("IMAGES 0, 1", 0, 1, (x, v) -> x.from(v));
        looks("NO: none was kept, 0", BeepHouse::new, x -> x.from(0), -3, COUNTS_NO);
        looks("NO: none was kept, 1", BeepHouse::new, x -> x.from(1), -3, COUNTS_NO);
        for (int v : new int[] {-1, 2}) {
            looks("BAD is ahead of NO", BeepHouse::new, x -> x.from(v), -2, COUNTS_BAD);
        }
        for (int i = 0; i < 2; i++) {
            BeepHouse x = rich();
            due("IMAGES 0, 1", x.from(i), 1);
            long then = x.digest();
            x.cold(9);
            x.waits(9);
            x.door(0, 1, 9);
            x.forget();
            due("it is still kept", x.from(i), 1);
            due("as it was", x.digest() == then ? 1 : 0, 1);
            x.undo();
            due("also behind undo()", x.from(i), 1);
            due("as it was", x.digest() == then ? 1 : 0, 1);
        }
        BeepHouse x = rich();
        x.from(0);
        due("what may be undone: two", x.count(6), 2);
        due("undone from there", x.undo() * 100 + x.of(2, 2), 310);
        due("undone from there", x.undo(), 0);
        due("and no more", x.undo(), -3);
    }

    private static void fromLeaves() {
        promise = 34;
        BeepHouse x = withAlarms(0, 0, 0);
        x.type('a');
        x.missed(0, 0, 5);
        x.image(0);
        x.cold(9);
        x.image(1);
        x.type('b');
        x.type('c');
        x.missed(0, 0, 3);
        x.image(2);
        x.walk(7);
        for (int k = 0; k < 5; k++) {
            x.alarm(0, 0, 0);
        }
        due("it goes on from 0", x.from(0), 1);
        due("THE TEXT is as it is now", x.count(7), 3);
        due("THE FRACTION is as it is now, above", x.part(0), 7);
        due("THE FRACTION is as it is now, below", x.part(1), 5);
        due("STATUS is as it is now", x.status(0) * 100 + x.status(1) * 10 + x.status(2), 111);
        due("IMAGE 1 is as it is now", x.from(1), 1);
        due("COLD of IMAGE 1", x.count(3), 9);
        due("and IMAGE 0", x.from(0), 1);
        due("COLD of IMAGE 0", x.count(3), 3);
    }

    private static void status() {
        promise = 35;
        for (int v : new int[] {-1, 3, -64, 35, Integer.MIN_VALUE, Integer.MAX_VALUE}) {
            looks("-1: another what (counts as BAD), " + v, EdgeTest::rich, x -> x.status(v), -1, COUNTS_BAD);
            looks("-1: another what (counts as BAD), new, " + v, BeepHouse::new, x -> x.status(v), -1, COUNTS_BAD);
        }
        for (int what = 0; what < 3; what++) {
            int one = what;
            asked("BAD (0), NO (1), FULL (2)", EdgeTest::rich, x -> x.status(one), 1);
            asked("none at first", BeepHouse::new, x -> x.status(one), 0);
        }
        BeepHouse x = rich();
        x.door(0, 0, 1);
        x.way(-2);
        x.part(2);
        x.status(3);
        due("BAD, however it is told", x.status(0), 5);
        x.take(0, 0);
        x.walk(7);
        undone(x).undo();
        due("NO", x.status(1), 4);
        x.note(0, 0);
        x.alarm(0, 0, 0);
        typed(x, blanks(150)).type(32);
        due("FULL", x.status(2), 4);
        x.read();
        x.far(0, 7);
        x.way(0);
        x.way(9);
        x.through(7, 0);
        x.stand();
        x.coldest(5);
        due("no other answers", x.status(0) * 100 + x.status(1) * 10 + x.status(2), 544);
    }

    private static void count() {
        promise = 36;
        badOutside("what 0 .. 7", 0, 7, (x, v) -> x.count(v));
        int[] counts = {6, 71, 4, 8, 2, 6, 8, 20};
        for (int what = 0; what < 8; what++) {
            int one = what;
            asked("how many, " + what, EdgeTest::rich, x -> x.count(one), counts[what]);
        }
        BeepHouse x = withAlarms(0, 0, 0, 0, 0, 0, 0);
        for (int k = 0; k < 6; k++) {
            due("down", x.count(4), k);
            x.take(k, 1);
        }
        due("down, all six", x.count(4), 6);
    }

    private static void digest() {
        promise = 37;
        List<Integer> row = new ArrayList<>(List.of(0, 0, 0, 3, 0, 0, 0, 0));
        for (int i = 0; i < 28; i++) {
            row.add(-1);
        }
        row.addAll(List.of(0, 1));
        asked("of a new one", BeepHouse::new, x -> x.digest(), mixed(row));
        List<Integer> full = new ArrayList<>(List.of(6, 71, 4, 8, 2, 6, 8, 20));
        for (int a = 0; a < 8; a++) {
            for (int b = a + 1; b < 8; b++) {
                full.add(b == a + 1 && a < 6 ? a + 2 : -1);
            }
        }
        full.addAll(List.of(0, 0, 0, 0, 1, 1, 1, 0, 2, 2, 9, 0, 3, 3, 15, 1, 4, 4, 20, 1, 5, 5, 25, 0));
        full.addAll(List.of(0, -1, 1, 0, 2, 1, 3, 2, 4, 3, 5, 4));
        full.addAll(List.of((int) rich().part(0), (int) rich().part(1)));
        asked("of a full one", EdgeTest::rich, x -> x.digest(), mixed(full));
        BeepHouse x = new BeepHouse();
        x.door(7, 6, 9);
        row.set(8 + 27, 9);
        due("the last DOOR, a below b", x.digest(), mixed(row));
        x.door(1, 0, 1);
        row.set(8, 1);
        due("the first DOOR, a below b", x.digest(), mixed(row));
        x.far(3, 3);
        due("what is only asked changes nothing", x.digest(), mixed(row));
    }

    /** In numbers without a bound, and cut to 64 bits at the end alone. */
    private static long mixed(List<Integer> row) {
        BigInteger h = BigInteger.valueOf(1229);
        for (int v : row) {
            h = h.multiply(BigInteger.valueOf(31)).add(BigInteger.valueOf(v));
        }
        return h.longValue();
    }
}
