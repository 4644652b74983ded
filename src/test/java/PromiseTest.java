/** For each promise of the document: ordinary inputs, the edges that it names, and wrong inputs. */
public final class PromiseTest {
    private static int wrong = 0;
    private static int promise = 0;

    public static void main(String[] args) {
        newObject();
        house();
        door();
        alarm();
        typeAndClear();
        readGood();
        readFaults();
        readTakesThePlace();
        waits();
        walk();
        take();
        battery();
        cold();
        undo();
        of();
        far();
        beepsPlainAndOld();
        beepsOthers();
        heard();
        through();
        next();
        coldest();
        sure();
        way();
        two();
        beside();
        notes();
        which();
        stand();
        is();
        missedAndPart();
        nights();
        images();
        status();
        count();
        digest();
        System.out.println(wrong == 0 ? "PromiseTest: all promises hold" : "PromiseTest: " + wrong + " answers are wrong");
        if (wrong != 0) {
            System.exit(1);
        }
    }

    private static void due(String call, long got, long want) {
        if (got != want) {
            wrong++;
            System.out.println("promise " + promise + ": " + call + " answered " + got + ", due is " + want);
        }
    }

    private static void type(BeepHouse x, String text) {
        x.clear();
        for (int i = 0; i < text.length(); i++) {
            x.type(text.charAt(i));
        }
    }

    private static int read(BeepHouse x, String text) {
        type(x, text);
        return x.read();
    }

    /** A chain of rooms 0 - 1 - .. - 7 with doors of one length. */
    private static BeepHouse chain(int length) {
        BeepHouse x = new BeepHouse();
        for (int r = 0; r < 7; r++) {
            x.door(r, r + 1, length);
        }
        return x;
    }

    private static long mixed(long... row) {
        long h = 1229;
        for (long v : row) {
            h = 31 * h + v;
        }
        return h;
    }

    private static void newObject() {
        promise = 1;
        BeepHouse x = new BeepHouse();
        int[] counts = {0, 0, 0, 3, 0, 0, 0, 0};
        for (int what = 0; what < counts.length; what++) {
            due("count(" + what + ")", x.count(what), counts[what]);
        }
        for (int a = 0; a < 8; a++) {
            for (int b = 0; b < 8; b++) {
                due("far", x.far(a, b), a == b ? 0 : -1);
            }
        }
        due("part(0)", x.part(0), 0);
        due("part(1)", x.part(1), 1);
        due("status(0)", x.status(0), 0);
        due("status(1)", x.status(1), 0);
        due("status(2)", x.status(2), 0);
        due("from(0)", x.from(0), -3);
        due("from(1)", x.from(1), -3);
        due("NONE", BeepHouse.NONE, -1);
        due("BAD", BeepHouse.BAD, -2);
        due("NO", BeepHouse.NO, -3);
        due("FULL", BeepHouse.FULL, -4);
    }

    private static void house() {
        promise = 2;
        BeepHouse x = chain(1);
        long fresh = new BeepHouse().digest();
        x.alarm(0, 0, 0);
        x.alarm(0, 0, 0);
        x.note(0, 0);
        x.cold(7);
        x.waits(9);
        x.walk(3);
        x.take(0, 1);
        x.image(1);
        due("house()", x.house(), 2);
        due("digest() behind house()", x.digest(), fresh);
        due("undo()", x.undo(), -3);
        due("house()", x.house(), 0);
        due("from(1) behind house()", x.from(1), 1);
        due("count(0)", x.count(0), 2);
        x.type(65);
        x.walk(0);
        x.missed(0, 0, 5);
        due("part(1)", x.part(1), 1);
        x.missed(0, 0, 9);
        x.house();
        due("THE TEXT behind house()", x.count(7), 1);
        due("THE FRACTION above behind house()", x.part(0), 1);
        due("THE FRACTION below behind house()", x.part(1), 5);
        due("STATUS behind house()", x.status(1), 2);
    }

    private static void door() {
        promise = 3;
        BeepHouse x = new BeepHouse();
        due("door(0, 7, 9)", x.door(0, 7, 9), -1);
        due("door(7, 0, 1)", x.door(7, 0, 1), 9);
        due("door(0, 7, 5)", x.door(0, 7, 5), 1);
        due("far(7, 0)", x.far(7, 0), 5);
        due("a longer one counts", x.door(7, 0, 8), 5);
        due("far(0, 7)", x.far(0, 7), 8);
        long before = x.digest();
        int[][] bad = {{0, 0, 1}, {-1, 0, 1}, {0, -1, 1}, {8, 0, 1}, {0, 8, 1}, {0, 1, 0}, {0, 1, 10}, {0, 1, -1},
            {Integer.MIN_VALUE, 0, 1}, {0, Integer.MAX_VALUE, 1}, {0, 1, Integer.MIN_VALUE}};
        for (int[] b : bad) {
            due("door, wrong", x.door(b[0], b[1], b[2]), -10);
        }
        due("they count as BAD", x.status(0), bad.length);
        due("nothing is changed", x.digest(), before);
    }

    private static void alarm() {
        promise = 4;
        BeepHouse x = new BeepHouse();
        int[][] bad = {{-1, 0, 0}, {6, 0, 0}, {0, -1, 0}, {0, 8, 0}, {0, 0, -1}, {0, 0, 100},
            {Integer.MAX_VALUE, 0, 0}, {0, Integer.MIN_VALUE, 0}, {0, 0, Integer.MAX_VALUE}};
        for (int[] b : bad) {
            due("alarm, wrong", x.alarm(b[0], b[1], b[2]), -2);
        }
        due("BAD", x.status(0), bad.length);
        for (int k = 0; k < 6; k++) {
            due("alarm", x.alarm(k, 7 - k, 99 - k), k);
            due("KIND", x.of(k, 0), k);
            due("ROOM", x.of(k, 1), 7 - k);
            due("BATTERY", x.of(k, 2), 99 - k);
            due("up at first", x.of(k, 3), 0);
        }
        due("a 7th", x.alarm(0, 0, 0), -4);
        due("a 7th, wrong", x.alarm(6, 0, 0), -2);
        due("FULL", x.status(2), 1);
        due("count(0)", x.count(0), 6);
    }

    private static void typeAndClear() {
        promise = 5;
        BeepHouse x = new BeepHouse();
        due("type(-1)", x.type(-1), -2);
        due("type(128)", x.type(128), -2);
        for (int i = 1; i <= 150; i++) {
            due("type", x.type(i % 128), i);
        }
        due("the 151st", x.type(0), -4);
        due("the 151st, wrong", x.type(128), -2);
        due("FULL", x.status(2), 1);
        due("BAD", x.status(0), 3);
        promise = 6;
        due("clear()", x.clear(), 150);
        due("clear() again", x.clear(), 0);
        due("type(127)", x.type(127), 1);
        due("count(7)", x.count(7), 1);
    }

    private static void readGood() {
        promise = 7;
        BeepHouse x = new BeepHouse();
        due("read", read(x, "house 7;"), 1);
        due("COLD", x.count(3), 7);
        due("figures with a nought ahead", read(x, "house 09;door 00 07 01;alarm 05 07 00;down 00;"), 4);
        due("COLD", x.count(3), 9);
        due("far(0, 7)", x.far(0, 7), 1);
        due("KIND", x.of(0, 0), 5);
        due("down", x.of(0, 3), 1);
        due("blanks, where they may be", read(x, "  house  3  ;  down   "), -10 - 22);
        due("no blanks, where none need be", read(x, "house4;door1 2 3;alarm0 1 99;down0;"), 4);
        due("far(1, 2)", x.far(1, 2), 3);
        due("BATTERY", x.of(0, 2), 99);
        due("blanks at both ends", read(x, "   house 3 ;   "), 1);
        due("the last door counts", read(x, "house 0;door 0 1 9;door 1 0 4;door 7 6 2;"), 4);
        due("far(6, 7)", x.far(6, 7), 2);
        due("far(0, 1)", x.far(0, 1), 4);
        due("six alarms", read(x, "house 0;alarm 0 0 0;alarm 1 1 1;alarm 2 2 2;alarm 3 3 3;alarm 4 4 4;alarm 5 5 5;down 5;down 5;"), 9);
        due("count(0)", x.count(0), 6);
        due("count(4)", x.count(4), 1);
    }

    private static void readFaults() {
        promise = 7;
        BeepHouse x = chain(2);
        x.alarm(0, 0, 0);
        x.waits(3);
        String six = "house 0;alarm 0 0 0;alarm 0 0 0;alarm 0 0 0;alarm 0 0 0;alarm 0 0 0;alarm 0 0 0;";
        Object[][] faults = {
            {"", 0}, {"   ", 3}, {"house", 5}, {"house ", 6}, {"house 1", 7}, {"house 1 ", 8}, {"hous", 0}, {"houses 1;", 0},
            {"hous e 1;", 0}, {"House 1;", 0}, {" ;", 1}, {"1", 0}, {"door 0 1 2;", 0}, {"alarm 0 0 0;", 0}, {"down 0;", 0},
            {"house;", 5}, {"house house;", 6}, {"house 10;", 6}, {"house 100;", 6}, {"house 000;", 6}, {"house 1 1;", 8},
            {"house -1;", 6}, {"house 1,", 7}, {"house 1;;", 8}, {"house 1;house 1;", 8}, {"house 1;ho", 8}, {"house 1; 5;", 9},
            {"house 1;door 0 0 1;", 15}, {"house 1;door 8 0 1;", 13}, {"house 1;door 0 8 1;", 15}, {"house 1;door 0 1 0;", 17},
            {"house 1;door 0 1 10;", 17}, {"house 1;door 0 1;", 16}, {"house 1;door 0 1 1 1;", 19}, {"house 1;door 0 1", 16},
            {"house 1;door 0 100 1;", 15}, {"house 1;doors 0 1 1;", 8}, {"house 1;alarm 6 0 0;", 14}, {"house 1;alarm 0 8 0;", 16},
            {"house 1;alarm 0 0 100;", 18}, {"house 1;alarm 0 0 99", 20}, {"house 1;down 0;", 13}, {"house 1;down ;", 13},
            {"house 1;down", 12}, {"house 1;alarm 0 0 0;down 1;", 25}, {"house 1;alarm 0 0 0;down 0 0;", 27},
            {"house 1;alarm 0 0 0;down 99;", 25}, {"house 1;\n", 8}, {"house\t1;", 5}, {"house 1;door 0 1 2#", 18},
            {"house 1;door", 12}, {"house 1;door 0", 14}, {"house 1;door 0 1 2", 18}, {"house 1;alarm", 13}, {"house 1;alarm 0", 15},
            {"house 1;alarm 0 0", 17}, {"house 1;alarm 0 0 0;down 0", 26}, {"mouse 1;", 0}, {"house 1;floor 0 1 2;", 8},
            {six + "alarm", 80}, {six + "alarm 0 0 0;", 80}, {six + "down 6;", 85}, {six + " alarm", 81}};
        long before = x.digest();
        for (Object[] f : faults) {
            due("read of '" + f[0] + "'", read(x, (String) f[0]), -10 - (Integer) f[1]);
            x.clear();
            due("all stays behind '" + f[0] + "'", x.digest(), before);
            if (x.status(0) + x.status(1) + x.status(2) != 0) {
                due("a FAULT is none of STATUS", 1, 0);
            }
            x = chain(2);
            x.alarm(0, 0, 0);
            x.waits(3);
        }
    }

    private static void readTakesThePlace() {
        promise = 7;
        BeepHouse x = chain(2);
        x.alarm(0, 0, 0);
        x.alarm(0, 2, 0);
        x.walk(2);
        x.take(1, 1);
        x.note(1, 1);
        x.image(0);
        x.missed(2, 41, 5);
        x.undo();
        x.type(-1);
        long kept = x.part(1);
        due("read", read(x, "house 5;alarm 4 3 2;"), 2);
        due("digest", x.digest(), mixed(1, 0, 0, 5, 0, 0, 0, 20,
            -1, -1, -1, -1, -1, -1, -1, -1, -1, -1, -1, -1, -1, -1, -1, -1, -1, -1, -1, -1, -1, -1, -1, -1, -1, -1, -1, -1,
            4, 3, 2, 0, x.part(0), kept));
        due("STATUS stays", x.status(0), 1);
        due("undo()", x.undo(), -3);
        due("IMAGES stay", x.from(0), 1);
        due("count(2)", x.count(2), 2);
        due("count(5)", x.count(5), 1);
    }

    private static void waits() {
        promise = 8;
        BeepHouse x = new BeepHouse();
        x.alarm(0, 0, 0);
        x.alarm(0, 1, 0);
        x.alarm(4, 0, 0);
        due("waits(0)", x.waits(0), -2);
        due("waits(-1)", x.waits(-1), -2);
        due("waits(100)", x.waits(100), -2);
        due("waits(7)", x.waits(7), 4);
        due("waits(34)", x.waits(34), 1);
        due("count(1)", x.count(1), 41);
        due("waits(1)", x.waits(1), 0);
        due("count(6)", x.count(6), 3);
        due("undo()", x.undo(), 41);
        for (int i = 0; i < 110; i++) {
            x.waits(99);
        }
        due("9999 at most", x.count(1), 9999);
        due("waits(1) at the last SECOND", x.waits(1), 0);
        due("count(1)", x.count(1), 9999);
        due("undo()", x.undo(), 9999);
        due("count(6)", x.count(6), 7);
    }

    private static void walk() {
        promise = 9;
        BeepHouse x = new BeepHouse();
        x.door(0, 1, 9);
        x.door(0, 2, 3);
        x.door(2, 1, 4);
        due("walk(8)", x.walk(8), -2);
        due("walk(-1)", x.walk(-1), -2);
        due("walk(3)", x.walk(3), -3);
        due("NO", x.status(1), 1);
        due("count(6)", x.count(6), 0);
        due("walk(1)", x.walk(1), 7);
        due("count(1)", x.count(1), 7);
        due("count(2)", x.count(2), 1);
        due("walk(1), where one is", x.walk(1), 0);
        due("count(6)", x.count(6), 2);
        due("undo()", x.undo(), 7);
        due("count(2)", x.count(2), 1);
        due("undo()", x.undo(), 0);
        due("count(2)", x.count(2), 0);
        for (int i = 0; i < 110; i++) {
            x.waits(99);
        }
        due("walk(1) at the last SECOND", x.walk(1), 7);
        due("count(1)", x.count(1), 9999);
        due("count(2)", x.count(2), 1);
    }

    private static void take() {
        promise = 10;
        BeepHouse x = new BeepHouse();
        x.door(0, 1, 1);
        x.alarm(0, 0, 0);
        x.alarm(0, 1, 0);
        due("take(0, 2)", x.take(0, 2), -2);
        due("take(0, -1)", x.take(0, -1), -2);
        due("take(2, 0)", x.take(2, 0), -2);
        due("take(-1, 0)", x.take(-1, 0), -2);
        due("take(1, 2)", x.take(1, 2), -2);
        due("take(1, 1)", x.take(1, 1), -3);
        due("count(6)", x.count(6), 0);
        due("take(0, 1)", x.take(0, 1), 1);
        due("of(0, 3)", x.of(0, 3), 1);
        due("count(4)", x.count(4), 1);
        due("beeps(0, 0)", x.beeps(0, 0), 0);
        due("take(0, 1) again", x.take(0, 1), 1);
        due("take(0, 0)", x.take(0, 0), 1);
        due("of(0, 3)", x.of(0, 3), 0);
        due("beeps(0, 0)", x.beeps(0, 0), 1);
        due("count(6)", x.count(6), 3);
        x.walk(1);
        due("take(0, 1)", x.take(0, 1), -3);
        due("take(1, 1)", x.take(1, 1), 1);
    }

    private static void battery() {
        promise = 11;
        BeepHouse x = new BeepHouse();
        due("battery(0, 0), no ALARM", x.battery(0, 0), -2);
        x.alarm(0, 5, 50);
        due("battery(0, 99)", x.battery(0, 99), 50);
        due("battery(0, 0)", x.battery(0, 0), 99);
        due("battery(0, 100)", x.battery(0, 100), -2);
        due("battery(0, -1)", x.battery(0, -1), -2);
        due("battery(1, 0)", x.battery(1, 0), -2);
        due("battery(-1, 0)", x.battery(-1, 0), -2);
        due("of(0, 2)", x.of(0, 2), 0);
        due("count(6)", x.count(6), 2);
    }

    private static void cold() {
        promise = 12;
        BeepHouse x = new BeepHouse();
        due("cold(9)", x.cold(9), 3);
        due("cold(0)", x.cold(0), 9);
        due("cold(10)", x.cold(10), -2);
        due("cold(-1)", x.cold(-1), -2);
        due("count(3)", x.count(3), 0);
        due("count(6)", x.count(6), 2);
    }

    private static void undo() {
        promise = 13;
        BeepHouse x = chain(3);
        x.alarm(0, 1, 50);
        x.alarm(0, 0, 60);
        due("undo()", x.undo(), -3);
        x.waits(10);
        x.walk(1);
        x.take(0, 1);
        x.battery(1, 5);
        x.cold(8);
        x.note(0, 0);
        x.door(0, 7, 1);
        due("undo() of COLD", x.undo(), 13);
        due("count(3)", x.count(3), 3);
        due("of(1, 2)", x.of(1, 2), 5);
        due("undo() of BATTERY", x.undo(), 13);
        due("of(1, 2)", x.of(1, 2), 60);
        due("of(0, 3)", x.of(0, 3), 1);
        due("undo() of taken down", x.undo(), 13);
        due("of(0, 3)", x.of(0, 3), 0);
        due("count(2)", x.count(2), 1);
        due("undo() of a step", x.undo(), 10);
        due("count(2)", x.count(2), 0);
        due("undo() of SECONDS", x.undo(), 0);
        due("NOTES stay", x.count(5), 1);
        due("DOORS stay", x.far(0, 7), 1);
        due("undo()", x.undo(), -3);
        for (int i = 1; i <= 9; i++) {
            x.waits(i);
        }
        due("8 at most", x.count(6), 8);
        for (int i = 9; i >= 2; i--) {
            due("undo()", x.undo(), i * (i - 1) / 2);
        }
        due("undo()", x.undo(), -3);
        due("count(1)", x.count(1), 1);
        x.waits(1);
        due("alarm, wrong", x.alarm(9, 0, 0), -2);
        due("count(6)", x.count(6), 1);
        x.alarm(0, 0, 0);
        due("behind an ALARM none", x.undo(), -3);
        due("count(6)", x.count(6), 0);
    }

    private static void of() {
        promise = 14;
        BeepHouse x = new BeepHouse();
        due("of(0, 0), no ALARM", x.of(0, 0), -2);
        int[] loud = {20, 20, 40, 8, 9, 20};
        for (int k = 0; k < 6; k++) {
            x.alarm(k, 0, 40 + k);
            due("LOUD", x.of(k, 4), loud[k]);
        }
        x.take(3, 1);
        due("of(3, 0)", x.of(3, 0), 3);
        due("of(3, 1)", x.of(3, 1), 0);
        due("of(3, 2)", x.of(3, 2), 43);
        due("of(3, 3)", x.of(3, 3), 1);
        due("of(3, 5)", x.of(3, 5), -2);
        due("of(3, -1)", x.of(3, -1), -2);
        due("of(6, 0)", x.of(6, 0), -2);
        due("of(-1, 0)", x.of(-1, 0), -2);
        due("BAD", x.status(0), 5);
    }

    private static void far() {
        promise = 15;
        BeepHouse x = chain(9);
        due("far(0, 7)", x.far(0, 7), 63);
        due("far(7, 0)", x.far(7, 0), 63);
        due("far(4, 4)", x.far(4, 4), 0);
        x.door(0, 7, 9);
        due("far(0, 7)", x.far(0, 7), 9);
        due("far(1, 6)", x.far(1, 6), 27);
        due("far(8, 0)", x.far(8, 0), -2);
        due("far(0, 8)", x.far(0, 8), -2);
        due("far(-1, 0)", x.far(-1, 0), -2);
        due("far(8, 8)", x.far(8, 8), -2);
        BeepHouse y = new BeepHouse();
        y.door(0, 1, 1);
        y.door(2, 3, 1);
        due("far(0, 2)", y.far(0, 2), -1);
        due("NONE is no refusal", y.status(0) + y.status(1) + y.status(2), 0);
    }

    private static void beepsPlainAndOld() {
        promise = 16;
        BeepHouse x = new BeepHouse();
        due("beeps(0, 0), no ALARM", x.beeps(0, 0), -2);
        x.alarm(0, 0, 22);
        x.alarm(1, 0, 32);
        for (int s = 0; s <= 9999; s += 1 + s % 3) {
            due("PLAIN in " + s, x.beeps(0, s), s % 41 == 0 ? 1 : 0);
            due("OLD in " + s, x.beeps(1, s), s % 41 == 0 ? 1 : 0);
        }
        x.battery(0, 23);
        x.battery(1, 33);
        due("PLAIN, b less c is 20", x.beeps(0, 41), 0);
        due("OLD, b less 10 less c is 20", x.beeps(1, 41), 0);
        x.cold(4);
        due("PLAIN, colder", x.beeps(0, 41), 1);
        due("OLD, colder", x.beeps(1, 41), 1);
        due("beeps(0, -1)", x.beeps(0, -1), -2);
        due("beeps(0, 10000)", x.beeps(0, 10000), -2);
        due("beeps(2, 0)", x.beeps(2, 0), -2);
        due("beeps(-1, 0)", x.beeps(-1, 0), -2);
    }

    private static void beepsOthers() {
        promise = 16;
        BeepHouse x = new BeepHouse();
        x.alarm(2, 0, 12);
        x.alarm(3, 0, 22);
        x.alarm(4, 0, 99);
        x.alarm(5, 0, 34);
        due("WIRED at 0", x.beeps(0, 82), 1);
        due("WIRED at 20", x.beeps(0, 61), 1);
        x.battery(0, 13);
        due("WIRED at 20, b less c is 10", x.beeps(0, 61), 0);
        due("WIRED at 0, b less c is 10", x.beeps(0, 82), 1);
        due("DRAWER at 0", x.beeps(1, 41), 1);
        due("DRAWER at 20", x.beeps(1, 61), 0);
        due("PHONE at 0", x.beeps(2, 0), 0);
        due("PHONE at 7", x.beeps(2, 7), 1);
        due("PHONE at 9997", x.beeps(2, 9997), 1);
        due("FRESH at COLD 3", x.beeps(3, 0), 0);
        x.cold(4);
        due("FRESH at COLD 4", x.beeps(3, 0), 0);
        x.cold(5);
        due("FRESH at COLD 5", x.beeps(3, 0), 1);
        x.battery(3, 35);
        due("FRESH, b less 10 less c is 20", x.beeps(3, 0), 0);
        for (int k = 0; k < 4; k++) {
            x.battery(k, 0);
            x.take(k, 1);
        }
        due("WIRED, down", x.beeps(0, 0), 0);
        due("DRAWER, down", x.beeps(1, 0), 1);
        due("PHONE, down", x.beeps(2, 7), 1);
        due("FRESH, down", x.beeps(3, 0), 0);
    }

    private static void heard() {
        promise = 17;
        BeepHouse x = chain(8);
        x.door(0, 1, 4);
        for (int kind = 0; kind < 6; kind++) {
            x.alarm(kind, 0, 0);
        }
        due("at its ROOM", x.heard(0, 0), 0b001111);
        due("4 away", x.heard(1, 0), 0b001111);
        due("12 away", x.heard(2, 0), 0b000111);
        due("20 away: not LOUDER", x.heard(3, 0), 0b000100);
        due("36 away", x.heard(5, 0), 0b000100);
        due("44 away", x.heard(6, 0), 0);
        due("PHONE 4 away", x.heard(1, 7), 0b010000);
        due("PHONE 12 away", x.heard(2, 7), 0);
        due("WIRED alone", x.heard(0, 20), 0b000100);
        x.door(0, 1, 8);
        due("8 away: DRAWER not LOUDER", x.heard(1, 0), 0b000111);
        due("8 away: PHONE LOUDER", x.heard(1, 7), 0b010000);
        x.take(0, 1);
        x.take(3, 1);
        due("down", x.heard(0, 0), 0b001110);
        due("not joined", new BeepHouse().heard(1, 0), 0);
        due("heard(8, 0)", x.heard(8, 0), -2);
        due("heard(-1, 0)", x.heard(-1, 0), -2);
        due("heard(0, 10000)", x.heard(0, 10000), -2);
        due("heard(0, -1)", x.heard(0, -1), -2);
        due("heard(0, 9999)", x.heard(0, 9999), 0);
    }

    private static void through() {
        promise = 18;
        BeepHouse x = new BeepHouse();
        due("through(0, 0), no ALARM", x.through(0, 0), -2);
        x.door(0, 3, 2);
        x.door(0, 5, 1);
        x.door(3, 7, 2);
        x.door(5, 7, 3);
        x.alarm(0, 7, 99);
        due("of like ways the least", x.through(0, 0), 3);
        due("the ROOM itself", x.through(7, 0), 7);
        due("next to it", x.through(5, 0), 7);
        x.door(3, 7, 3);
        due("the shorter way", x.through(0, 0), 5);
        due("not joined", x.through(1, 0), -1);
        x.door(0, 7, 4);
        due("a door as long as the way", x.through(0, 0), 5);
        x.door(0, 1, 9);
        x.door(1, 2, 7);
        due("20 away", x.through(2, 0), -1);
        x.door(1, 2, 6);
        due("19 away", x.through(2, 0), 1);
        due("through(8, 0)", x.through(8, 0), -2);
        due("through(-1, 0)", x.through(-1, 0), -2);
        due("through(0, 1)", x.through(0, 1), -2);
        due("through(0, -1)", x.through(0, -1), -2);
    }

    private static void next() {
        promise = 19;
        BeepHouse x = new BeepHouse();
        x.alarm(0, 0, 0);
        x.alarm(4, 1, 0);
        x.alarm(0, 0, 99);
        due("next(0, 0)", x.next(0, 0), 0);
        due("next(0, 1)", x.next(0, 1), 0);
        due("next(1, 0)", x.next(1, 0), 7);
        due("next(2, 1)", x.next(2, 1), -1);
        due("next(2, 0)", x.next(2, 0), -1);
        due("next(7, 0)", x.next(7, 0), -1);
        x.waits(1);
        due("next(0, 0)", x.next(0, 0), 40);
        due("next(1, 1)", x.next(1, 1), 6);
        x.waits(7);
        due("next(1, 1)", x.next(1, 1), 29);
        due("next(8, 0)", x.next(8, 0), -2);
        due("next(-1, 0)", x.next(-1, 0), -2);
        due("next(3, 1)", x.next(3, 1), -2);
        due("next(-1, 1)", x.next(-1, 1), -2);
        due("next(0, 2)", x.next(0, 2), -2);
        due("next(0, -1)", x.next(0, -1), -2);
        for (int i = 0; i < 110; i++) {
            x.waits(99);
        }
        due("behind 9999: 10004 by 41 leaves 0", x.next(0, 1), 5);
        due("behind 9999: 10027 by 30 leaves 7", x.next(1, 1), 28);
        long before = x.digest();
        x.next(0, 0);
        due("nothing is changed", x.digest(), before);
    }

    private static void coldest() {
        promise = 20;
        BeepHouse x = new BeepHouse();
        due("coldest(0), no ALARM", x.coldest(0), -2);
        x.alarm(0, 0, 19);
        x.alarm(1, 0, 29);
        x.alarm(2, 0, 19);
        x.alarm(3, 0, 19);
        x.alarm(4, 0, 99);
        x.alarm(5, 0, 29);
        int[] least = {0, 0, 0, 0, 0, 5};
        int[] more = {1, 1, 1, 1, 0, 5};
        int[] most = {19 + 9, 29 + 9, 19 + 9, 19 + 9, 99, 29 + 9};
        for (int k = 0; k < 6; k++) {
            due("coldest", x.coldest(k), least[k]);
            x.battery(k, Math.min(99, x.of(k, 2) + 1));
            due("coldest, one more", x.coldest(k), more[k]);
            x.battery(k, most[k]);
            due("coldest, at 9", x.coldest(k), k == 4 ? 0 : 9);
            x.take(k, 1);
            due("coldest, down", x.coldest(k), k == 4 ? 0 : 9);
            x.battery(k, Math.min(99, most[k] + 1));
            due("coldest, none", x.coldest(k), k == 4 ? 0 : -1);
        }
        due("coldest(6)", x.coldest(6), -2);
        due("coldest(-1)", x.coldest(-1), -2);
        due("COLD stays", x.count(3), 3);
    }

    private static void sure() {
        promise = 21;
        BeepHouse x = chain(1);
        due("sure(1, 0), no ALARM", x.sure(1, 0), -2);
        for (int r = 0; r < 6; r++) {
            x.alarm(0, r, 99);
        }
        // In the middle of three on a chain all three come through unlike ROOMS.
        due("the first alone", x.sure(1, 0), 0);
        due("one", x.sure(8, 0), 0);
        due("one, ROOM", x.sure(8, 1), 0);
        due("two", x.sure(0b000011, 0), 1);
        due("two, ROOM", x.sure(0b000011, 1), 0);
        due("two farther", x.sure(0b110000, 0), 1);
        due("two farther, ROOM", x.sure(0b110000, 1), 4);
        due("three", x.sure(0b000111, 0), 1);
        due("three, ROOM", x.sure(0b000111, 1), 1);
        due("four", x.sure(0b001111, 0), 2);
        due("four, ROOM", x.sure(0b001111, 1), 0);
        due("six", x.sure(0b111111, 0), 2);
        due("six, ROOM", x.sure(0b111111, 1), 2);
        due("sure(0, 0)", x.sure(0, 0), -2);
        due("sure(64, 0)", x.sure(64, 0), -2);
        due("sure(-1, 0)", x.sure(-1, 0), -2);
        due("sure(1, 2)", x.sure(1, 2), -2);
        due("sure(1, -1)", x.sure(1, -1), -2);
        x.take(0, 1);
        due("up or not", x.sure(0b000011, 0), 1);
        BeepHouse y = new BeepHouse();
        y.alarm(0, 2, 0);
        y.alarm(1, 2, 0);
        y.alarm(3, 2, 0);
        due("alike everywhere", y.sure(3, 0), -1);
        due("alike everywhere, ROOM", y.sure(3, 1), -1);
        y.door(2, 6, 8);
        due("told by how LOUD", y.sure(5, 0), 1);
        due("told by how LOUD, ROOM", y.sure(5, 1), 6);
        due("two of three alike", y.sure(7, 0), -1);
        due("NONE is no refusal", y.status(0) + y.status(1) + y.status(2), 0);
        BeepHouse z = chain(1);
        z.alarm(0, 0, 99);
        due("the only one", z.sure(1, 0), 0);
        z.alarm(0, 1, 99);
        z.alarm(0, 1, 99);
        due("the last two alike", z.sure(6, 0), -1);
        due("the last two alike among three", z.sure(7, 0), -1);
        due("the first apart", z.sure(5, 0), 1);
    }

    private static void way() {
        promise = 22;
        BeepHouse x = chain(2);
        due("no ALARM", x.way(-1), 0);
        due("no ALARM, the first", x.way(0), -5);
        x.alarm(0, 3, 0);
        x.alarm(1, 1, 0);
        x.alarm(2, 3, 0);
        x.alarm(3, 7, 0);
        x.alarm(4, 7, 0);
        x.alarm(5, 7, 0);
        due("least", x.way(-1), 6);
        due("first order, 0", x.way(0), 1);
        due("first order, 1", x.way(1), 0);
        due("first order, 2", x.way(2), 2);
        due("first order, 3", x.way(3), -5);
        due("way(6)", x.way(6), -5);
        due("way(max)", x.way(Integer.MAX_VALUE), -5);
        due("way(-2)", x.way(-2), -10);
        due("way(min)", x.way(Integer.MIN_VALUE), -10);
        due("BAD", x.status(0), 2);
        x.cold(5);
        due("FRESH too", x.way(-1), 14);
        due("last", x.way(3), 5);
        x.walk(4);
        due("from 4: up by 7, then down, or the other way", x.way(-1), 2 * (3 + 6));
        due("from 4, 0", x.way(0), 0);
        due("from 4, 1: on the way down or up alike, the lesser number", x.way(1), 1);
        due("from 4, 2", x.way(2), 2);
        due("from 4, 3", x.way(3), 5);
        x.walk(3);
        x.take(0, 1);
        due("down: not gone to", x.way(0), 1);
        due("down: not gone to, 1", x.way(1), 2);
        due("down: not gone to, 3", x.way(3), -5);
        x.battery(2, 99);
        due("does not BEEP: not gone to", x.way(1), 5);
        due("does not BEEP: not gone to, 2", x.way(2), -5);
        BeepHouse y = new BeepHouse();
        y.alarm(0, 0, 0);
        y.alarm(0, 1, 0);
        due("not joined", y.way(-1), -1);
        due("not joined, whatever i is", y.way(0), -1);
        due("not joined, whatever i is", y.way(5), -1);
        due("not joined, wrong", y.way(-2), -10);
        y.battery(1, 99);
        due("joined to all that BEEP", y.way(-1), 0);
        y.battery(0, 99);
        y.battery(1, 0);
        due("the only one not joined", y.way(-1), -1);
        y.battery(0, 0);
        y.battery(1, 99);
        y.battery(1, 22);
        due("b less c less than 20", y.way(-1), -1);
        y.battery(1, 23);
        due("b less c is 20", y.way(-1), 0);
    }

    private static void two() {
        promise = 23;
        BeepHouse x = chain(1);
        due("no ALARM", x.two(0, 0), 0);
        x.alarm(0, 0, 99);
        due("one ALARM", x.two(0, 7), 0);
        x.alarm(0, 1, 99);
        x.alarm(0, 2, 99);
        due("in 0: 0 from the others", x.two(0, 0), 2);
        due("in 1: all", x.two(1, 1), 3);
        due("in 3: none", x.two(3, 3), 0);
        due("in 0 and 2: all", x.two(0, 2), 3);
        due("in 3 and 0", x.two(3, 0), 2);
        due("in 7 and 6", x.two(7, 6), 0);
        x.take(0, 1);
        due("down all the same", x.two(1, 1), 3);
        due("two(8, 0)", x.two(8, 0), -2);
        due("two(0, 8)", x.two(0, 8), -2);
        due("two(-1, 0)", x.two(-1, 0), -2);
        due("two(0, -1)", x.two(0, -1), -2);
    }

    private static void beside() {
        promise = 24;
        BeepHouse x = chain(9);
        due("no ALARM", x.beside(), 0);
        x.alarm(3, 4, 99);
        due("one", x.beside(), 4);
        BeepHouse y = new BeepHouse();
        y.alarm(0, 1, 99);
        due("in 1", y.beside(), 1);
        y.alarm(0, 0, 99);
        due("in 0 as many as in 1", y.beside(), 0);
        x.alarm(0, 7, 99);
        due("of like ones the least", x.beside(), 4);
        x.door(4, 5, 7);
        due("two", x.beside(), 5);
        x.walk(4);
        x.take(0, 1);
        due("up or not", x.beside(), 5);
    }

    private static void notes() {
        promise = 25;
        BeepHouse x = new BeepHouse();
        due("note(8, 0)", x.note(8, 0), -2);
        due("note(-1, 0)", x.note(-1, 0), -2);
        due("note(0, 8)", x.note(0, 8), -2);
        due("note(0, -2)", x.note(0, -2), -2);
        for (int i = 1; i <= 6; i++) {
            due("note", x.note(i % 2 * 7, i % 3 == 0 ? -1 : 7), i);
        }
        due("a 7th", x.note(0, 0), -4);
        due("a 7th, wrong", x.note(0, 9), -2);
        due("FULL", x.status(2), 1);
        due("may not be undone", x.count(6), 0);
        promise = 26;
        due("forget()", x.forget(), 6);
        due("count(5)", x.count(5), 0);
        due("forget() again", x.forget(), 0);
        due("note behind forget()", x.note(0, 0), 1);
    }

    private static void which() {
        promise = 27;
        BeepHouse x = chain(5);
        due("no ALARM", x.which(), 0);
        x.alarm(0, 0, 99);
        x.alarm(3, 2, 99);
        x.alarm(2, 5, 99);
        x.alarm(0, 2, 99);
        due("no NOTES", x.which(), 15);
        x.note(1, 2);
        due("through 2 in 1", x.which(), 0b1110);
        x.note(0, -1);
        due("not in 0", x.which(), 0b0010);
        x.forget();
        x.note(0, 1);
        due("through 1 in 0", x.which(), 0b1100);
        x.note(2, 2);
        due("in 2", x.which(), 0b1000);
        x.note(2, 3);
        due("none fits", x.which(), 0);
        x.forget();
        x.take(0, 1);
        x.note(0, 0);
        due("up or not", x.which(), 0b0001);
    }

    private static void stand() {
        promise = 28;
        BeepHouse x = chain(1);
        due("no ALARM", x.stand(), -1);
        x.alarm(0, 2, 99);
        due("one: of like ones the least", x.stand(), 0);
        x.alarm(0, 3, 99);
        x.alarm(0, 4, 99);
        due("three on a chain", x.stand(), 3);
        x.alarm(0, 5, 99);
        x.alarm(0, 6, 99);
        due("five on a chain: 2, 1, 2", x.stand(), 4);
        x.note(4, 3);
        due("the two that fit", x.stand(), 2);
        x.note(4, 4);
        due("none fits", x.stand(), -1);
        BeepHouse y = new BeepHouse();
        y.door(4, 5, 8);
        y.alarm(0, 5, 99);
        y.alarm(3, 5, 99);
        due("HEARD or not", y.stand(), 4);
        BeepHouse z = new BeepHouse();
        z.door(1, 2, 1);
        z.alarm(0, 1, 99);
        z.alarm(0, 2, 99);
        due("in 1 apart, in 0 not", z.stand(), 1);
        z.alarm(0, 2, 99);
        z.alarm(0, 2, 99);
        due("three alike, one apart", z.stand(), 1);
        BeepHouse w = chain(1);
        w.alarm(0, 1, 99);
        w.alarm(0, 0, 99);
        due("in 0 apart already", w.stand(), 0);
    }

    private static void is() {
        promise = 29;
        BeepHouse x = new BeepHouse();
        due("is(0, 0, 0), no ALARM", x.is(0, 0, 0), -2);
        x.alarm(4, 0, 12);
        due("is(0, 0, 1)", x.is(0, 0, 1), 0b001111);
        due("is(0, 0, 0)", x.is(0, 0, 0), 0b110000);
        due("is(0, 7, 1)", x.is(0, 7, 1), 0b010000);
        due("is(0, 20, 1)", x.is(0, 20, 1), 0b000100);
        due("is(0, 1, 0)", x.is(0, 1, 0), 0b111111);
        x.cold(5);
        due("FRESH too", x.is(0, 0, 1), 0b101111);
        x.battery(0, 25);
        due("b less c is 20", x.is(0, 0, 1), 0b100010);
        due("677 by 41 leaves 21, by 30 17", x.is(0, 677, 0), 0b111111);
        due("697 by 41 leaves 0, by 30 7", x.is(0, 697, 1), 0b110010);
        x.take(0, 1);
        due("as if up", x.is(0, 0, 1), 0b100010);
        due("is(0, 9999, 0)", x.is(0, 9999, 0), 0b111111);
        due("is(0, 10000, 0)", x.is(0, 10000, 0), -2);
        due("is(0, -1, 0)", x.is(0, -1, 0), -2);
        due("is(0, 0, 2)", x.is(0, 0, 2), -2);
        due("is(0, 0, -1)", x.is(0, 0, -1), -2);
        due("is(1, 0, 0)", x.is(1, 0, 0), -2);
        due("is(-1, 0, 0)", x.is(-1, 0, 0), -2);
    }

    private static void missedAndPart() {
        promise = 30;
        BeepHouse x = new BeepHouse();
        for (int k = 0; k < 6; k++) {
            x.alarm(0, 0, 0);
        }
        int[][] fractions = {{0, 6, 1}, {1, 27, 5}, {2, 24, 5}, {3, 21, 5}, {4, 18, 5}, {5, 3, 1}, {6, 12, 5}, {7, 9, 5},
            {8, 6, 5}, {9, 3, 5}, {10, 0, 1}};
        for (int[] f : fractions) {
            due("missed", x.missed(0, 41, f[0]), 1);
            due("above", x.part(0), f[1]);
            due("below", x.part(1), f[2]);
        }
        x.take(0, 1);
        x.take(1, 1);
        x.take(2, 1);
        x.take(3, 1);
        x.take(4, 1);
        x.missed(0, 41, 1);
        due("one, above", x.part(0), 9);
        due("one, below", x.part(1), 10);
        due("missed(8, 0, 0)", x.missed(8, 0, 0), -2);
        due("missed(-1, 0, 0)", x.missed(-1, 0, 0), -2);
        due("missed(0, -1, 0)", x.missed(0, -1, 0), -2);
        due("missed(0, 10000, 0)", x.missed(0, 10000, 0), -2);
        due("missed(0, 0, -1)", x.missed(0, 0, -1), -2);
        due("missed(0, 0, 11)", x.missed(0, 0, 11), -2);
        promise = 32;
        due("refused: it stays", x.part(0), 9);
        due("part(2)", x.part(2), -2);
        due("part(-1)", x.part(-1), -2);
        due("BAD", x.status(0), 8);
        x.missed(3, 0, 1);
        due("nothing HEARD, above", x.part(0), 0);
        due("nothing HEARD, below", x.part(1), 1);
    }

    private static void nights() {
        promise = 31;
        BeepHouse x = new BeepHouse();
        for (int kind = 0; kind < 6; kind++) {
            x.alarm(kind, kind, new int[] {22, 37, 15, 24, 99, 31}[kind]);
        }
        int[] seeds = {0, 1, 5, 999999, 424242};
        int[] coldestThere = {3, 8, 0, 5, 0, 5};
        for (int seed : seeds) {
            long v = seed;
            int due = 0;
            for (int n = 0; n <= 60; n++) {
                due("nights(" + seed + ", " + n + ")", x.nights(seed, n), due);
                v = (v * 1103515245L + 12345L) & 0x7fffffffL;
                int room = (int) (v >> 16) & 7;
                int cold = (int) (v >> 20) % 10;
                due += room < 6 && cold >= coldestThere[room] ? 1 : 0;
            }
        }
        due("COLD stays", x.count(3), 3);
        x.take(0, 1);
        BeepHouse y = new BeepHouse();
        y.alarm(0, 0, 0);
        int up = y.nights(7, 60);
        y.take(0, 1);
        due("down: none", y.nights(7, 60), 0);
        due("up: some", up > 0 ? 1 : 0, 1);
        due("nights(-1, 0)", x.nights(-1, 0), -2);
        due("nights(1000000, 0)", x.nights(1000000, 0), -2);
        due("nights(0, -1)", x.nights(0, -1), -2);
        due("nights(0, 61)", x.nights(0, 61), -2);
    }

    private static void images() {
        promise = 33;
        BeepHouse x = chain(4);
        due("image(-1)", x.image(-1), -2);
        due("image(2)", x.image(2), -2);
        x.alarm(0, 0, 30);
        x.alarm(2, 1, 40);
        x.waits(20);
        x.battery(0, 31);
        x.note(3, 2);
        due("image(0)", x.image(0), 1);
        long kept = x.digest();
        x.walk(1);
        x.take(1, 1);
        x.door(0, 1, 9);
        x.forget();
        x.cold(9);
        due("image(1)", x.image(1), 1);
        long second = x.digest();
        x.house();
        promise = 34;
        due("from(-1)", x.from(-1), -2);
        due("from(2)", x.from(2), -2);
        due("from(0)", x.from(0), 1);
        due("digest()", x.digest(), kept);
        due("far(0, 1)", x.far(0, 1), 4);
        due("undo(), kept with it", x.undo(), 20);
        due("of(0, 2)", x.of(0, 2), 30);
        due("undo(), kept with it", x.undo(), 0);
        due("undo()", x.undo(), -3);
        due("from(0) again", x.from(0), 1);
        due("digest()", x.digest(), kept);
        due("from(1)", x.from(1), 1);
        due("digest()", x.digest(), second);
        due("far(0, 1)", x.far(0, 1), 9);
        x.type(5);
        x.missed(1, 0, 9);
        x.image(9);
        int bad = x.status(0);
        x.from(0);
        due("THE TEXT stays", x.count(7), 1);
        due("STATUS stays", x.status(0), bad);
        x.waits(1);
        x.image(0);
        x.house();
        x.from(0);
        due("an IMAGE in the place of one", x.count(1), 21);
        anotherHouseComesBack();
        BeepHouse y = new BeepHouse();
        y.image(1);
        due("from(0): none was kept", y.from(0), -3);
        due("NO", y.status(1), 1);
        due("from(1)", y.from(1), 1);
        y.alarm(0, 0, 0);
        y.missed(0, 0, 5);
        y.from(1);
        due("THE FRACTION stays, above", y.part(0), 1);
        due("THE FRACTION stays, below", y.part(1), 2);
    }

    private static void anotherHouseComesBack() {
        BeepHouse x = chain(2);
        for (int k = 0; k < 6; k++) {
            x.alarm(k, k + 1, 10 + k);
            x.note(k, 6 - k);
        }
        for (int i = 0; i < 4; i++) {
            x.battery(i, 80 + i);
            x.waits(1);
        }
        long kept = x.digest();
        int answers = x.heard(3, 0) + 100 * x.through(0, 5) + 1000 * x.far(0, 7);
        x.image(0);
        x.house();
        for (int k = 0; k < 6; k++) {
            x.alarm(5 - k, 6 - k, 50);
            x.note(7, 7);
            x.door(k, k + 1, 9);
            x.cold(k);
        }
        x.far(0, 7);
        x.from(0);
        due("all of another HOUSE comes back", x.digest(), kept);
        due("and answers as it did", x.heard(3, 0) + 100 * x.through(0, 5) + 1000 * x.far(0, 7), answers);
        for (int i = 3; i >= 0; i--) {
            due("undo() of SECONDS", x.undo(), i);
            due("undo() of BATTERY", x.undo(), i);
            due("BATTERY", x.of(i, 2), 10 + i);
        }
        due("undo()", x.undo(), -3);
    }

    private static void status() {
        promise = 35;
        BeepHouse x = new BeepHouse();
        x.door(0, 0, 0);
        x.way(-2);
        x.cold(10);
        x.undo();
        x.walk(5);
        for (int i = 0; i < 9; i++) {
            x.alarm(0, 0, 0);
        }
        due("status(0)", x.status(0), 3);
        due("status(1)", x.status(1), 2);
        due("status(2)", x.status(2), 3);
        due("status(3)", x.status(3), -1);
        due("status(-1)", x.status(-1), -1);
        due("status(0)", x.status(0), 5);
        x.read();
        x.far(0, 1);
        x.way(0);
        x.way(5);
        x.through(5, 0);
        due("other answers count not", x.status(0) + x.status(1) + x.status(2), 10);
        x.house();
        due("status(0) behind house()", x.status(0), 5);
    }

    private static void count() {
        promise = 36;
        BeepHouse x = chain(3);
        x.alarm(0, 2, 0);
        x.alarm(0, 2, 0);
        x.alarm(0, 2, 0);
        x.walk(2);
        x.take(0, 1);
        x.take(2, 1);
        x.cold(8);
        x.note(0, 0);
        x.type(0);
        x.type(0);
        x.type(0);
        x.type(0);
        x.type(0);
        int[] due = {3, 6, 2, 8, 2, 1, 4, 5};
        for (int what = 0; what < due.length; what++) {
            due("count(" + what + ")", x.count(what), due[what]);
        }
        due("count(8)", x.count(8), -2);
        due("count(-1)", x.count(-1), -2);
        due("BAD", x.status(0), 2);
    }

    private static void digest() {
        promise = 37;
        BeepHouse x = new BeepHouse();
        x.door(6, 7, 2);
        x.door(2, 0, 5);
        x.alarm(3, 0, 17);
        x.alarm(1, 2, 99);
        x.take(0, 1);
        x.waits(50);
        x.note(4, -1);
        x.note(2, 7);
        x.missed(0, 0, 4);
        x.type(1);
        due("digest()", x.digest(), mixed(2, 50, 0, 3, 1, 2, 2, 1,
            -1, 5, -1, -1, -1, -1, -1, -1, -1, -1, -1, -1, -1, -1, -1, -1, -1, -1, -1, -1, -1, -1, -1, -1, -1, -1, -1, 2,
            3, 0, 17, 1, 1, 2, 99, 0, 4, -1, 2, 7, 3, 5));
        due("digest() again", x.digest(), x.digest());
        due("no refusal", x.status(0) + x.status(1) + x.status(2), 0);
    }
}
