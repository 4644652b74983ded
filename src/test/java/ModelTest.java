import java.math.BigInteger;
import java.util.ArrayList;
import java.util.Arrays;
import java.util.HashMap;
import java.util.List;
import java.util.Map;
import java.util.Random;
import java.util.TreeSet;
import java.util.regex.Matcher;
import java.util.regex.Pattern;

/**
 * Random runs of calls on a BeepHouse and on a second, slow writing of the document beside it;
 * every answer, every eighth digest and STATUS at the end must be the same.
 */
public final class ModelTest {
    private static final int RUNS = 3000;
    /** With the digests and STATUS a run stays under the 512 calls that are promised. */
    private static final int CALLS = 440;
    private static int wrong = 0;

    public static void main(String[] args) {
        for (int run = 0; run < RUNS && wrong < 20; run++) {
            new Run(run).go();
        }
        System.out.println(wrong == 0 ? "ModelTest: all answers alike" : "ModelTest: " + wrong + " answers differ");
        if (wrong != 0) {
            System.exit(1);
        }
    }

    // ------------------------------------------------------------------ one run

    private static final class Run {
        final int number;
        final Random random;
        final BeepHouse real = new BeepHouse();
        final Model model = new Model();
        /** Many seconds go by, up to the last that there is. */
        final boolean patient;
        /** All rooms joined, many alarms, and no other house takes its place. */
        final boolean rich;
        int calls = 0;

        Run(int number) {
            this.number = number;
            this.random = new Random(977L * number + 5);
            this.patient = number % 10 == 0;
            this.rich = number % 2 == 1;
        }

        void go() {
            if (rich) {
                buildRich();
            } else if (random.nextInt(3) > 0) {
                build();
            }
            while (calls < CALLS && wrong < 20) {
                if (patient && random.nextInt(2) == 0) {
                    call("waits", 90 + random.nextInt(10));
                } else if (!rich && random.nextInt(40) == 0) {
                    typeText();
                } else {
                    anyCall();
                }
            }
            same("status(0)", real.status(0), model.bad);
            same("status(1)", real.status(1), model.no);
            same("status(2)", real.status(2), model.full);
        }

        void build() {
            int doors = random.nextInt(14);
            for (int i = 0; i < doors; i++) {
                call("door", random.nextInt(8), random.nextInt(8), 1 + random.nextInt(9));
            }
            int alarms = random.nextInt(7);
            for (int i = 0; i < alarms; i++) {
                call("alarm", random.nextInt(6), random.nextInt(8), random.nextInt(45));
            }
        }

        void buildRich() {
            int longest = 1 + random.nextInt(9);
            for (int r = 1; r < 8; r++) {
                call("door", r, random.nextInt(r), 1 + random.nextInt(longest));
            }
            int more = random.nextInt(6);
            for (int i = 0; i < more; i++) {
                call("door", random.nextInt(8), random.nextInt(8), 1 + random.nextInt(longest));
            }
            int alarms = 4 + random.nextInt(3);
            int rooms = 2 + random.nextInt(7);
            for (int i = 0; i < alarms; i++) {
                call("alarm", random.nextInt(6), random.nextInt(rooms), random.nextInt(34));
            }
        }

        void typeText() {
            if (random.nextInt(4) > 0) {
                call("clear");
            }
            String text = randomText();
            for (int i = 0; i < text.length() && calls < CALLS; i++) {
                call("type", text.charAt(i));
            }
            call("read");
        }

        String randomText() {
            StringBuilder b = new StringBuilder("house " + random.nextInt(random.nextInt(4) == 0 ? 12 : 10) + ";");
            int items = random.nextInt(12);
            int alarms = 0;
            for (int i = 0; i < items; i++) {
                int what = random.nextInt(10);
                if (what < 4) {
                    b.append("door ").append(random.nextInt(8)).append(' ').append(random.nextInt(8))
                        .append(' ').append(1 + random.nextInt(9)).append(";");
                } else if (what < 8) {
                    b.append("alarm ").append(random.nextInt(6)).append(' ').append(random.nextInt(8))
                        .append(' ').append(random.nextInt(40)).append(";");
                    alarms++;
                } else if (alarms > 0) {
                    b.append("down ").append(random.nextInt(alarms)).append(";");
                }
            }
            if (random.nextInt(2) == 0) {
                String odd = "; 09az-A house door alarm down 100 7 \n";
                int edits = 1 + random.nextInt(3);
                for (int i = 0; i < edits; i++) {
                    int at = random.nextInt(b.length() + 1);
                    int sort = random.nextInt(4);
                    if (sort == 0) {
                        b.insert(at, odd.charAt(random.nextInt(odd.length())));
                    } else if (sort == 1 && at < b.length()) {
                        b.deleteCharAt(at);
                    } else if (sort == 2 && at < b.length()) {
                        b.setCharAt(at, odd.charAt(random.nextInt(odd.length())));
                    } else if (b.length() > 1 && at > 0) {
                        b.setLength(at);
                    }
                }
            }
            return b.toString();
        }

        int some(int least, int most) {
            int r = random.nextInt(60);
            switch (r) {
                case 0: return least - 1;
                case 1: return most + 1;
                case 2: return Integer.MIN_VALUE;
                case 3: return Integer.MAX_VALUE;
                case 4: return random.nextInt();
                case 5: return least;
                case 6: return most;
                default: return least + random.nextInt(most - least + 1);
            }
        }

        int alarm() {
            int n = model.s.alarms.size();
            return n == 0 ? some(0, 5) : some(0, n - 1);
        }

        void anyCall() {
            int n = model.s.alarms.size();
            int all = Math.max(1, (1 << n) - 1);
            switch (random.nextInt(46)) {
                case 0: if (!rich && random.nextInt(6) == 0) { call("house"); } break;
                case 1: case 2: call("door", some(0, 7), some(0, 7), some(1, 9)); break;
                case 3: call("alarm", some(0, 5), some(0, 7), some(0, random.nextInt(2) == 0 ? 99 : 40)); break;
                case 4: call("type", some(0, 127)); break;
                case 5: if (!rich) { call("read"); } break;
                case 6: case 7: call("waits", some(1, 99)); break;
                case 8: case 9: case 10: call("walk", some(0, 7)); break;
                case 11: case 12: call("take", alarm(), some(0, 1)); break;
                case 13: case 14: call("battery", alarm(), some(0, random.nextInt(2) == 0 ? 99 : 40)); break;
                case 15: call("cold", some(0, 9)); break;
                case 16: case 17: call("undo"); break;
                case 18: call("of", alarm(), some(0, 4)); break;
                case 19: call("far", some(0, 7), some(0, 7)); break;
                case 20: call("beeps", alarm(), nearSecond()); break;
                case 21: case 22: call("heard", some(0, 7), nearSecond()); break;
                case 23: case 24: call("through", some(0, 7), alarm()); break;
                case 25: call("next", some(0, 7), 0); break;
                case 26: call("next", alarm(), some(0, 1)); break;
                case 27: call("coldest", alarm()); break;
                case 28: case 29: case 30: call("sure", some(1, all), some(0, 1)); break;
                case 31: case 32: case 33: call("way", some(-1, 6)); break;
                case 34: call("two", some(0, 7), some(0, 7)); break;
                case 35: call("beside"); break;
                case 36: sensibleNote(); break;
                case 37: call("note", some(0, 7), some(-1, 7)); break;
                case 38: if (random.nextInt(2) == 0) { call("forget"); } break;
                case 39: call("which"); call("stand"); break;
                case 40: call("is", alarm(), nearSecond(), some(0, 1)); break;
                case 41: call("missed", some(0, 7), nearSecond(), some(0, 10)); break;
                case 42: call("nights", some(0, 999999), some(0, 60)); break;
                case 43: call("image", some(0, 1)); break;
                case 44: call("from", some(0, 1)); break;
                default: call("part", some(0, 1)); call("count", some(0, 7)); call("status", some(0, 2)); break;
            }
        }

        /** A note that at least one alarm fits, so that WHICH and STAND have something to tell. */
        void sensibleNote() {
            int room = random.nextInt(8);
            int n = model.s.alarms.size();
            call("note", room, n == 0 ? -1 : model.throughOf(room, random.nextInt(n)));
        }

        int nearSecond() {
            switch (random.nextInt(4)) {
                case 0: return some(0, 9999);
                case 1: return 41 * random.nextInt(243);
                case 2: return 41 * random.nextInt(243) + 20;
                default: return 30 * random.nextInt(333) + 7;
            }
        }

        void call(String name, int... a) {
            if (calls >= CALLS) {
                return;
            }
            calls++;
            long want = model.call(name, a);
            long got = callReal(name, a);
            same(name + Arrays.toString(a), got, want);
            if (calls % 8 == 0) {
                same("digest behind " + name + Arrays.toString(a), real.digest(), model.digest());
            }
        }

        void same(String call, long got, long want) {
            if (got != want) {
                wrong++;
                System.out.println("run " + number + ", call " + calls + ": " + call + " answered " + got + ", due is " + want);
            }
        }

        long callReal(String name, int[] a) {
            switch (name) {
                case "house": return real.house();
                case "door": return real.door(a[0], a[1], a[2]);
                case "alarm": return real.alarm(a[0], a[1], a[2]);
                case "type": return real.type(a[0]);
                case "clear": return real.clear();
                case "read": return real.read();
                case "waits": return real.waits(a[0]);
                case "walk": return real.walk(a[0]);
                case "take": return real.take(a[0], a[1]);
                case "battery": return real.battery(a[0], a[1]);
                case "cold": return real.cold(a[0]);
                case "undo": return real.undo();
                case "of": return real.of(a[0], a[1]);
                case "far": return real.far(a[0], a[1]);
                case "beeps": return real.beeps(a[0], a[1]);
                case "heard": return real.heard(a[0], a[1]);
                case "through": return real.through(a[0], a[1]);
                case "next": return real.next(a[0], a[1]);
                case "coldest": return real.coldest(a[0]);
                case "sure": return real.sure(a[0], a[1]);
                case "way": return real.way(a[0]);
                case "two": return real.two(a[0], a[1]);
                case "beside": return real.beside();
                case "note": return real.note(a[0], a[1]);
                case "forget": return real.forget();
                case "which": return real.which();
                case "stand": return real.stand();
                case "is": return real.is(a[0], a[1], a[2]);
                case "missed": return real.missed(a[0], a[1], a[2]);
                case "nights": return real.nights(a[0], a[1]);
                case "part": return real.part(a[0]);
                case "image": return real.image(a[0]);
                case "from": return real.from(a[0]);
                case "status": return real.status(a[0]);
                case "count": return real.count(a[0]);
                default: throw new IllegalStateException(name);
            }
        }
    }

    // ------------------------------------------------------------------ the second writing

    private static final class Alarm {
        int kind;
        int room;
        int battery;
        boolean down;

        Alarm(int kind, int room, int battery, boolean down) {
            this.kind = kind;
            this.room = room;
            this.battery = battery;
            this.down = down;
        }
    }

    private static final class State {
        Map<Integer, Integer> doors = new HashMap<>();
        List<Alarm> alarms = new ArrayList<>();
        List<int[]> notes = new ArrayList<>();
        List<State> undo = new ArrayList<>();
        int cold = 3;
        int second = 0;
        int place = 0;

        State copy() {
            State t = new State();
            t.doors.putAll(doors);
            for (Alarm a : alarms) {
                t.alarms.add(new Alarm(a.kind, a.room, a.battery, a.down));
            }
            t.notes.addAll(notes);
            t.undo.addAll(undo);
            t.cold = cold;
            t.second = second;
            t.place = place;
            return t;
        }
    }

    private static final class Refused extends RuntimeException {
        private static final long serialVersionUID = 1L;
        final int how;

        Refused(int how) {
            this.how = how;
        }
    }

    private static final class Model {
        State s = new State();
        final State[] images = new State[2];
        /** By room, within one call. */
        final int[][] far = new int[8][];
        final StringBuilder text = new StringBuilder();
        BigInteger above = BigInteger.ZERO;
        BigInteger below = BigInteger.ONE;
        int bad;
        int no;
        int full;

        long call(String name, int[] a) {
            Arrays.fill(far, null);
            try {
                return answer(name, a);
            } catch (Refused r) {
                if (r.how == -2) {
                    bad++;
                    return name.equals("door") || name.equals("way") ? -10 : name.equals("status") ? -1 : -2;
                }
                if (r.how == -3) {
                    no++;
                } else {
                    full++;
                }
                return r.how;
            }
        }

        void told(boolean fits) {
            if (!fits) {
                throw new Refused(-2);
            }
        }

        void in(long v, long least, long most) {
            told(v >= least && v <= most);
        }

        void room(int r) {
            in(r, 0, 7);
        }

        void known(int k) {
            in(k, 0, s.alarms.size() - 1);
        }

        long answer(String name, int[] a) {
            switch (name) {
                case "house": case "door": case "alarm": case "type": case "clear": case "read":
                    return aHouse(name, a);
                case "waits": case "walk": case "take": case "battery": case "cold": case "undo": case "of": case "far":
                    return seconds(name, a);
                case "beeps": case "heard": case "through": case "next": case "coldest":
                    return beepCalls(name, a);
                case "part": case "image": case "from": case "status": case "count":
                    return whatThereIs(name, a);
                default:
                    return whichItIs(name, a);
            }
        }

        long aHouse(String name, int[] a) {
            switch (name) {
                case "house": {
                    int n = s.alarms.size();
                    s = new State();
                    return n;
                }
                case "door": {
                    room(a[0]);
                    room(a[1]);
                    told(a[0] != a[1]);
                    in(a[2], 1, 9);
                    Integer before = s.doors.put(pair(a[0], a[1]), a[2]);
                    return before == null ? -1 : before;
                }
                case "alarm":
                    in(a[0], 0, 5);
                    room(a[1]);
                    in(a[2], 0, 99);
                    if (s.alarms.size() == 6) {
                        throw new Refused(-4);
                    }
                    s.alarms.add(new Alarm(a[0], a[1], a[2], false));
                    s.undo.clear();
                    return s.alarms.size() - 1;
                case "type":
                    in(a[0], 0, 127);
                    if (text.length() == 150) {
                        throw new Refused(-4);
                    }
                    text.append((char) a[0]);
                    return text.length();
                case "clear": {
                    int n = text.length();
                    text.setLength(0);
                    return n;
                }
                default:
                    return readText();
            }
        }

        static int pair(int a, int b) {
            return 8 * Math.min(a, b) + Math.max(a, b);
        }

        /** By tokens cut with a pattern, and items as rows of bounds; -10 less the place where it fails. */
        int readText() {
            List<String> tokens = new ArrayList<>();
            List<Integer> places = new ArrayList<>();
            Matcher m = Pattern.compile("[a-z]+|[0-9]+|[^ ]", Pattern.DOTALL).matcher(text);
            while (m.find()) {
                tokens.add(m.group());
                places.add(m.start());
            }
            places.add(text.length());
            tokens.add("");
            State t = new State();
            int i = 0;
            int items = 0;
            while (i == 0 || i < tokens.size() - 1) {
                String word = tokens.get(i);
                boolean known = items == 0 ? word.equals("house")
                    : word.equals("door") || word.equals("down") || word.equals("alarm") && t.alarms.size() < 6;
                if (!known) {
                    return -10 - places.get(i);
                }
                int[][] bounds = word.equals("house") ? new int[][] {{0, 9}}
                    : word.equals("door") ? new int[][] {{0, 7}, {0, 7}, {1, 9}}
                    : word.equals("alarm") ? new int[][] {{0, 5}, {0, 7}, {0, 99}}
                    : new int[][] {{0, t.alarms.size() - 1}};
                int[] v = new int[3];
                for (int j = 0; j < bounds.length; j++) {
                    i++;
                    String number = tokens.get(i);
                    boolean fits = number.matches("[0-9][0-9]?");
                    if (fits) {
                        v[j] = Integer.parseInt(number);
                        fits = v[j] >= bounds[j][0] && v[j] <= bounds[j][1];
                        fits &= !(word.equals("door") && j == 1 && v[0] == v[1]);
                    }
                    if (!fits) {
                        return -10 - places.get(i);
                    }
                }
                i++;
                if (!tokens.get(i).equals(";")) {
                    return -10 - places.get(i);
                }
                i++;
                items++;
                switch (word) {
                    case "house": t.cold = v[0]; break;
                    case "door": t.doors.put(pair(v[0], v[1]), v[2]); break;
                    case "alarm": t.alarms.add(new Alarm(v[0], v[1], v[2], false)); break;
                    default: t.alarms.get(v[0]).down = true; break;
                }
            }
            s = t;
            return items;
        }

        void remember() {
            s.undo.add(s.copy());
            if (s.undo.size() > 8) {
                s.undo.remove(0);
            }
        }

        long seconds(String name, int[] a) {
            switch (name) {
                case "waits":
                    in(a[0], 1, 99);
                    remember();
                    s.second = Math.min(9999, s.second + a[0]);
                    return heardIn(s.place, s.second);
                case "walk": {
                    room(a[0]);
                    int f = farBetween(s.place, a[0]);
                    if (f < 0) {
                        throw new Refused(-3);
                    }
                    remember();
                    s.second = Math.min(9999, s.second + f);
                    s.place = a[0];
                    return f;
                }
                case "take":
                    known(a[0]);
                    in(a[1], 0, 1);
                    if (s.alarms.get(a[0]).room != s.place) {
                        throw new Refused(-3);
                    }
                    remember();
                    s.alarms.get(a[0]).down = a[1] == 1;
                    return 1;
                case "battery": {
                    known(a[0]);
                    in(a[1], 0, 99);
                    remember();
                    int before = s.alarms.get(a[0]).battery;
                    s.alarms.get(a[0]).battery = a[1];
                    return before;
                }
                case "cold": {
                    in(a[0], 0, 9);
                    remember();
                    int before = s.cold;
                    s.cold = a[0];
                    return before;
                }
                case "undo":
                    return undoOne();
                case "of": {
                    known(a[0]);
                    in(a[1], 0, 4);
                    Alarm x = s.alarms.get(a[0]);
                    return new int[] {x.kind, x.room, x.battery, x.down ? 1 : 0, loud(x.kind)}[a[1]];
                }
                default:
                    room(a[0]);
                    room(a[1]);
                    return farBetween(a[0], a[1]);
            }
        }

        long undoOne() {
            if (s.undo.isEmpty()) {
                throw new Refused(-3);
            }
            State before = s.undo.remove(s.undo.size() - 1);
            s.second = before.second;
            s.place = before.place;
            s.cold = before.cold;
            for (int k = 0; k < s.alarms.size(); k++) {
                s.alarms.get(k).battery = before.alarms.get(k).battery;
                s.alarms.get(k).down = before.alarms.get(k).down;
            }
            return s.second;
        }

        int farBetween(int a, int b) {
            if (far[a] == null) {
                far[a] = farFrom(a);
            }
            return far[a][b];
        }

        int[] farFrom(int a) {
            int[] far = new int[8];
            Arrays.fill(far, -1);
            far[a] = 0;
            boolean changed = true;
            while (changed) {
                changed = false;
                for (int x = 0; x < 8; x++) {
                    for (int y = 0; y < 8; y++) {
                        Integer length = s.doors.get(pair(x, y));
                        if (far[x] >= 0 && length != null && (far[y] < 0 || far[y] > far[x] + length)) {
                            far[y] = far[x] + length;
                            changed = true;
                        }
                    }
                }
            }
            return far;
        }

        static int loud(int kind) {
            return new int[] {20, 20, 40, 8, 9, 20}[kind];
        }

        static boolean sounds(int kind, int second, int c, int b) {
            boolean tick = second % 41 == 0;
            switch (kind) {
                case 0: case 3: return tick && b - c < 20;
                case 1: return tick && b - c < 30;
                case 2: return tick && b - c < 20 || second % 41 == 20 && b - c < 10;
                case 4: return second % 30 == 7;
                default: return tick && b - c < 30 && c >= 5;
            }
        }

        boolean beepsNow(Alarm x, int second, int c) {
            return (!x.down || x.kind == 3 || x.kind == 4) && sounds(x.kind, second, c, x.battery);
        }

        boolean loudEnough(int r, Alarm x) {
            int f = farBetween(r, x.room);
            return f >= 0 && loud(x.kind) > f;
        }

        int heardIn(int r, int second) {
            int bits = 0;
            for (int k = 0; k < s.alarms.size(); k++) {
                if (beepsNow(s.alarms.get(k), second, s.cold) && loudEnough(r, s.alarms.get(k))) {
                    bits |= 1 << k;
                }
            }
            return bits;
        }

        int throughOf(int r, int k) {
            Alarm x = s.alarms.get(k);
            if (!loudEnough(r, x)) {
                return -1;
            }
            if (x.room == r) {
                return r;
            }
            TreeSet<Integer> ways = new TreeSet<>();
            for (int n = 0; n < 8; n++) {
                Integer length = s.doors.get(pair(r, n));
                if (n != r && length != null && farBetween(n, x.room) + length == farBetween(r, x.room)) {
                    ways.add(n);
                }
            }
            return ways.first();
        }

        long beepCalls(String name, int[] a) {
            switch (name) {
                case "beeps":
                    known(a[0]);
                    in(a[1], 0, 9999);
                    return beepsNow(s.alarms.get(a[0]), a[1], s.cold) ? 1 : 0;
                case "heard":
                    room(a[0]);
                    in(a[1], 0, 9999);
                    return heardIn(a[0], a[1]);
                case "through":
                    room(a[0]);
                    known(a[1]);
                    return throughOf(a[0], a[1]);
                case "next":
                    in(a[1], 0, 1);
                    in(a[0], 0, a[1] == 0 ? 7 : s.alarms.size() - 1);
                    for (int d = 0; d <= 120; d++) {
                        boolean yes = a[1] == 1 ? beepsNow(s.alarms.get(a[0]), s.second + d, s.cold)
                            : heardIn(a[0], s.second + d) != 0;
                        if (yes) {
                            return d;
                        }
                    }
                    return -1;
                default:
                    known(a[0]);
                    for (int c = 0; c <= 9; c++) {
                        if (inSome(s.alarms.get(a[0]), c)) {
                            return c;
                        }
                    }
                    return -1;
            }
        }

        static boolean inSome(Alarm x, int c) {
            for (int second = 0; second <= 1229; second++) {
                if (sounds(x.kind, second, c, x.battery)) {
                    return true;
                }
            }
            return false;
        }

        long whichItIs(String name, int[] a) {
            switch (name) {
                case "sure":
                    in(a[0], 1, (1 << s.alarms.size()) - 1);
                    in(a[1], 0, 1);
                    return sureOf(a[0], a[1]);
                case "way":
                    told(a[0] >= -1);
                    return wayOf(a[0]);
                case "two":
                    room(a[0]);
                    room(a[1]);
                    return pairsApart(a[0], a[1]);
                case "beside":
                    return loudestRoom();
                case "note":
                    room(a[0]);
                    in(a[1], -1, 7);
                    if (s.notes.size() == 6) {
                        throw new Refused(-4);
                    }
                    s.notes.add(new int[] {a[0], a[1]});
                    return s.notes.size();
                case "forget": {
                    int n = s.notes.size();
                    s.notes.clear();
                    return n;
                }
                case "which":
                    return fitting();
                case "stand":
                    return standIn();
                case "is": {
                    known(a[0]);
                    in(a[1], 0, 9999);
                    in(a[2], 0, 1);
                    int bits = 0;
                    for (int kind = 0; kind < 6; kind++) {
                        boolean yes = sounds(kind, a[1], s.cold, s.alarms.get(a[0]).battery);
                        bits |= (yes ? 1 : 0) == a[2] ? 1 << kind : 0;
                    }
                    return bits;
                }
                case "missed": {
                    room(a[0]);
                    in(a[1], 0, 9999);
                    in(a[2], 0, 10);
                    BigInteger top = BigInteger.valueOf((10 - a[2]) * Integer.bitCount(heardIn(a[0], a[1])));
                    BigInteger common = top.gcd(BigInteger.TEN);
                    above = top.divide(common);
                    below = BigInteger.TEN.divide(common);
                    return 1;
                }
                default:
                    in(a[0], 0, 999999);
                    in(a[1], 0, 60);
                    return loudNights(a[0], a[1]);
            }
        }

        Map<Integer, Integer> groups(int bits, int r) {
            Map<Integer, Integer> by = new HashMap<>();
            for (int k = 0; k < s.alarms.size(); k++) {
                if ((bits >> k & 1) == 1) {
                    by.merge(throughOf(r, k), 1 << k, (x, y) -> x | y);
                }
            }
            return by;
        }

        long sureOf(int bits, int what) {
            if (Integer.bitCount(bits) == 1) {
                return 0;
            }
            int[][] by = new int[8][s.alarms.size()];
            for (int r = 0; r < 8; r++) {
                for (int k = 0; k < s.alarms.size(); k++) {
                    by[r][k] = throughOf(r, k);
                }
            }
            for (int times = 1; times <= 6; times++) {
                for (int r = 0; r < 8; r++) {
                    if (knowsIn(bits, times, r, by)) {
                        return what == 0 ? times : r;
                    }
                }
            }
            return -1;
        }

        /** Whether so many times are enough, the first of them in room r. */
        boolean knowsIn(int bits, int times, int r, int[][] by) {
            Map<Integer, Integer> parts = new HashMap<>();
            for (int k = 0; k < by[r].length; k++) {
                if ((bits >> k & 1) == 1) {
                    parts.merge(by[r][k], 1 << k, (x, y) -> x | y);
                }
            }
            if (parts.size() == 1) {
                return false;
            }
            for (int part : parts.values()) {
                boolean known = Integer.bitCount(part) == 1;
                for (int q = 0; q < 8 && !known && times > 1; q++) {
                    known = knowsIn(part, times - 1, q, by);
                }
                if (!known) {
                    return false;
                }
            }
            return true;
        }

        long wayOf(int i) {
            List<Integer> left = new ArrayList<>();
            for (int k = 0; k < s.alarms.size(); k++) {
                Alarm x = s.alarms.get(k);
                if (!x.down && x.kind != 3 && x.kind != 4 && inSome(x, s.cold)) {
                    if (farBetween(s.place, x.room) < 0) {
                        return -1;
                    }
                    left.add(k);
                }
            }
            int[][] far = new int[8][8];
            for (int r = 0; r < 8; r++) {
                for (int q = 0; q < 8; q++) {
                    far[r][q] = farBetween(r, q);
                }
            }
            List<Integer> best = new ArrayList<>();
            int sum = orders(left, new ArrayList<>(), 0, Integer.MAX_VALUE, best, far);
            return i == -1 ? sum : i >= best.size() ? -5 : best.get(i);
        }

        /** All orders, rising; a later one takes the place of the best only if it is shorter. */
        int orders(List<Integer> left, List<Integer> done, int sum, int least, List<Integer> best, int[][] far) {
            if (left.isEmpty()) {
                if (sum < least) {
                    best.clear();
                    best.addAll(done);
                    return sum;
                }
                return least;
            }
            int at = done.isEmpty() ? s.place : s.alarms.get(done.get(done.size() - 1)).room;
            for (int i = 0; i < left.size(); i++) {
                Integer k = left.remove(i);
                done.add(k);
                least = orders(left, done, sum + far[at][s.alarms.get(k).room], least, best, far);
                done.remove(done.size() - 1);
                left.add(i, k);
            }
            return least;
        }

        long pairsApart(int a, int b) {
            int pairs = 0;
            for (int i = 0; i < s.alarms.size(); i++) {
                for (int j = i + 1; j < s.alarms.size(); j++) {
                    String first = throughOf(a, i) + "," + throughOf(b, i);
                    String second = throughOf(a, j) + "," + throughOf(b, j);
                    pairs += first.equals(second) ? 0 : 1;
                }
            }
            return pairs;
        }

        long loudestRoom() {
            int[] many = new int[8];
            int most = 0;
            for (int r = 0; r < 8; r++) {
                for (Alarm x : s.alarms) {
                    many[r] += loudEnough(r, x) ? 1 : 0;
                }
                most = Math.max(most, many[r]);
            }
            for (int r = 0; r < 8; r++) {
                if (many[r] == most) {
                    return r;
                }
            }
            return -99;
        }

        int fitting() {
            int bits = 0;
            for (int k = 0; k < s.alarms.size(); k++) {
                boolean fits = true;
                for (int[] n : s.notes) {
                    fits &= throughOf(n[0], k) == n[1];
                }
                bits |= fits ? 1 << k : 0;
            }
            return bits;
        }

        long standIn() {
            int bits = fitting();
            int best = -1;
            int fewest = 99;
            for (int r = 0; r < 8 && bits != 0; r++) {
                int most = 0;
                for (int group : groups(bits, r).values()) {
                    most = Math.max(most, Integer.bitCount(group));
                }
                if (most < fewest) {
                    fewest = most;
                    best = r;
                }
            }
            return best;
        }

        long loudNights(int seed, int n) {
            BigInteger x = BigInteger.valueOf(seed);
            int loudNights = 0;
            for (int night = 0; night < n; night++) {
                x = x.multiply(BigInteger.valueOf(1103515245)).add(BigInteger.valueOf(12345)).mod(BigInteger.ONE.shiftLeft(31));
                int r = x.shiftRight(16).intValue() % 8;
                int c = x.shiftRight(20).intValue() % 10;
                boolean any = false;
                for (Alarm alarm : s.alarms) {
                    boolean reaches = loudEnough(r, alarm);
                    for (int second = 0; second <= 119 && reaches; second++) {
                        any |= beepsNow(alarm, second, c);
                    }
                }
                loudNights += any ? 1 : 0;
            }
            return loudNights;
        }

        long whatThereIs(String name, int[] a) {
            switch (name) {
                case "part":
                    in(a[0], 0, 1);
                    return (a[0] == 0 ? above : below).longValueExact();
                case "image":
                    in(a[0], 0, 1);
                    images[a[0]] = s.copy();
                    return 1;
                case "from":
                    in(a[0], 0, 1);
                    if (images[a[0]] == null) {
                        throw new Refused(-3);
                    }
                    s = images[a[0]].copy();
                    return 1;
                case "status":
                    in(a[0], 0, 2);
                    return new int[] {bad, no, full}[a[0]];
                default:
                    in(a[0], 0, 7);
                    return counts()[a[0]];
            }
        }

        int[] counts() {
            int down = 0;
            for (Alarm x : s.alarms) {
                down += x.down ? 1 : 0;
            }
            return new int[] {s.alarms.size(), s.second, s.place, s.cold, down, s.notes.size(), s.undo.size(), text.length()};
        }

        long digest() {
            List<Long> row = new ArrayList<>();
            for (int v : counts()) {
                row.add((long) v);
            }
            for (int a = 0; a < 8; a++) {
                for (int b = a + 1; b < 8; b++) {
                    row.add((long) s.doors.getOrDefault(pair(a, b), -1));
                }
            }
            for (Alarm x : s.alarms) {
                row.addAll(List.of((long) x.kind, (long) x.room, (long) x.battery, x.down ? 1L : 0L));
            }
            for (int[] n : s.notes) {
                row.addAll(List.of((long) n[0], (long) n[1]));
            }
            row.add(above.longValueExact());
            row.add(below.longValueExact());
            long h = 1229;
            for (long v : row) {
                h = 31 * h + v;
            }
            return h;
        }
    }
}
