import java.util.ArrayList;
import java.util.HashMap;
import java.util.List;
import java.util.Map;
import java.util.TreeSet;

/**
 * Random runs of 512 calls, each answer compared with a slow model that does everything the long way:
 * whole HOURS are passed on copies, all rows of ROOMS and all SETS are gone through.
 */
public final class ModelTest {
    private static final int NONE = -1, UNKNOWN = -1000000001, OUTSIDE = -1000000002, NOT = -1000000003, FULL = -1000000004;
    private static final int RUNS = 3000;

    /** What hours and deeds change. */
    private static final class Now {
        int[] room = new int[0];
        int[] warm = new int[0];
        int[] chilled = new int[0];
        boolean[] coughs = new boolean[0];
        int[][] like = new int[0][];
        int hours;

        Now copy() {
            Now other = new Now();
            other.room = room.clone();
            other.warm = warm.clone();
            other.chilled = chilled.clone();
            other.coughs = coughs.clone();
            other.like = new int[like.length][];
            for (int i = 0; i < like.length; i++) {
                other.like[i] = like[i].clone();
            }
            other.hours = hours;
            return other;
        }
    }

    private static final class Model {
        String text = "";
        int fault = NONE;
        int rooms;
        int cold;
        List<int[]> benches = new ArrayList<>();
        List<int[]> ways = new ArrayList<>();
        List<int[]> persons = new ArrayList<>();
        Now now = new Now();
        List<Now> past = new ArrayList<>();
        List<int[]> noted = new ArrayList<>();
        List<int[]> book = new ArrayList<>();
        long seed;
        Now[] images = new Now[2];
        long[] imageSeeds = new long[2];

        // ---- reading

        int hill() {
            String told = text;
            text = "";
            fault = NONE;
            Reading reading = new Reading(told);
            reading.read();
            if (reading.fault != 0) {
                fault = reading.place;
                return -10 - reading.fault;
            }
            rooms = reading.rooms;
            cold = reading.cold;
            benches = reading.benches;
            ways = reading.ways;
            persons = reading.persons;
            int n = persons.size();
            now = new Now();
            now.room = new int[n];
            now.warm = new int[n];
            now.chilled = new int[n];
            now.coughs = new boolean[n];
            now.like = new int[n][n];
            for (int p = 0; p < n; p++) {
                now.room[p] = persons.get(p)[1];
                java.util.Arrays.fill(now.like[p], 5);
            }
            for (int[] l : reading.likings) {
                now.like[l[0]][l[1]] = l[2];
            }
            past.clear();
            noted.clear();
            book.clear();
            images = new Now[2];
            return n;
        }

        // ---- the rules

        boolean person(int p) {
            return p >= 0 && p < persons.size();
        }

        boolean room(int r) {
            return r >= 0 && r < rooms;
        }

        boolean two(int p, int q) {
            return person(p) && person(q) && p != q;
        }

        boolean bench(int a, int b) {
            for (int[] bench : benches) {
                if (bench[0] == a && bench[1] == b) {
                    return true;
                }
            }
            return false;
        }

        boolean way(int a, int b) {
            for (int[] way : ways) {
                if (way[0] == a && way[1] == b || way[0] == b && way[1] == a) {
                    return true;
                }
            }
            return false;
        }

        static int words(int kind, int v, boolean there) {
            int w;
            if (there) {
                w = v - 9;
            } else if (v >= 5) {
                w = v;
            } else {
                w = 0;
            }
            if (kind == 1) {
                return Math.max(0, w);
            }
            if (kind == 2 && w > 0) {
                return w / 2;
            }
            return w;
        }

        int says(Now t, int p, int q) {
            boolean there = t.room[p] == t.room[q];
            if (persons.get(p)[0] != 3 && t.coughs[q] && bench(t.room[p], t.room[q])) {
                there = true;
            }
            return words(persons.get(p)[0], t.like[p][q], there);
        }

        boolean hears(Now t, int p, int q) {
            return t.room[p] == t.room[q] || bench(t.room[p], t.room[q]);
        }

        /** One HOUR; told is what each hears in it, without bounds. */
        int[] pass(Now t) {
            int n = persons.size();
            int[] heard = new int[n];
            for (int p = 0; p < n; p++) {
                int q = (p + t.hours + 1) % n;
                if (q != p && hears(t, p, q)) {
                    int w = says(t, p, q);
                    heard[q] += w;
                    t.warm[q] = Math.max(-9999, Math.min(9999, t.warm[q] + w));
                }
            }
            for (int p = 0; p < n; p++) {
                if ((cold >> t.room[p]) % 2 == 1) {
                    t.chilled[p] = Math.min(99, t.chilled[p] + 1);
                } else {
                    t.chilled[p] = Math.max(0, t.chilled[p] - 1);
                }
                t.coughs[p] = false;
            }
            t.hours++;
            return heard;
        }

        void remember() {
            past.add(now.copy());
            if (past.size() > 16) {
                past.remove(0);
            }
        }

        int draw(int n) {
            seed = (seed * 1103515245L + 12345L) % 2147483648L;
            return (int) (seed / 65536 % n);
        }

        int refusal(int n) {
            return n < 1 || n > 60 ? OUTSIDE : rooms == 0 ? NOT : now.hours > 9000 ? FULL : 0;
        }

        int drift(int n) {
            if (refusal(n) != 0) {
                return refusal(n);
            }
            remember();
            for (int i = 0; i < n; i++) {
                if (!persons.isEmpty()) {
                    int deed = draw(4);
                    int p = draw(persons.size());
                    if (deed == 0) {
                        int r = draw(rooms);
                        now.room[p] = way(now.room[p], r) ? r : now.room[p];
                    } else if (deed == 1) {
                        now.coughs[p] = true;
                    } else if (deed == 2) {
                        int q = draw(persons.size());
                        int v = draw(10);
                        if (p != q) {
                            now.like[p][q] = v;
                        }
                    }
                }
                pass(now);
            }
            return now.hours;
        }

        // ---- tried

        int behind(Now t, int p, int n) {
            Now then = t.copy();
            for (int i = 0; i < n; i++) {
                pass(then);
            }
            return then.warm[p];
        }

        int bestRoom(int p, int n, int what) {
            int best = NONE;
            int most = 0;
            for (int r = 0; r < rooms; r++) {
                Now then = now.copy();
                then.room[p] = r;
                int warm = behind(then, p, n);
                if (best == NONE || warm > most) {
                    best = r;
                    most = warm;
                }
            }
            return what == 0 ? best : most + 10000;
        }

        int routeMost;
        int routeFirst;

        void route(Now t, int p, int n, int had, int first) {
            if (n == 0) {
                if (routeFirst == NONE || had > routeMost) {
                    routeMost = had;
                    routeFirst = first;
                }
                return;
            }
            for (int r = 0; r < rooms; r++) {
                if (r == t.room[p] || way(t.room[p], r)) {
                    Now then = t.copy();
                    then.room[p] = r;
                    int heard = pass(then)[p];
                    route(then, p, n - 1, had + heard, first == NONE ? r : first);
                }
            }
        }

        int route(int p, int n, int what) {
            routeFirst = NONE;
            route(now, p, n, 0, NONE);
            return what == 0 ? routeMost + 10000 : routeFirst;
        }

        int leavers(int r, int what) {
            int best = NONE;
            int most = 0;
            int n = persons.size();
            for (int size = 0; size <= n; size++) {
                for (int set = 0; set < 1 << n; set++) {
                    if (Integer.bitCount(set) == size) {
                        Now then = now.copy();
                        int sum = 0;
                        for (int p = 0; p < n; p++) {
                            then.room[p] = (set >> p) % 2 == 1 ? r : then.room[p];
                        }
                        for (int p = 0; p < n; p++) {
                            int q = (p + then.hours + 1) % n;
                            sum += q == p ? 0 : says(then, p, q);
                        }
                        if (best == NONE || sum > most) {
                            best = set;
                            most = sum;
                        }
                    }
                }
            }
            return what == 0 ? best : most + 10000;
        }

        int praised() {
            int best = NONE;
            int most = 0;
            for (int q = 0; q < persons.size(); q++) {
                int sum = 0;
                for (int p = 0; p < persons.size(); p++) {
                    sum += p == q ? 0 : says(now, p, q);
                }
                if (best == NONE || sum > most) {
                    best = q;
                    most = sum;
                }
            }
            return best;
        }

        List<Integer> silent() {
            List<Integer> pairs = new ArrayList<>();
            for (int p = 0; p < persons.size(); p++) {
                for (int q = p + 1; q < persons.size(); q++) {
                    if (!(says(now, p, q) > 0) && !(says(now, q, p) > 0)) {
                        pairs.add(100 * p + q);
                    }
                }
            }
            return pairs;
        }

        int cover() {
            for (int size = 0; size <= rooms; size++) {
                for (int set = 0; set < 1 << rooms; set++) {
                    if (Integer.bitCount(set) == size && covers(set)) {
                        return set;
                    }
                }
            }
            return 0;
        }

        boolean covers(int set) {
            for (int a = 0; a < rooms; a++) {
                boolean found = (set >> a) % 2 == 1;
                for (int b = 0; b < rooms; b++) {
                    found |= (set >> b) % 2 == 1 && bench(a, b);
                }
                if (!found) {
                    return false;
                }
            }
            return true;
        }

        int spread(int known) {
            int then = known;
            for (int p = 0; p < persons.size(); p++) {
                for (int q = 0; q < persons.size(); q++) {
                    if ((known >> p) % 2 == 1 && hears(now, p, q)) {
                        then |= 1 << q;
                    }
                }
            }
            return then;
        }

        int carried(int p, int n) {
            int known = 1 << p;
            for (int i = 0; i < (n == NONE ? 1000 : n); i++) {
                if (n == NONE && known == (1 << persons.size()) - 1) {
                    return i;
                }
                known = spread(known);
            }
            return n == NONE ? NONE : known;
        }

        // ---- noted

        TreeSet<Integer> fitting() {
            TreeSet<Integer> fit = new TreeSet<>();
            for (int v = 0; v <= 9; v++) {
                boolean all = true;
                for (int[] one : noted) {
                    all &= words(one[0], v, one[2] == 1) == one[1];
                }
                if (all) {
                    fit.add(v);
                }
            }
            return fit;
        }

        int ask(int kind) {
            TreeSet<Integer> fit = fitting();
            int[] greatest = new int[2];
            boolean parts = false;
            for (int there = 0; there < 2; there++) {
                Map<Integer, Integer> alike = new HashMap<>();
                for (int v : fit) {
                    alike.merge(words(kind, v, there == 1), 1, Integer::sum);
                }
                for (int part : alike.values()) {
                    greatest[there] = Math.max(greatest[there], part);
                }
                parts |= alike.size() > 1;
            }
            return !parts ? NONE : greatest[0] <= greatest[1] ? 0 : 1;
        }

        int listens(int p, int q, int v) {
            int set = 0;
            for (int r = 0; r < rooms; r++) {
                Now then = now.copy();
                then.room[q] = r;
                set += says(then, p, q) == v ? 1 << r : 0;
            }
            return set;
        }

        int judge() {
            for (int i = 0; i < book.size(); i++) {
                if (now.warm[book.get(i)[0]] != book.get(i)[1]) {
                    return i;
                }
            }
            return NONE;
        }

        int coughers() {
            int set = 0;
            for (int p = 0; p < persons.size(); p++) {
                set |= now.coughs[p] ? 1 << p : 0;
            }
            return set;
        }

        int told(int what) {
            int[] all = {rooms, cold, benches.size(), ways.size(), persons.size(), text.length(), now.hours, coughers(),
                praised(), silent().size(), cover(), noted.size(), book.size(), past.size()};
            return what < 0 || what >= all.length ? OUTSIDE : all[what];
        }

        int room(int r, int what) {
            int set = 0;
            if (what == 0) {
                for (int p = 0; p < persons.size(); p++) {
                    set |= now.room[p] == r ? 1 << p : 0;
                }
                return set;
            }
            for (int b = 0; b < rooms; b++) {
                set |= (what == 1 ? bench(r, b) : way(r, b)) ? 1 << b : 0;
            }
            return what == 1 || what == 2 ? set : OUTSIDE;
        }

        int person(int p, int what) {
            switch (what) {
                case 0: return persons.get(p)[0];
                case 1: return now.room[p];
                case 2: return now.warm[p] + 10000;
                case 3: return now.chilled[p];
                case 4: return now.coughs[p] ? 1 : 0;
                default: return OUTSIDE;
            }
        }

        // ---- the face

        int call(int which, int a, int b, int c) {
            return which < 16 ? told1(which, a, b, c) : told2(which, a, b, c);
        }

        private int told1(int which, int a, int b, int c) {
            switch (which) {
                case 2:
                    if (a < 0 || a > 255) {
                        return OUTSIDE;
                    }
                    if (text.length() == 240) {
                        return FULL;
                    }
                    text += (char) a;
                    return text.length();
                case 3: return hill();
                case 4: return fault;
                case 5: return told(a);
                case 6: return room(a) ? room(a, b) : UNKNOWN;
                case 7: return person(a) ? person(a, b) : UNKNOWN;
                case 8: return two(a, b) ? now.like[a][b] : UNKNOWN;
                case 9:
                    return !two(a, b) ? UNKNOWN : c == 0 ? says(now, a, b) + 100 : c == 1 ? (hears(now, a, b) ? 1 : 0) : OUTSIDE;
                case 10:
                    if (refusal(a) != 0) {
                        return refusal(a);
                    }
                    remember();
                    for (int i = 0; i < a; i++) {
                        pass(now);
                    }
                    return now.hours;
                case 11:
                    if (!person(a) || !room(b)) {
                        return UNKNOWN;
                    }
                    if (!way(now.room[a], b)) {
                        return NOT;
                    }
                    remember();
                    int from = now.room[a];
                    now.room[a] = b;
                    return from;
                case 12:
                    if (!person(a) || now.coughs[a]) {
                        return person(a) ? NOT : UNKNOWN;
                    }
                    remember();
                    now.coughs[a] = true;
                    return coughers();
                case 13:
                    if (!two(a, b) || c < 0 || c > 9) {
                        return two(a, b) ? OUTSIDE : UNKNOWN;
                    }
                    remember();
                    int was = now.like[a][b];
                    now.like[a][b] = c;
                    return was;
                case 14: return drift(a);
                default:
                    if (past.isEmpty()) {
                        return NOT;
                    }
                    now = past.remove(past.size() - 1);
                    return past.size();
            }
        }

        private int told2(int which, int a, int b, int c) {
            switch (which) {
                case 16: return !person(a) ? UNKNOWN : b < 0 || b > 100 ? OUTSIDE : behind(now, a, b) + 10000;
                case 17: return !person(a) ? UNKNOWN : b < 1 || b > 30 || c < 0 || c > 1 ? OUTSIDE : bestRoom(a, b, c);
                case 18: return !person(a) ? UNKNOWN : b < 1 || b > 8 || c < 0 || c > 1 ? OUTSIDE : route(a, b, c);
                case 19: return !room(a) ? UNKNOWN : b < 0 || b > 1 ? OUTSIDE : leavers(a, b);
                case 20: return a < 0 || a >= silent().size() ? NONE : silent().get(a);
                case 21: return !person(a) ? UNKNOWN : b < -1 || b > 20 ? OUTSIDE : carried(a, b);
                case 22:
                    if (a < 0 || a > 60 || b < 0 || b > 100) {
                        return OUTSIDE;
                    }
                    long odds = 1000000000L;
                    for (int i = 0; i < a; i++) {
                        odds = odds * b / 100;
                    }
                    return (int) odds;
                case 23:
                    if (a < 0 || a > 2 || b < -9 || b > 9) {
                        return OUTSIDE;
                    }
                    if (noted.size() == 6) {
                        return FULL;
                    }
                    noted.add(new int[] {a, b, c});
                    return noted.size();
                case 24:
                    TreeSet<Integer> fit = fitting();
                    if (a == 0) {
                        return fit.size();
                    }
                    return a < 0 || a > 2 ? OUTSIDE : fit.isEmpty() ? NONE : a == 1 ? fit.first() : fit.last();
                case 25: return a < 0 || a > 2 ? OUTSIDE : ask(a);
                case 26: return !two(a, b) ? UNKNOWN : c < -9 || c > 9 ? OUTSIDE : listens(a, b, c);
                case 27:
                    if (!person(a) || b < -9999 || b > 9999) {
                        return person(a) ? OUTSIDE : UNKNOWN;
                    }
                    if (book.size() == 15) {
                        return FULL;
                    }
                    book.add(new int[] {a, b});
                    return book.size();
                case 28:
                    int had = book.size() + noted.size();
                    book.clear();
                    noted.clear();
                    return had;
                case 29: return judge();
                case 30:
                    int was = (int) seed;
                    seed = a < 0 ? seed : a;
                    return a < 0 ? OUTSIDE : was;
                case 31:
                    if (a < 0 || a > 1) {
                        return UNKNOWN;
                    }
                    images[a] = now.copy();
                    imageSeeds[a] = seed;
                    past.clear();
                    return 1;
                default:
                    if (a < 0 || a > 1 || images[a] == null) {
                        return a < 0 || a > 1 ? UNKNOWN : NOT;
                    }
                    now = images[a].copy();
                    seed = imageSeeds[a];
                    past.clear();
                    return 1;
            }
        }
    }

    /** A second reading of the text: parts with their places first, then clause by clause. */
    private static final class Reading {
        final List<String> parts = new ArrayList<>();
        final List<Integer> places = new ArrayList<>();
        final List<int[]> benches = new ArrayList<>();
        final List<int[]> ways = new ArrayList<>();
        final List<int[]> persons = new ArrayList<>();
        final List<int[]> likings = new ArrayList<>();
        int rooms;
        int cold;
        int fault;
        int place;
        int next;

        Reading(String text) {
            int i = 0;
            while (i < text.length()) {
                int end = i;
                while (end < text.length() && text.charAt(end) >= '0' && text.charAt(end) <= '9') {
                    end++;
                }
                end = end == i ? i + 1 : end;
                if (text.charAt(i) != ' ') {
                    parts.add(text.substring(i, end));
                    places.add(i);
                }
                i = end;
            }
            parts.add("");
            places.add(text.length());
        }

        boolean bad(int number) {
            fault = number;
            place = places.get(next);
            return false;
        }

        boolean number(int least, int most, int[] into, int k) {
            String part = parts.get(next);
            if (part.isEmpty() || !Character.isDigit(part.charAt(0)) || part.charAt(0) > '9') {
                return bad(1);
            }
            if (part.length() > 3 || Integer.parseInt(part) < least || Integer.parseInt(part) > most) {
                return bad(2);
            }
            into[k] = Integer.parseInt(part);
            if (k == 1 && most >= 0 && unlike != null && isAlike(into)) {
                return bad(4);
            }
            next++;
            return true;
        }

        List<int[]> unlike;
        boolean bothWays;

        boolean isAlike(int[] two) {
            boolean alike = two[0] == two[1];
            for (int[] other : unlike) {
                alike |= other[0] == two[0] && other[1] == two[1];
                alike |= bothWays && other[0] == two[1] && other[1] == two[0];
            }
            return alike;
        }

        boolean end() {
            if (!parts.get(next).equals(";")) {
                return bad(1);
            }
            next++;
            return true;
        }

        void read() {
            boolean good = true;
            while (good && !parts.get(next).isEmpty()) {
                good = clause();
            }
        }

        boolean clause() {
            String word = parts.get(next);
            int[] told = new int[3];
            unlike = null;
            bothWays = false;
            boolean first = rooms == 0;
            if (!"rbgpl".contains(word) || first != word.equals("r")) {
                return bad(!first && word.equals("r") ? 3 : 1);
            }
            switch (word) {
                case "r":
                    next++;
                    if (!number(2, 6, told, 0) || !number(0, (1 << told[0]) - 1, told, 1) || !end()) {
                        return false;
                    }
                    rooms = told[0];
                    cold = told[1];
                    return true;
                case "b":
                case "g":
                    unlike = word.equals("b") ? benches : ways;
                    bothWays = word.equals("g");
                    if (unlike.size() == 9) {
                        return bad(3);
                    }
                    next++;
                    return number(0, rooms - 1, told, 0) && number(0, rooms - 1, told, 1) && end() && unlike.add(told);
                case "p":
                    if (persons.size() == 7) {
                        return bad(3);
                    }
                    next++;
                    return number(0, 3, told, 0) && number(0, rooms - 1, told, 1) && end() && persons.add(told);
                default:
                    if (likings.size() == 20) {
                        return bad(3);
                    }
                    next++;
                    int n = persons.size() - 1;
                    unlike = new ArrayList<>();
                    return number(0, n, told, 0) && number(0, n, told, 1) && number(0, 9, told, 2) && end() && likings.add(told);
            }
        }
    }

    // ---- the runs

    private static long dice;
    private static int wrong;
    private static StringBuilder run;
    private static AbsentPraise x;
    private static Model model;
    private static int calls;

    private static int die(int n) {
        dice = dice * 6364136223846793005L + 1442695040888963407L;
        return (int) ((dice >>> 33) % n);
    }

    private static int answer(int which, int a, int b, int c) {
        switch (which) {
            case 2: return x.feed(a);
            case 3: return x.hill();
            case 4: return x.fault();
            case 5: return x.told(a);
            case 6: return x.room(a, b);
            case 7: return x.person(a, b);
            case 8: return x.liking(a, b);
            case 9: return x.said(a, b, c);
            case 10: return x.hour(a);
            case 11: return x.go(a, b);
            case 12: return x.cough(a);
            case 13: return x.like(a, b, c);
            case 14: return x.drift(a);
            case 15: return x.undo();
            case 16: return x.warm(a, b);
            case 17: return x.bestRoom(a, b, c);
            case 18: return x.route(a, b, c);
            case 19: return x.leavers(a, b);
            case 20: return x.silent(a);
            case 21: return x.carried(a, b);
            case 22: return x.hale(a, b);
            case 23: return x.note(a, b, c == 1);
            case 24: return x.thinks(a);
            case 25: return x.ask(a);
            case 26: return x.listens(a, b, c);
            case 27: return x.write(a, b);
            case 28: return x.tear();
            case 29: return x.judge();
            case 30: return x.seed(a);
            case 31: return x.keep(a);
            default: return x.goBack(a);
        }
    }

    private static void call(int which, int a, int b, int c) {
        if (calls >= 512) {
            return;
        }
        calls++;
        run.append("promise ").append(which).append(" (").append(a).append(' ').append(b).append(' ').append(c).append(")\n");
        int got = answer(which, a, b, c);
        int want = model.call(which, a, b, c);
        if (got != want) {
            wrong++;
            if (wrong <= 3) {
                System.out.println(run + "answered " + got + ", due is " + want);
            }
        }
    }

    private static String text() {
        StringBuilder text = new StringBuilder();
        int rooms = 2 + die(5);
        int persons = die(20) == 0 ? die(3) : 2 + die(6);
        text.append('r').append(rooms).append(' ').append(die(1 << rooms)).append(';');
        for (int i = die(10); i > 0; i--) {
            text.append('b').append(die(rooms)).append(' ').append(die(rooms)).append(';');
        }
        for (int i = die(10); i > 0; i--) {
            text.append('g').append(die(rooms)).append(' ').append(die(rooms)).append(';');
        }
        for (int i = 0; i < persons; i++) {
            text.append('p').append(die(4)).append(' ').append(die(rooms)).append(';');
        }
        for (int i = die(21); i > 0 && persons > 1; i--) {
            text.append('l').append(die(persons)).append(' ').append(die(persons)).append(' ').append(die(10)).append(';');
        }
        return text.toString();
    }

    /** Clauses that have a FAULT of being alike are left out, but for some. */
    private static String mended(String text) {
        StringBuilder good = new StringBuilder();
        for (String clause : text.split(";")) {
            Reading reading = new Reading(good + clause + ";");
            reading.read();
            if (reading.fault == 0) {
                good.append(clause).append(';');
            }
        }
        return good.toString();
    }

    private static String spoiled(String text) {
        StringBuilder bad = new StringBuilder(text);
        String letters = "0123456789 ;;rbgplx9  0";
        for (int i = 1 + die(3); i > 0 && bad.length() > 0; i--) {
            int at = die(bad.length());
            char letter = letters.charAt(die(letters.length()));
            switch (die(4)) {
                case 0: bad.deleteCharAt(at); break;
                case 1: bad.insert(at, letter); break;
                case 2: bad.setCharAt(at, letter); break;
                default: bad.setLength(at); break;
            }
        }
        return bad.toString();
    }

    private static void tell(String text) {
        for (int i = 0; i < text.length(); i++) {
            call(2, text.charAt(i), 0, 0);
        }
        call(3, 0, 0, 0);
        call(4, 0, 0, 0);
    }

    private static int some(int bound) {
        int kind = die(30);
        return kind == 0 ? -1 : kind == 1 ? bound : die(bound);
    }

    private static void anyCall() {
        int n = Math.max(1, model.persons.size());
        int rooms = Math.max(1, model.rooms);
        int which = 4 + die(29);
        switch (which) {
            case 5: call(which, some(14), 0, 0); break;
            case 6: call(which, some(rooms), some(3), 0); break;
            case 7: call(which, some(n), some(5), 0); break;
            case 8: call(which, some(n), some(n), 0); break;
            case 9: call(which, some(n), some(n), some(2)); break;
            case 10: case 14: call(which, die(3) == 0 ? some(61) : 1 + die(4), 0, 0); break;
            case 11: call(which, some(n), some(rooms), 0); break;
            case 13: call(which, some(n), some(n), some(10)); break;
            case 16: call(which, some(n), some(101), 0); break;
            case 17: call(which, some(n), some(31), some(2)); break;
            case 18: call(which, some(n), hoursOfRoute(), some(2)); break;
            case 19: call(which, some(rooms), some(2), 0); break;
            case 20: call(which, some(12), 0, 0); break;
            case 21: call(which, some(n), some(23) - 1, 0); break;
            case 22: call(which, some(61), some(101), 0); break;
            case 23: call(which, some(3), wordsToNote(), die(2)); break;
            case 24: case 25: call(which, some(3), 0, 0); break;
            case 26: call(which, some(n), some(n), some(20) - 9); break;
            case 27: call(which, some(n), warmToWrite(), 0); break;
            case 30: call(which, some(100000), 0, 0); break;
            case 31: call(which, some(2), 0, 0); break;
            case 32: call(which, some(2), 0, 0); break;
            default: call(which, some(n), 0, 0); break;
        }
    }

    /** The model goes through all rows of ROOMS: few ones where many WAYS are. */
    private static int hoursOfRoute() {
        return model.ways.size() > 4 ? some(5) : model.ways.size() > 2 ? some(6) : die(8) == 0 ? some(9) : some(6);
    }

    private static int wordsToNote() {
        TreeSet<Integer> fit = model.fitting();
        if (fit.isEmpty() || die(4) == 0) {
            return some(20) - 9;
        }
        return Model.words(die(3), die(10), die(2) == 0);
    }

    private static int warmToWrite() {
        return die(10) == 0 ? (die(2) == 0 ? 10000 : -10000) : model.now.warm.length > 0 && die(3) > 0 ? model.now.warm[0] : die(9) - 4;
    }

    private static void oneRun(int number) {
        dice = number * 7919L + 17;
        die(2);
        run = new StringBuilder("run " + number + "\n");
        x = new AbsentPraise();
        model = new Model();
        calls = 0;
        if (number % 7 == 0) {
            for (int i = 0; i < 30; i++) {
                anyCall();
            }
        }
        if (number % 3 == 0) {
            tell(spoiled(mended(text())));
        }
        String good = mended(text());
        tell(good.length() > 240 ? good.substring(0, good.lastIndexOf(';', 239) + 1) : good);
        while (calls < 512) {
            if (die(150) == 0) {
                tell(spoiled(mended(text())));
            }
            anyCall();
        }
    }

    /** Short texts, one behind the other, with FAULTS of all kinds. */
    private static void faultRun(int number) {
        dice = number * 104729L + 5;
        die(2);
        run = new StringBuilder("fault run " + number + "\n");
        x = new AbsentPraise();
        model = new Model();
        calls = 0;
        while (calls < 512) {
            String text = text();
            text = die(3) == 0 ? text : mended(text);
            text = text.length() > 60 && die(2) == 0 ? text.substring(0, text.indexOf(';', 40) + 1) : text;
            tell(die(4) == 0 ? text : spoiled(text));
        }
    }

    public static void main(String[] args) {
        for (int number = 0; number < RUNS; number++) {
            oneRun(number);
            faultRun(number);
        }
        System.out.println(wrong == 0 ? "the model agrees in " + 2 * RUNS + " runs" : wrong + " answers are not as the model's");
        if (wrong != 0) {
            System.exit(1);
        }
    }
}
