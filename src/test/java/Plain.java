import java.util.ArrayList;
import java.util.Arrays;
import java.util.List;
import java.util.TreeSet;

/**
 * The document once more, written as plainly as can be and in other ways than
 * the program (trees, texts of steps, all choices tried), to be compared with it.
 */
final class Plain {
    interface Node {
        int of(Asked a);
    }

    record Asked(List<int[]> song, boolean night, int worn, int near) {
    }

    record Door(String name, int near, Node e) {
    }

    record Seen(int lock, boolean night, boolean opened, int told, int[] untold) {
    }

    static final class Fault extends RuntimeException {
        private static final long serialVersionUID = 1;
        final int kind;
        final int place;

        Fault(int kind, int place) {
            this.kind = kind;
            this.place = place;
        }
    }

    record Image(List<int[]> voice, boolean night, TreeSet<Integer> open, int[] worn) {
    }

    static final List<String> RESERVED = List.of("tune", "of", "lock", "near", "opens", "sweet", "or", "and", "not",
            "in", "begins", "ends", "night", "notes", "worn");

    StringBuilder tape = new StringBuilder();
    List<String> names = new ArrayList<>();
    List<List<int[]>> tunes = new ArrayList<>();
    List<Door> locks = new ArrayList<>();
    TreeSet<Integer> sweet = new TreeSet<>(List.of(0, 3, 4, 7, 8, 9));
    int units;
    int fault;
    int place = -1;
    List<int[]> voice = new ArrayList<>();
    boolean night;
    TreeSet<Integer> open = new TreeSet<>();
    int[] worn = new int[8];
    List<Seen> seen = new ArrayList<>();
    int time;
    Image[] boxes = new Image[3];

    int feed(int... numbers) {
        if (tape.length() + 20 > 1700) {
            return -1;
        }
        for (int n : numbers) {
            tape.append((char) (n >>> 24)).append((char) (n >>> 16 & 255)).append((char) (n >>> 8 & 255))
                    .append((char) (n & 255));
        }
        return tape.length();
    }

    int end(int n) {
        if (n < 0 || n > tape.length()) {
            return -1;
        }
        tape.setLength(n);
        return n;
    }

    int town() {
        Text text = new Text(tape.toString());
        try {
            text.town();
        } catch (Fault f) {
            fault = f.kind;
            place = f.place;
            return -1;
        }
        fault = 0;
        place = -1;
        tape.setLength(0);
        names = text.names;
        tunes = text.tunes;
        locks = text.locks;
        units = text.units;
        sweet = text.sweet != null ? text.sweet : new TreeSet<>(List.of(0, 3, 4, 7, 8, 9));
        voice = new ArrayList<>();
        night = false;
        open = new TreeSet<>();
        worn = new int[8];
        seen = new ArrayList<>();
        boxes = new Image[3];
        return locks.size();
    }

    int fault(int what) {
        return what == 0 ? fault : what == 1 ? place : -1;
    }

    boolean tune(int t) {
        return t >= 0 && t < tunes.size();
    }

    boolean door(int l) {
        return l >= 0 && l < locks.size();
    }

    int notes(int t) {
        return tune(t) ? tunes.get(t).size() : -1;
    }

    int step(int t, int i) {
        if (!tune(t) || i < 0 || i > tunes.get(t).size() - 2) {
            return -1000000;
        }
        return tunes.get(t).get(i + 1)[0] - tunes.get(t).get(i)[0];
    }

    static int offAt(List<int[]> tune, List<int[]> song, int place) {
        if (place < 0 || place > song.size() - tune.size()) {
            return -1;
        }
        int steps = 0;
        int paces = 0;
        for (int i = 0; i < tune.size(); i++) {
            if (i + 1 < tune.size()) {
                int mine = tune.get(i + 1)[0] - tune.get(i)[0];
                int there = song.get(place + i + 1)[0] - song.get(place + i)[0];
                steps += mine > there ? mine - there : there - mine;
            }
            if (song.get(place + i)[1] * tune.get(0)[1] != song.get(place)[1] * tune.get(i)[1]) {
                paces++;
            }
        }
        return steps + paces;
    }

    int off(int t, int s, int place) {
        return tune(t) && tune(s) ? offAt(tunes.get(t), tunes.get(s), place) : -1;
    }

    static int placeIn(List<int[]> tune, List<int[]> song) {
        int best = -1;
        for (int p = song.size() - tune.size(); p >= 0; p--) {
            if (best < 0 || offAt(tune, song, p) <= offAt(tune, song, best)) {
                best = p;
            }
        }
        return best;
    }

    static int inOf(List<int[]> tune, List<int[]> song, int what) {
        int p = placeIn(tune, song);
        if (p < 0 || what == 0) {
            return p;
        }
        if (what == 1) {
            return offAt(tune, song, p);
        }
        if (what != 2) {
            return -1;
        }
        // The first NOTE off is the last of the shortest beginning that is off there.
        for (int n = 1; n <= tune.size(); n++) {
            if (offAt(tune.subList(0, n), song, p) != 0) {
                return n - 1;
            }
        }
        return -1;
    }

    int in(int t, int s, int what) {
        return tune(t) && tune(s) ? inOf(tunes.get(t), tunes.get(s), what) : -1;
    }

    int ask(int l, List<int[]> song, boolean atNight, int wear) {
        return locks.get(l).e().of(new Asked(song, atNight, wear, Math.min(20, locks.get(l).near() + wear / 3)));
    }

    boolean opens(int l, List<int[]> song, boolean atNight, int wear) {
        return !song.isEmpty() && ask(l, song, atNight, wear) != 0;
    }

    int doors(int s, boolean atNight) {
        if (!tune(s)) {
            return -1;
        }
        int bits = 0;
        for (int l = 0; l < locks.size(); l++) {
            bits |= opens(l, tunes.get(s), atNight, worn[l]) ? 1 << l : 0;
        }
        return bits;
    }

    int asked(int l, int s, boolean atNight) {
        return door(l) && tune(s) ? ask(l, tunes.get(s), atNight, worn[l]) : -1000000;
    }

    int dealt(int n) {
        if (n < 0 || n > 99) {
            return -1;
        }
        int best = 0;
        for (int set = 1; set < 1 << tunes.size(); set++) {
            if (Integer.bitCount(set) > Integer.bitCount(best) && apart(set, n)) {
                best = set;
            }
        }
        return best;
    }

    boolean apart(int set, int n) {
        for (int a = 0; a < tunes.size(); a++) {
            for (int b = 0; b < tunes.size(); b++) {
                if (a != b && (set >> a & 1) == 1 && (set >> b & 1) == 1) {
                    int off = inOf(tunes.get(a), tunes.get(b), 1);
                    if (off >= 0 && off <= n) {
                        return false;
                    }
                }
            }
        }
        return true;
    }

    /** A TUNE in any key and pace: what comes between its NOTES, a text a step. */
    static List<String> shape(List<int[]> tune) {
        List<String> s = new ArrayList<>();
        for (int i = 1; i < tune.size(); i++) {
            int a = tune.get(i - 1)[1];
            int b = tune.get(i)[1];
            int g = 1;
            for (int d = 2; d <= 9; d++) {
                if (a % d == 0 && b % d == 0) {
                    g = d;
                }
            }
            s.add((tune.get(i)[0] - tune.get(i - 1)[0]) + ":" + a / g + ":" + b / g);
        }
        return s;
    }

    static boolean holds(List<String> all, List<String> part) {
        for (int i = 0; i + part.size() <= all.size(); i++) {
            if (all.subList(i, i + part.size()).equals(part)) {
                return true;
            }
        }
        return false;
    }

    int fewest;
    List<Integer> bestRow;

    int master(int set, int what) {
        if (what < 0 || what > 6 || set < 0 || set >> tunes.size() != 0) {
            return -1;
        }
        if (Integer.bitCount(set) > 6) {
            return -2;
        }
        List<Integer> kept = new ArrayList<>();
        for (int t = 0; t < tunes.size(); t++) {
            boolean out = (set >> t & 1) == 0;
            for (int u = 0; u < tunes.size() && !out; u++) {
                if (u != t && (set >> u & 1) == 1 && holds(shape(tunes.get(u)), shape(tunes.get(t)))) {
                    out = !shape(tunes.get(u)).equals(shape(tunes.get(t))) || u < t;
                }
            }
            if (!out) {
                kept.add(t);
            }
        }
        fewest = Integer.MAX_VALUE;
        bestRow = List.of();
        rows(kept, new ArrayList<>(), List.of());
        if (what == 0) {
            return set == 0 ? 0 : fewest + 1;
        }
        return what <= bestRow.size() ? bestRow.get(what - 1) : -1;
    }

    void rows(List<Integer> kept, List<Integer> row, List<String> laid) {
        if (row.size() == kept.size()) {
            if (laid.size() < fewest) {
                fewest = laid.size();
                bestRow = List.copyOf(row);
            }
            return;
        }
        for (int t : kept) {
            if (!row.contains(t)) {
                List<String> next = shape(tunes.get(t));
                int over = Math.min(laid.size(), next.size());
                while (!laid.subList(laid.size() - over, laid.size()).equals(next.subList(0, over))) {
                    over--;
                }
                List<String> more = new ArrayList<>(laid);
                more.addAll(next.subList(over, next.size()));
                row.add(t);
                rows(kept, row, more);
                row.remove(row.size() - 1);
            }
        }
    }

    int whole(int t) {
        int sum = 0;
        for (int[] n : tunes.get(t)) {
            sum += n[1];
        }
        return sum;
    }

    int highAt(int t, int moment) {
        int to = 0;
        for (int[] n : tunes.get(t)) {
            to += n[1];
            if (moment < to) {
                return n[0];
            }
        }
        throw new IllegalStateException();
    }

    int round(int t, int d) {
        if (!tune(t) || d < 1 || d > 99) {
            return -1;
        }
        int count = 0;
        for (int m = 0; m < whole(t) + d; m++) {
            if (m < whole(t) && m >= d) {
                int a = highAt(t, m);
                int b = highAt(t, m - d);
                count += sweet.contains((Math.max(a, b) - Math.min(a, b)) % 12) ? 0 : 1;
            }
        }
        return count;
    }

    int good(int t, int what) {
        if (!tune(t) || what != 0 && what != 1 || whole(t) < 2) {
            return -1;
        }
        int best = 1;
        for (int d = Math.min(99, whole(t) - 1); d >= 1; d--) {
            if (round(t, d) <= round(t, best)) {
                best = d;
            }
        }
        return what == 0 ? best : round(t, best);
    }

    int deaf(int t, int s, int tone) {
        if (!tune(t) || !tune(s) || tone < 0 || tone > 11 || notes(t) > notes(s)) {
            return -1;
        }
        return deafFrom(t, new ArrayList<>(tunes.get(s)), tone, 0);
    }

    int deafFrom(int t, List<int[]> song, int tone, int from) {
        for (int i = from; i < song.size(); i++) {
            int[] note = song.get(i);
            if (note[0] % 12 == tone) {
                song.set(i, new int[] {note[0] - 1, note[1]});
                int a = deafFrom(t, song, tone, i + 1);
                song.set(i, new int[] {note[0] + 1, note[1]});
                int b = deafFrom(t, song, tone, i + 1);
                song.set(i, note);
                return Math.min(a, b);
            }
        }
        return inOf(tunes.get(t), song, 1);
    }

    int least(int l, boolean atNight) {
        if (!door(l)) {
            return -1;
        }
        for (int n = 1; n <= 12; n++) {
            for (int t = 0; t < tunes.size(); t++) {
                if (notes(t) == n && opens(l, tunes.get(t), atNight, worn[l])) {
                    return t;
                }
            }
        }
        return -1;
    }

    int sing(int high, int length) {
        if (high < 0 || high > 60 || length < 1 || length > 9 || voice.size() == 40) {
            return -1;
        }
        voice.add(new int[] {high, length});
        int bits = 0;
        for (int l = 0; l < locks.size(); l++) {
            if (!open.contains(l) && opens(l, voice, night, worn[l])) {
                open.add(l);
                worn[l]++;
                bits |= 1 << l;
            }
        }
        return bits;
    }

    int song(int t, int higher) {
        if (!tune(t) || higher < -60 || higher > 60 || voice.size() + notes(t) > 40) {
            return -1;
        }
        for (int[] n : tunes.get(t)) {
            if (n[0] + higher < 0 || n[0] + higher > 60) {
                return -1;
            }
        }
        int bits = 0;
        for (int[] n : tunes.get(t)) {
            bits |= sing(n[0] + higher, n[1]);
        }
        return bits;
    }

    int silence() {
        int n = voice.size();
        voice.clear();
        return n;
    }

    boolean shut(int l) {
        return open.remove(l);
    }

    boolean night(boolean is) {
        boolean was = night;
        night = is;
        return was != is;
    }

    int lock(int l, int what) {
        if (!door(l)) {
            return -1;
        }
        return switch (what) {
            case 0 -> open.contains(l) ? 1 : 0;
            case 1 -> worn[l];
            case 2 -> Math.min(20, locks.get(l).near() + worn[l] / 3);
            default -> -1;
        };
    }

    int heard(int t, int what) {
        return tune(t) ? inOf(tunes.get(t), voice, what) : -1;
    }

    int watch(int l, boolean atNight, boolean opened) {
        if (!door(l) || seen.size() == 30) {
            return -1;
        }
        seen.add(new Seen(l, atNight, opened, time, new int[] {Integer.MAX_VALUE, 0}));
        return seen.size() - 1;
    }

    boolean untell(int w) {
        if (w < 0 || w >= seen.size() || seen.get(w).untold()[1] == 1) {
            return false;
        }
        seen.get(w).untold()[0] = time;
        seen.get(w).untold()[1] = 1;
        return true;
    }

    int later(int by) {
        if (by < 0 || by > 1000 || time + by > 100000) {
            return -1;
        }
        time += by;
        return time;
    }

    int left(int k) {
        int bits = 0;
        for (int t = 0; t < tunes.size(); t++) {
            boolean so = true;
            for (Seen w : seen) {
                boolean untold = w.untold()[1] == 1 && w.untold()[0] <= k;
                if (w.told() <= k && !untold) {
                    so &= opens(w.lock(), tunes.get(t), w.night(), 0) == w.opened();
                }
            }
            bits |= so ? 1 << t : 0;
        }
        return bits;
    }

    int next(int what, int k) {
        int those = left(k);
        int[] best = null;
        for (int l = 0; l < locks.size() && those != 0; l++) {
            for (int n = 0; n < 2; n++) {
                int yes = 0;
                int no = 0;
                for (int t = 0; t < tunes.size(); t++) {
                    if ((those >> t & 1) == 1) {
                        if (opens(l, tunes.get(t), n == 1, 0)) {
                            yes++;
                        } else {
                            no++;
                        }
                    }
                }
                if (best == null || Math.max(yes, no) < best[2]) {
                    best = new int[] {l, n, Math.max(yes, no)};
                }
            }
        }
        return best == null || what < 0 || what > 2 ? -1 : best[what];
    }

    int image(int box) {
        if (box < 0 || box > 2) {
            return -1;
        }
        boxes[box] = new Image(List.copyOf(voice), night, new TreeSet<>(open), worn.clone());
        return voice.size();
    }

    int back(int box) {
        if (box < 0 || box > 2 || boxes[box] == null) {
            return -1;
        }
        voice = new ArrayList<>(boxes[box].voice());
        night = boxes[box].night();
        open = new TreeSet<>(boxes[box].open());
        worn = boxes[box].worn().clone();
        return voice.size();
    }

    int about(int what) {
        int[] all = {tunes.size(), locks.size(), voice.size(), night ? 1 : 0, seen.size(), time, tape.length(), units};
        return what < 0 || what > 7 ? -1 : all[what];
    }

    /** A text and what is read of it. */
    static final class Text {
        final String text;
        int at;
        String token;
        int place;
        List<String> names = new ArrayList<>();
        List<List<int[]>> tunes = new ArrayList<>();
        List<Door> locks = new ArrayList<>();
        TreeSet<Integer> sweet;
        int units;

        Text(String text) {
            this.text = text;
        }

        /** The next TOKEN is looked at, "" at the end, "?" if it is none. */
        String look() {
            int i = at;
            while (i < text.length() && " \n".indexOf(text.charAt(i)) >= 0) {
                i++;
            }
            place = i;
            String rest = text.substring(i);
            if (rest.isEmpty()) {
                token = "";
            } else if (rest.matches("(?s)[a-z]{1,8}([^a-z].*)?")) {
                token = rest.replaceFirst("(?s)[^a-z].*", "");
            } else if (rest.matches("(?s)[0-9]{1,4}([^a-z0-9].*)?")) {
                token = rest.replaceFirst("(?s)[^0-9].*", "");
            } else if (";()<>=+-".indexOf(rest.charAt(0)) >= 0) {
                token = rest.substring(0, 1);
            } else {
                token = "?";
            }
            return token;
        }

        boolean is(String... some) {
            return Arrays.asList(some).contains(look());
        }

        boolean isNumber() {
            return look().matches("[0-9]+");
        }

        RuntimeException bad() {
            look();
            return new Fault(token.equals("?") ? 1 : 2, place);
        }

        String go() {
            look();
            at = place + token.length();
            return token;
        }

        void must(String word) {
            if (!is(word)) {
                throw bad();
            }
            go();
        }

        String name() {
            if (!look().matches("[a-z]+") || RESERVED.contains(token)) {
                throw bad();
            }
            return token;
        }

        int number(int low, int high) {
            if (!isNumber()) {
                throw bad();
            }
            int n = Integer.parseInt(token);
            if (n < low || n > high) {
                throw new Fault(4, place);
            }
            go();
            return n;
        }

        void town() {
            while (!is("")) {
                if (is("tune") && tunes.size() < 14) {
                    tune();
                } else if (is("lock") && locks.size() < 8) {
                    lock();
                } else if (is("sweet") && sweet == null) {
                    sweet();
                } else {
                    throw bad();
                }
                must(";");
            }
        }

        void tune() {
            go();
            String name = name();
            if (names.contains(name)) {
                throw new Fault(3, place);
            }
            go();
            must("of");
            List<int[]> notes = new ArrayList<>();
            do {
                if (notes.size() == 12) {
                    throw new Fault(2, place);
                }
                int high = number(0, 60);
                notes.add(new int[] {high, number(1, 9)});
            } while (isNumber());
            names.add(name);
            tunes.add(notes);
        }

        void lock() {
            go();
            String name = name();
            for (Door l : locks) {
                if (l.name().equals(name)) {
                    throw new Fault(3, place);
                }
            }
            go();
            must("near");
            int near = number(0, 20);
            must("opens");
            locks.add(new Door(name, near, e(0)));
        }

        void sweet() {
            go();
            sweet = new TreeSet<>();
            do {
                int n = isNumber() ? Integer.parseInt(token) : -1;
                if (sweet.size() == 12) {
                    throw bad();
                }
                if (sweet.contains(n)) {
                    throw new Fault(3, place);
                }
                sweet.add(number(0, 11));
            } while (isNumber());
        }

        Node e(int within) {
            Node a = both(within);
            while (is("or")) {
                go();
                Node x = a;
                Node y = both(within);
                a = s -> (x.of(s) != 0 ? 1 : 0) | (y.of(s) != 0 ? 1 : 0);
            }
            return a;
        }

        Node both(int within) {
            Node a = one(within);
            while (is("and")) {
                go();
                Node x = a;
                Node y = one(within);
                a = s -> (x.of(s) != 0 ? 1 : 0) & (y.of(s) != 0 ? 1 : 0);
            }
            return a;
        }

        Node one(int within) {
            if (is("not")) {
                if (within >= 7) {
                    throw bad();
                }
                go();
                Node x = one(within + 1);
                return s -> x.of(s) == 0 ? 1 : 0;
            }
            Node x = sum(within);
            if (!is("<", ">", "=")) {
                return x;
            }
            int sign = go().charAt(0);
            Node y = sum(within);
            return s -> {
                int c = Integer.compare(x.of(s), y.of(s));
                return (c < 0 ? '<' : c > 0 ? '>' : '=') == sign ? 1 : 0;
            };
        }

        Node sum(int within) {
            Node a = unit(within);
            while (is("+", "-")) {
                int sign = go().equals("+") ? 1 : -1;
                Node x = a;
                Node y = unit(within);
                a = s -> x.of(s) + sign * y.of(s);
            }
            return a;
        }

        Node unit(int within) {
            if (!isNumber() && !is("in", "begins", "ends", "night", "notes", "worn", "(") || units == 60) {
                throw bad();
            }
            units++;
            if (isNumber()) {
                int n = Integer.parseInt(go());
                return s -> n;
            }
            if (is("(")) {
                if (within >= 7) {
                    throw bad();
                }
                go();
                Node x = e(within + 1);
                must(")");
                return x;
            }
            String word = go();
            switch (word) {
                case "night":
                    return s -> s.night() ? 1 : 0;
                case "notes":
                    return s -> s.song().size();
                case "worn":
                    return s -> s.worn();
                default:
            }
            String name = name();
            if (!names.contains(name)) {
                throw new Fault(5, place);
            }
            go();
            List<int[]> tune = tunes.get(names.indexOf(name));
            return s -> {
                int off = switch (word) {
                    case "in" -> inOf(tune, s.song(), 1);
                    case "begins" -> offAt(tune, s.song(), 0);
                    default -> offAt(tune, s.song(), s.song().size() - tune.size());
                };
                return off >= 0 && off <= s.near() ? 1 : 0;
            };
        }
    }
}
