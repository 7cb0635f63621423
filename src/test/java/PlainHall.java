import java.util.ArrayList;
import java.util.HashMap;
import java.util.List;
import java.util.Map;
import java.util.function.ToIntFunction;

/**
 * The document once more, in the slowest and plainest way, with real kinds of nights, real rows of bytes, shorts and
 * ints, and the machine's own exceptions: what CushionHall answers is compared with this.
 */
final class PlainHall {
    static final int NONE = -1, BAD = -2, STATE = -3, FULL = -4;
    static final long NO = -4611686018427387904L;

    record Stuff(int[] eat, int coin) { }

    static final class Surface {
        int stuff;
        int feet;

        Surface(int stuff, int feet) {
            this.stuff = stuff;
            this.feet = feet;
        }
    }

    static final class Hall {
        int size, wide, deep;
        List<Surface> surfaces = new ArrayList<>();
    }

    class Night {
        int kind, hall, pitch, many, heard, tired;

        long more() { return 0; }

        long late() { return Math.max(0, Math.min(999, rules.get(rule).late.applyAsInt(this))); }

        long due() { return halls.get(hall).size * 100L * law / (eats(hall, pitch) + more()) + late(); }

        long off() { return heard - due(); }

        boolean leftOut() { return rules.get(rule).leave.applyAsInt(this) != 0; }
    }

    class Cushioned extends Night {
        @Override long more() { return super.more() + (long) many * cushion; }

        @Override long late() { return super.late() + 1; }
    }

    class Windowed extends Night {
        @Override long more() { return super.more() + many * 100L; }
    }

    final class Peopled extends Cushioned {
        @Override long more() { return (long) many * person + super.more() / 2; }

        @Override long late() { return Math.max(0, super.late() - 4); }
    }

    final class Coated extends Cushioned {
        @Override long more() { return super.more() + coat; }
    }

    final class Far extends Windowed {
        @Override long more() { return super.more() / 3; }

        @Override long late() { return 2 * super.late(); }
    }

    record Rule(ToIntFunction<Night> late, ToIntFunction<Night> leave) { }

    record Image(int law, int cushion, int person, int coat, int rule, List<List<Integer>> surfaces, int nights) { }

    List<Stuff> stuffs = new ArrayList<>();
    List<Hall> halls = new ArrayList<>();
    List<Night> nights = new ArrayList<>();
    List<Rule> rules = new ArrayList<>();
    int law = 49, cushion = 100, person = 450, coat = 30, rule = 0;
    String tape = "";
    Image image = null;
    Object[] sheets = new Object[4];

    PlainHall() {
        rules.add(new Reader("late tired * 2 ; leave time = 0 ;").rule());
    }

    static boolean in(long v, long least, long most) { return least <= v && v <= most; }

    // ---- stuffs, halls

    int stuff(int eats, int coin) {
        if (!in(eats, 0, 999999) || !in(coin, 0, 99)) return BAD;
        if (stuffs.size() == 8) return FULL;
        stuffs.add(new Stuff(new int[] {eats / 10000, eats / 100 % 100, eats % 100}, coin));
        return stuffs.size() - 1;
    }

    int hall(int size, int wide, int deep) {
        if (!in(size, 1, 99999) || !in(wide, 2, 20) || !in(deep, 2, 20)) return BAD;
        if (halls.size() == 6) return FULL;
        Hall h = new Hall();
        h.size = size;
        h.wide = wide;
        h.deep = deep;
        halls.add(h);
        return halls.size() - 1;
    }

    boolean isHall(int hall) { return in(hall, 0, halls.size() - 1); }

    boolean isWhere(int where) { return where >= 0 && isHall(where / 10) && where % 10 < 3; }

    int surface(int hall, int stuff, int feet) {
        if (!isHall(hall) || !in(stuff, 0, stuffs.size() - 1) || !in(feet, 0, 9999)) return BAD;
        List<Surface> all = halls.get(hall).surfaces;
        if (all.size() == 6) return FULL;
        all.add(new Surface(stuff, feet));
        return all.size() - 1;
    }

    int cover(int hall, int surface, int stuff) {
        if (!isHall(hall) || !in(surface, 0, halls.get(hall).surfaces.size() - 1)) return BAD;
        if (!in(stuff, 0, stuffs.size() - 1)) return BAD;
        Surface s = halls.get(hall).surfaces.get(surface);
        int was = s.stuff;
        s.stuff = stuff;
        return was;
    }

    int set(int what, int v) {
        int was;
        if (what == 0 && in(v, 1, 999)) { was = law; law = v; return was; }
        if (what == 1 && in(v, 0, 999)) { was = cushion; cushion = v; return was; }
        if (what == 2 && in(v, 0, 999)) { was = person; person = v; return was; }
        if (what == 3 && in(v, 0, 999)) { was = coat; coat = v; return was; }
        return BAD;
    }

    long eats(int hall, int pitch) {
        long sum = 100;
        for (Surface s : halls.get(hall).surfaces) sum += (long) s.feet * stuffs.get(s.stuff).eat[pitch];
        return sum;
    }

    long eaten(int hall, int pitch, int what) {
        if (!isHall(hall) || !in(pitch, 0, 2) || !in(what, 0, 1)) return NO;
        return what == 0 ? eats(hall, pitch) : halls.get(hall).size * 100L * law / eats(hall, pitch);
    }

    // ---- nights

    int night(int kind, int where, int many, int heard, int tired) {
        if (!in(kind, 0, 5) || !isWhere(where)) return BAD;
        if (!in(many, 0, 999) || !in(heard, 0, 99999) || !in(tired, 0, 9)) return BAD;
        if (nights.size() == 40) return FULL;
        Night n = switch (kind) {
            case 0 -> new Night();
            case 1 -> new Cushioned();
            case 2 -> new Windowed();
            case 3 -> new Peopled();
            case 4 -> new Coated();
            default -> new Far();
        };
        n.kind = kind;
        n.hall = where / 10;
        n.pitch = where % 10;
        n.many = many;
        n.heard = heard;
        n.tired = tired;
        nights.add(n);
        return nights.size() - 1;
    }

    long told(int night, int what) {
        if (!in(night, 0, nights.size() - 1)) return NO;
        Night n = nights.get(night);
        return switch (what) {
            case 0 -> n.kind;
            case 1 -> n.hall;
            case 2 -> n.pitch;
            case 3 -> n.many;
            case 4 -> n.heard;
            case 5 -> n.tired;
            case 6 -> n.more();
            case 7 -> n.late();
            case 8 -> n.due();
            case 9 -> n.off();
            case 10 -> n.leftOut() ? 1 : 0;
            default -> NO;
        };
    }

    int feed(int n, long bytes) {
        if (!in(n, 1, 8)) return BAD;
        if (tape.length() + n > 160) return FULL;
        for (int i = 0; i < n; i++) tape += (char) (bytes >>> (8 * i) & 255);
        return tape.length();
    }

    int text() {
        if (rules.size() == 6) return FULL;
        String read = tape;
        tape = "";
        try {
            rules.add(new Reader(read).rule());
            return rules.size() - 1;
        } catch (Fault fault) {
            return -100 - fault.place;
        }
    }

    int force(int text) {
        if (!in(text, 0, rules.size() - 1)) return BAD;
        int was = rule;
        rule = text;
        return was;
    }

    static final class Fault extends RuntimeException {
        private static final long serialVersionUID = 1;
        final int place;

        Fault(int place) {
            this.place = place;
        }
    }

    /** Cuts a text into all its tokens first, and builds functions from them. */
    final class Reader {
        private static final String NAMES = " kind many pitch hall time tired ";
        private static final String KEYS = " late leave or and not ";
        private final List<String> tokens = new ArrayList<>();
        private final List<Integer> places = new ArrayList<>();
        private int at = 0;
        private int open = 0;

        Reader(String text) {
            int i = 0;
            while (i < text.length()) {
                char c = text.charAt(i);
                int from = i++;
                if (c == 32 || c == 10) continue;
                String run = c >= 'a' && c <= 'z' ? "abcdefghijklmnopqrstuvwxyz" : c >= '0' && c <= '9' ? "0123456789" : "";
                while (i < text.length() && run.indexOf(text.charAt(i)) >= 0) i++;
                tokens.add(text.substring(from, i));
                places.add(from);
            }
            tokens.add("the end");
            places.add(text.length());
        }

        Fault fault() { return new Fault(places.get(at)); }

        boolean take(String token) {
            if (!tokens.get(at).equals(token)) return false;
            at++;
            return true;
        }

        void need(String token) {
            if (!take(token)) throw fault();
        }

        void opened() {
            if (open == 5) {
                at--;
                throw fault();
            }
            open++;
        }

        Rule rule() {
            need("late");
            ToIntFunction<Night> late = e();
            need(";");
            need("leave");
            ToIntFunction<Night> leave = e();
            need(";");
            need("the end");
            return new Rule(late, leave);
        }

        ToIntFunction<Night> e() {
            ToIntFunction<Night> a = and();
            while (take("or")) {
                ToIntFunction<Night> x = a, y = and();
                a = n -> x.applyAsInt(n) != 0 || y.applyAsInt(n) != 0 ? 1 : 0;
            }
            return a;
        }

        ToIntFunction<Night> and() {
            ToIntFunction<Night> a = not();
            while (take("and")) {
                ToIntFunction<Night> x = a, y = not();
                a = n -> x.applyAsInt(n) != 0 && y.applyAsInt(n) != 0 ? 1 : 0;
            }
            return a;
        }

        ToIntFunction<Night> not() {
            if (take("not")) {
                opened();
                ToIntFunction<Night> x = not();
                open--;
                return n -> x.applyAsInt(n) == 0 ? 1 : 0;
            }
            ToIntFunction<Night> a = sum();
            if (take("<")) {
                ToIntFunction<Night> b = sum();
                return n -> a.applyAsInt(n) < b.applyAsInt(n) ? 1 : 0;
            }
            if (take("=")) {
                ToIntFunction<Night> b = sum();
                return n -> a.applyAsInt(n) == b.applyAsInt(n) ? 1 : 0;
            }
            return a;
        }

        ToIntFunction<Night> sum() {
            ToIntFunction<Night> a = term();
            while (true) {
                ToIntFunction<Night> x = a;
                if (take("+")) {
                    ToIntFunction<Night> y = term();
                    a = n -> x.applyAsInt(n) + y.applyAsInt(n);
                } else if (take("-")) {
                    ToIntFunction<Night> y = term();
                    a = n -> x.applyAsInt(n) - y.applyAsInt(n);
                } else {
                    return a;
                }
            }
        }

        ToIntFunction<Night> term() {
            ToIntFunction<Night> a = one();
            while (take("*")) {
                ToIntFunction<Night> x = a, y = one();
                a = n -> x.applyAsInt(n) * y.applyAsInt(n);
            }
            return a;
        }

        ToIntFunction<Night> one() {
            if (take("(")) {
                opened();
                ToIntFunction<Night> a = e();
                need(")");
                open--;
                return a;
            }
            if (take("-")) {
                opened();
                ToIntFunction<Night> a = one();
                open--;
                return n -> -a.applyAsInt(n);
            }
            String token = tokens.get(at);
            if (token.matches("[0-9]{1,4}")) {
                at++;
                int v = Integer.parseInt(token);
                return n -> v;
            }
            if (!token.matches("[a-z]+") || !NAMES.contains(" " + token + " ") || KEYS.contains(" " + token + " ")) {
                throw fault();
            }
            at++;
            return switch (token) {
                case "kind" -> n -> n.kind;
                case "many" -> n -> n.many;
                case "pitch" -> n -> n.pitch;
                case "hall" -> n -> n.hall;
                case "time" -> n -> n.heard;
                default -> n -> n.tired;
            };
        }
    }

    // ---- what nights say

    static boolean areLaws(int from, int to) {
        return in(from, 1, 999) && in(to, 1, 999) && from <= to && to - from + 1 <= 60;
    }

    List<Night> speakers() {
        List<Night> all = new ArrayList<>();
        for (Night n : nights) if (!n.leftOut()) all.add(n);
        return all;
    }

    /** The numbers of the NIGHTS that speak, and how far each is OFF by a pair. */
    long[] offs(List<Night> all, int l, int c) {
        int lawWas = law, cushionWas = cushion;
        law = l;
        cushion = c;
        long[] offs = new long[all.size()];
        for (int i = 0; i < offs.length; i++) offs[i] = Math.abs(all.get(i).off());
        law = lawWas;
        cushion = cushionWas;
        return offs;
    }

    long fit(int from, int to, int what) {
        if (!areLaws(from, to) || !in(what, 0, 2)) return NO;
        List<Night> all = speakers();
        long best = Long.MAX_VALUE, bestLaw = 0, bestCushion = 0;
        for (int l = from; l <= to; l++) {
            for (int c = 0; c <= 990; c += 10) {
                long sum = 0;
                for (long off : offs(all, l, c)) sum += off;
                if (sum < best) {
                    best = sum;
                    bestLaw = l;
                    bestCushion = c;
                }
            }
        }
        return what == 0 ? bestLaw : what == 1 ? bestCushion : best;
    }

    /** The CUSHIONS of all pairs that the first so many speakers let. */
    List<Integer> letBy(List<Night> all, int laws, int slip) {
        List<Integer> let = new ArrayList<>();
        for (int l = laws / 1000; l <= laws % 1000; l++) {
            for (int c = 0; c <= 990; c += 10) {
                boolean lets = true;
                for (long off : offs(all, l, c)) lets = lets && off <= slip;
                if (lets) let.add(c);
            }
        }
        return let;
    }

    int lets(int laws, int slip, int what) {
        if (!areLaws(laws / 1000, laws % 1000) || !in(slip, 0, 9999) || !in(what, 0, 2)) return BAD;
        List<Integer> let = letBy(speakers(), laws, slip);
        if (what == 0) return let.size();
        return let.stream().mapToInt(c -> what == 1 ? -c : c).max().stream().map(Math::abs).findFirst().orElse(NONE);
    }

    int thrownOut(int laws, int slip) {
        if (!areLaws(laws / 1000, laws % 1000) || !in(slip, 0, 9999)) return BAD;
        List<Night> ahead = new ArrayList<>();
        for (int i = 0; i < nights.size(); i++) {
            if (nights.get(i).leftOut()) continue;
            ahead.add(nights.get(i));
            if (letBy(ahead, laws, slip).isEmpty()) return i;
        }
        return NONE;
    }

    long better(int hall, int what) {
        if (!isHall(hall) || !in(what, 0, 2)) return NO;
        List<Night> all = new ArrayList<>();
        for (Night n : speakers()) if (n.hall == hall) all.add(n);
        long straight = Long.MAX_VALUE;
        for (int i = 0; i < all.size(); i++) {
            for (int j = i + 1; j < all.size(); j++) {
                Night a = all.get(i), b = all.get(j);
                if (a.many == b.many) continue;
                long sum = 0;
                for (Night n : all) {
                    long line = a.heard + (long) (b.heard - a.heard) * (n.many - a.many) / (b.many - a.many);
                    sum += Math.abs(line - n.heard);
                }
                straight = Math.min(straight, sum);
            }
        }
        if (straight == Long.MAX_VALUE) return STATE;
        long bent = 0;
        for (Night n : all) bent += Math.abs(n.off());
        if (what == 0) return straight;
        if (what == 1) return bent;
        return bent < straight ? 1 : bent == straight ? 0 : -1;
    }

    int narrows(int laws, int slip, int where, int most) {
        if (lets(laws, slip, 0) == BAD || !isWhere(where) || !in(most, 0, 200)) return BAD;
        int least = lets(laws, slip, 1), greatest = lets(laws, slip, 2), was = cushion, best = 0;
        if (least == NONE) return STATE;
        long apart = 0;
        for (int many = 0; many <= most; many += 20) {
            Cushioned n = new Cushioned();
            n.hall = where / 10;
            n.pitch = where % 10;
            n.many = many;
            cushion = least;
            long one = n.due();
            cushion = greatest;
            long two = n.due();
            if (Math.abs(one - two) > apart) {
                apart = Math.abs(one - two);
                best = many;
            }
        }
        cushion = was;
        return best;
    }

    // ---- plans

    long planned(int hall, int pitch, int people) {
        return halls.get(hall).size * 100L * law / (eats(hall, pitch) + (long) people * person);
    }

    long plan(int hall, int pitch, int people) {
        if (!isHall(hall) || !in(pitch, 0, 2) || !in(people, 0, 999)) return NO;
        return planned(hall, pitch, people);
    }

    long aim(int where, int people, int time, int slip, int what) {
        if (!isWhere(where) || !in(people, 0, 999) || !in(time, 0, 99999)) return NO;
        if (!in(slip, 0, 9999) || !in(what, 0, 1)) return NO;
        List<Surface> own = halls.get(where / 10).surfaces;
        if (own.size() > 5 || stuffs.size() > 6) return FULL;
        List<Integer> was = new ArrayList<>();
        for (Surface s : own) was.add(s.stuff);
        int ways = 1;
        for (int i = 0; i < own.size(); i++) ways *= stuffs.size();
        long best = NONE, digits = NONE;
        for (int way = 0; way < ways; way++) {
            long coin = 0, read = 0;
            int rest = way;
            for (int i = own.size() - 1; i >= 0; i--, rest /= stuffs.size()) own.get(i).stuff = rest % stuffs.size();
            for (Surface s : own) {
                coin += (long) s.feet * stuffs.get(s.stuff).coin;
                read = read * 10 + s.stuff;
            }
            boolean near = Math.abs(planned(where / 10, where % 10, people) - time) <= slip;
            if (near && (best == NONE || coin < best)) {
                best = coin;
                digits = read;
            }
        }
        for (int i = 0; i < own.size(); i++) own.get(i).stuff = was.get(i);
        return what == 0 ? best : digits;
    }

    long wrong(int where, int people, int time, int what, int part) {
        if (!isWhere(where) || !in(people, 0, 999) || !in(time, 0, 99999)) return NO;
        if (!in(what, 0, 2) || !in(part, 0, 1)) return NO;
        Hall h = halls.get(where / 10);
        int sizeWas = h.size, lawWas = law, best = 0;
        long off = Long.MAX_VALUE, eats = eats(where / 10, where % 10);
        for (int v = what == 1 ? 0 : 1; v <= (what == 0 ? 99999 : 999); v++) {
            long s = what == 0 ? v : sizeWas, p = what == 1 ? v : people, l = what == 2 ? v : lawWas;
            long o = Math.abs(s * 100 * l / (eats + p * person) - time);
            if (o < off) {
                off = o;
                best = v;
            }
        }
        return part == 0 ? best : off;
    }

    /** Seats met, in their order. */
    List<Integer> path(Hall h, int seat, int way, int n) {
        List<Integer> path = new ArrayList<>();
        int x = seat % h.wide, y = seat / h.wide;
        int dx = new int[] {1, 1, -1, -1}[way], dy = new int[] {1, -1, -1, 1}[way];
        while (path.size() < n) {
            if (!in(x + dx, 0, h.wide - 1)) dx = -dx;
            if (!in(y + dy, 0, h.deep - 1)) dy = -dy;
            x += dx;
            y += dy;
            path.add(x + y * h.wide);
        }
        return path;
    }

    int echo(int hall, int seat, int way, int n) {
        if (!isHall(hall)) return BAD;
        Hall h = halls.get(hall);
        if (!in(seat, 0, h.wide * h.deep - 1) || !in(way, 0, 3) || !in(n, 1, 400)) return BAD;
        Map<Integer, Integer> met = new HashMap<>();
        for (int s : path(h, seat, way, n)) met.merge(s, 1, Integer::sum);
        int best = -1;
        for (int s : met.keySet()) {
            if (best < 0 || met.get(s) > met.get(best) || met.get(s).equals(met.get(best)) && s < best) best = s;
        }
        return best;
    }

    int hears(int hall, int seat, int ways, int at) {
        if (ways < 0 || echo(hall, seat, ways / 1000, ways % 1000) == BAD) return BAD;
        Hall h = halls.get(hall);
        if (!in(at, 0, h.wide * h.deep - 1)) return BAD;
        return (int) path(h, seat, ways / 1000, ways % 1000).stream().filter(s -> s == at).count();
    }

    int clear(int hall, int people) {
        if (!isHall(hall) || !in(people, 0, 999)) return BAD;
        long low = planned(hall, 0, people), middle = planned(hall, 1, people), high = planned(hall, 2, people);
        return middle <= 180 && high <= 180 && low <= 2 * middle ? 1 : 0;
    }

    int image() {
        List<List<Integer>> all = new ArrayList<>();
        for (Hall h : halls) {
            List<Integer> flat = new ArrayList<>();
            for (Surface s : h.surfaces) {
                flat.add(s.stuff);
                flat.add(s.feet);
            }
            all.add(flat);
        }
        image = new Image(law, cushion, person, coat, rule, all, nights.size());
        return nights.size();
    }

    int back() {
        if (image == null) return STATE;
        law = image.law;
        cushion = image.cushion;
        person = image.person;
        coat = image.coat;
        rule = image.rule;
        for (int h = 0; h < image.surfaces.size(); h++) {
            List<Integer> flat = image.surfaces.get(h);
            List<Surface> all = halls.get(h).surfaces;
            all.clear();
            for (int i = 0; i < flat.size(); i += 2) all.add(new Surface(flat.get(i), flat.get(i + 1)));
        }
        while (nights.size() > image.nights) nights.remove(nights.size() - 1);
        return nights.size();
    }

    int count(int what) {
        return switch (what) {
            case 0 -> stuffs.size();
            case 1 -> halls.size();
            case 2 -> nights.size();
            case 3 -> rules.size();
            case 4 -> tape.length();
            case 5 -> rule;
            case 6 -> nights.size() - speakers().size();
            default -> BAD;
        };
    }

    // ---- the host

    int sheet(int sheet, int sort, int n) {
        if (!in(sheet, 0, 3) || !in(sort, -1, 2)) return BAD;
        if (sort >= 0 && n > 40) return BAD;
        try {
            sheets[sheet] = switch (sort) {
                case 0 -> new byte[n];
                case 1 -> new short[n];
                case 2 -> new int[n];
                default -> null;
            };
            return 1;
        } catch (NegativeArraySizeException e) {
            return -14;
        }
    }

    int cell(int sheet, int i, int v) {
        if (!in(sheet, 0, 3)) return BAD;
        try {
            if (sheets[sheet] instanceof byte[] b) b[i] = (byte) v;
            else if (sheets[sheet] instanceof short[] s) s[i] = (short) v;
            else ((int[]) sheets[sheet])[i] = v;
            return 1;
        } catch (NullPointerException e) {
            return -11;
        } catch (ArrayIndexOutOfBoundsException e) {
            return -12;
        }
    }

    @SuppressWarnings("SuspiciousSystemArraycopy")
    int copy(int sheet, int i, int other, int j, int n) {
        if (!in(sheet, 0, 3) || !in(other, 0, 3)) return BAD;
        try {
            System.arraycopy(sheets[sheet], i, sheets[other], j, n);
            return n;
        } catch (NullPointerException e) {
            return -11;
        } catch (ArrayStoreException e) {
            return -13;
        } catch (IndexOutOfBoundsException e) {
            return -12;
        }
    }

    int nights(int sheet, int sort, int from, int n) {
        if (!in(sheet, 0, 3) || !in(sort, 0, 2) || !in(n, 0, 8)) return BAD;
        try {
            byte[] b = sort == 0 ? (byte[]) sheets[sheet] : null;
            short[] s = sort == 1 ? (short[]) sheets[sheet] : null;
            int[] w = sort == 2 ? (int[]) sheets[sheet] : null;
            int length = sort == 0 ? b.length : sort == 1 ? s.length : w.length;
            int came = 0;
            for (int k = 0; k < n; k++) {
                int[] five = new int[5];
                for (int q = 0; q < 5; q++) {
                    int at = from + 5 * k + q;
                    five[q] = sort == 0 ? b[at] : sort == 1 ? s[at] : w[at];
                }
                if (length > 0 && night(five[0], five[1], five[2], five[3], five[4]) >= 0) came++;
            }
            return came;
        } catch (ClassCastException e) {
            return -13;
        } catch (NullPointerException e) {
            return -11;
        } catch (ArrayIndexOutOfBoundsException e) {
            return -12;
        }
    }

    int taken(int night, int k) {
        if (!in(k, 0, 5)) return BAD;
        Night n = in(night, 0, nights.size() - 1) ? nights.get(night) : null;
        try {
            return switch (k) {
                case 0 -> n.many;
                case 1 -> ((Cushioned) n).many;
                case 2 -> ((Windowed) n).many;
                case 3 -> ((Peopled) n).many;
                case 4 -> ((Coated) n).many;
                default -> ((Far) n).many;
            };
        } catch (NullPointerException e) {
            return -11;
        } catch (ClassCastException e) {
            return -13;
        }
    }
}
