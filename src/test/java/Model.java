import java.math.BigInteger;
import java.util.ArrayDeque;
import java.util.ArrayList;
import java.util.Deque;
import java.util.HashMap;
import java.util.List;
import java.util.Map;
import java.util.regex.Matcher;
import java.util.regex.Pattern;

/** The document once more, by other means and without thrift: what RandomRunsTest holds the class against. */
final class Model {
    private record Inmate(int number, Integer cell, int sound, int hard, int years) {
        boolean in() {
            return cell != null;
        }

        Inmate cell(Integer c) {
            return new Inmate(number, c, sound, hard, years);
        }

        Inmate sound(int s) {
            return new Inmate(number, cell, s, hard, years);
        }

        Inmate years(int y) {
            return new Inmate(number, y == 0 ? null : cell, sound, hard, y);
        }
    }

    private record Time(int month, List<Inmate> men) {
    }

    private record Sight(int sound, int v) {
    }

    private static final Pattern TOKEN = Pattern.compile("[0-9]+|[^ ]", Pattern.DOTALL);

    private String text = "";
    private int cells = 6;
    private int loud = 1;
    private Time now = new Time(0, List.of());
    private Deque<Time> past = new ArrayDeque<>();
    private Map<Integer, Time> images = new HashMap<>();
    private List<Sight> sights = new ArrayList<>();
    private long trace = 0;

    long call(String name, int[] a) {
        switch (name) {
            case "type": return type(a[0]);
            case "clear": { int had = text.length(); text = ""; return had; }
            case "gaol": return gaol();
            case "man": return man(a[0], a[1]);
            case "cell": return a[0] < 0 || a[0] >= cells ? -1 : whoIn(now, a[0]) == null ? -9 : whoIn(now, a[0]).number;
            case "now": return now(a[0]);
            case "month": return month();
            case "moves": return moves(a[0], a[1]);
            case "feigns": return feigns(a[0], a[1]);
            case "undo": return undo();
            case "brings": return !is(a[0]) ? -1000000 : pass(now).men.get(a[0]).years - now.men.get(a[0]).years;
            case "putsOn": return putsOn(a[0], a[1]);
            case "carry": return carry(a[0], a[1]);
            case "lies": return lies(a[0]);
            case "word": return word(a[0], a[1]);
            case "odds": return odds(a[0], a[1], a[2], a[3]);
            case "sees": return sees(a[0], a[1]);
            case "forget": { int had = sights.size(); sights.clear(); return had; }
            case "hards": return hardList().stream().mapToInt(h -> 1 << h).sum();
            case "next": return next();
            case "rate": return a[0] < 0 || a[0] > 5 || !is(a[1]) ? -1000000 : rate(a[0], now.men.get(a[1]));
            case "keep": return keep(a[0]);
            case "back": return back(a[0]);
            case "count": return count(a[0]);
            case "trace": return trace;
            default: throw new IllegalArgumentException(name);
        }
    }

    private boolean is(int m) {
        return m >= 0 && m < now.men.size();
    }

    private int type(int letter) {
        if (letter < 0 || letter > 255) {
            return -1;
        }
        if (text.length() == 120) {
            return -3;
        }
        text += (char) letter;
        return text.length();
    }

    private int gaol() {
        int newCells = 6;
        int newLoud = 0;
        int items = 0;
        List<Inmate> men = new ArrayList<>();
        List<Integer> numbers = new ArrayList<>();
        char item = ' ';
        Matcher t = TOKEN.matcher(text);
        while (t.find()) {
            String token = t.group();
            boolean fits;
            if (item == ' ') {
                item = token.charAt(0);
                fits = token.equals("n") && items == 0 || token.equals("m") && men.size() < 6
                    || token.equals("l") && newLoud == 0;
            } else if (numbers.size() < (item == 'm' ? 4 : 1)) {
                fits = token.matches("0|[1-9][0-9]?");
                if (fits) {
                    int v = Integer.parseInt(token);
                    fits = switch ("" + item + numbers.size()) {
                        case "n0" -> v >= 2 && v <= 9;
                        case "l0" -> v >= 1 && v <= 3;
                        case "m0" -> v < newCells && men.stream().noneMatch(man -> man.cell == v);
                        case "m1" -> v <= 4;
                        case "m2" -> v <= 3;
                        default -> v >= 1 && v <= 60;
                    };
                    numbers.add(v);
                }
            } else {
                fits = token.equals(";");
                if (fits) {
                    if (item == 'n') {
                        newCells = numbers.get(0);
                    } else if (item == 'l') {
                        newLoud = numbers.get(0);
                    } else {
                        men.add(new Inmate(men.size(), numbers.get(0), numbers.get(1), numbers.get(2), numbers.get(3)));
                    }
                    items++;
                    item = ' ';
                    numbers.clear();
                }
            }
            if (!fits) {
                return -10 - t.start();
            }
        }
        if (item != ' ') {
            return -10 - text.length();
        }
        text = "";
        cells = newCells;
        loud = Math.max(1, newLoud);
        now = new Time(0, men);
        past = new ArrayDeque<>();
        images = new HashMap<>();
        sights = new ArrayList<>();
        return items;
    }

    private static Inmate whoIn(Time time, int c) {
        return time.men.stream().filter(man -> man.in() && man.cell == c).findAny().orElse(null);
    }

    private static int put(int h, int sound) {
        return new int[] {0, h + 1, h - 3, -1, h - 1}[sound];
    }

    private static Time pass(Time time) {
        List<Inmate> men = new ArrayList<>();
        for (Inmate man : time.men) {
            if (!man.in()) {
                men.add(man);
                continue;
            }
            int years = man.years - 1;
            for (Inmate other : time.men) {
                if (other.in() && Math.abs(other.cell - man.cell) == 1) {
                    years += put(other.hard, man.sound);
                }
            }
            men.add(man.years(years < 0 ? 0 : years > 60 ? 60 : years));
        }
        return new Time(time.month + 1, men);
    }

    private static Time with(Time time, Inmate man) {
        List<Inmate> men = new ArrayList<>(time.men);
        men.set(man.number, man);
        return new Time(time.month, men);
    }

    private static int out(Time time, int m) {
        Time t = time;
        for (int months = 0; months <= 60; months++) {
            if (!t.men.get(m).in()) {
                return months;
            }
            t = pass(t);
        }
        return -9;
    }

    private int man(int m, int what) {
        if (!is(m) || what < 0 || what > 5) {
            return -1;
        }
        Inmate man = now.men.get(m);
        if (what == 4) {
            int bits = 0;
            for (Inmate other : now.men) {
                if (man.in() && other.in() && Math.abs(other.cell - man.cell) == 1) {
                    bits += 1 << other.number;
                }
            }
            return bits;
        }
        return new int[] {man.in() ? man.cell : -9, man.sound, man.hard, man.years, 0, out(now, m)}[what];
    }

    private int now(int what) {
        switch (what) {
            case 0: return now.month;
            case 1: return now.men.stream().filter(Inmate::in).mapToInt(man -> 1 << man.number).sum();
            case 2: return years(now);
            case 3: return years(pass(best()));
            case 4: return past.size();
            default: return -1;
        }
    }

    private static int years(Time time) {
        return time.men.stream().mapToInt(Inmate::years).sum();
    }

    private void done(Time then) {
        past.addLast(now);
        if (past.size() > 10) {
            past.removeFirst();
        }
        now = then;
    }

    private int month() {
        if (now.month == 999) {
            return -2;
        }
        int in = Integer.bitCount(now(1));
        done(pass(now));
        return in - Integer.bitCount(now(1));
    }

    private int moves(int m, int c) {
        if (!is(m) || c < 0 || c >= cells) {
            return -1;
        }
        Inmate man = now.men.get(m);
        if (!man.in() || whoIn(now, c) != null) {
            return -2;
        }
        done(with(now, man.cell(c)));
        return man.cell;
    }

    private int feigns(int m, int sound) {
        if (!is(m) || sound < 0 || sound > 4) {
            return -1;
        }
        Inmate man = now.men.get(m);
        if (!man.in() || man.sound == sound) {
            return -2;
        }
        done(with(now, man.sound(sound)));
        return man.sound;
    }

    private int undo() {
        if (past.isEmpty()) {
            return -2;
        }
        now = past.removeLast();
        return past.size();
    }

    /** Of choices with the times that they lead to: the soonest, of several the first told. */
    private static int soonest(Map<Integer, Time> choices, int m, int what) {
        int which = -9;
        int least = -9;
        for (int choice = 8; choice >= 0; choice--) {
            int months = choices.containsKey(choice) ? out(choices.get(choice), m) : -9;
            if (months >= 0 && (least < 0 || months <= least)) {
                which = choice;
                least = months;
            }
        }
        return what == 0 ? which : least;
    }

    private int putsOn(int m, int what) {
        if (!is(m) || what != 0 && what != 1) {
            return -1;
        }
        Inmate man = now.men.get(m);
        Map<Integer, Time> choices = new HashMap<>();
        for (int sound = 0; sound < 5; sound++) {
            choices.put(sound, with(now, man.sound(sound)));
        }
        return man.in() ? soonest(choices, m, what) : -2;
    }

    private int carry(int m, int what) {
        if (!is(m) || what != 0 && what != 1) {
            return -1;
        }
        Inmate man = now.men.get(m);
        Map<Integer, Time> choices = new HashMap<>();
        for (int c = 0; c < cells && man.in(); c++) {
            if (whoIn(now, c) == null || c == man.cell) {
                choices.put(c, with(now, man.cell(c)));
            }
        }
        return man.in() ? soonest(choices, m, what) : -2;
    }

    private Time best() {
        List<Integer> free = new ArrayList<>();
        now.men.stream().filter(Inmate::in).forEach(man -> free.add(man.cell));
        free.sort(null);
        return best(0, free, now);
    }

    private static Time best(int m, List<Integer> free, Time time) {
        if (m == time.men.size()) {
            return time;
        }
        if (!time.men.get(m).in()) {
            return best(m + 1, free, time);
        }
        Time best = null;
        for (Integer c : free) {
            List<Integer> rest = new ArrayList<>(free);
            rest.remove(c);
            Time found = best(m + 1, rest, with(time, time.men.get(m).cell(c)));
            if (best == null || years(pass(found)) < years(pass(best))) {
                best = found;
            }
        }
        return best;
    }

    private int lies(int m) {
        if (!is(m)) {
            return -1;
        }
        return now.men.get(m).in() ? best().men.get(m).cell : -9;
    }

    private int word(int a, int b) {
        if (!is(a) || !is(b) || a == b) {
            return -1;
        }
        int n = now.men.size();
        int[][] far = new int[n][n];
        for (int i = 0; i < n; i++) {
            for (int j = 0; j < n; j++) {
                Inmate p = now.men.get(i);
                Inmate q = now.men.get(j);
                far[i][j] = p.in() && q.in() && Math.abs(p.cell - q.cell) <= loud ? 1 : 100;
            }
        }
        for (int k = 0; k < n; k++) {
            for (int i = 0; i < n; i++) {
                for (int j = 0; j < n; j++) {
                    far[i][j] = Math.min(far[i][j], far[i][k] + far[k][j]);
                }
            }
        }
        return far[a][b] < 100 ? far[a][b] : -9;
    }

    private int odds(int m, int x, int n, int what) {
        if (!is(m) || x < 0 || x > 10 || n < 0 || n > 6 || what != 0 && what != 1) {
            return -1;
        }
        BigInteger upper = odds(now, m, now.men.get(m).sound, x, n);
        BigInteger lower = BigInteger.TEN.pow(n);
        BigInteger shared = upper.gcd(lower);
        return (what == 0 ? upper : lower).divide(shared).intValueExact();
    }

    /** Over 10 to the n. */
    private static BigInteger odds(Time time, int m, int sound, int x, int n) {
        if (n == 0) {
            return time.men.get(m).in() ? BigInteger.ZERO : BigInteger.ONE;
        }
        Inmate man = time.men.get(m);
        BigInteger snoring = odds(pass(with(time, man.sound(1))), m, sound, x, n - 1);
        BigInteger else_ = odds(pass(with(time, man.sound(sound))), m, sound, x, n - 1);
        return snoring.multiply(BigInteger.valueOf(x)).add(else_.multiply(BigInteger.valueOf(10 - x)));
    }

    private int sees(int sound, int v) {
        if (sound < 0 || sound > 4 || v < -3 || v > 4) {
            return -1;
        }
        if (sights.size() == 6) {
            return -3;
        }
        sights.add(new Sight(sound, v));
        return sights.size();
    }

    private List<Integer> hardList() {
        List<Integer> hards = new ArrayList<>(List.of(0, 1, 2, 3));
        hards.removeIf(h -> sights.stream().anyMatch(sight -> put(h, sight.sound) != sight.v));
        return hards;
    }

    private int next() {
        List<Integer> hards = hardList();
        if (hards.size() < 2) {
            return -9;
        }
        int which = -9;
        int least = 99;
        for (int sound = 0; sound < 5; sound++) {
            Map<Integer, Integer> groups = new HashMap<>();
            for (int h : hards) {
                groups.merge(put(h, sound), 1, Integer::sum);
            }
            int greatest = groups.values().stream().max(Integer::compare).get();
            if (greatest < least) {
                least = greatest;
                which = sound;
            }
        }
        return which;
    }

    private int rate(int kind, Inmate man) {
        trace += new int[] {1, 10, 100, 1000, 10000, 100000}[kind];
        switch (kind) {
            case 0: return man.years;
            case 1: return rate(0, man) + man.hard;
            case 2: return rate(0, man) - (man.in() ? man.cell : 0);
            case 3: return rate(1, man) * 2;
            case 4: return rate(2, man) + man.number;
            default: return rate(0, man) + now.month;
        }
    }

    private int keep(int image) {
        if (image != 0 && image != 1) {
            return -1;
        }
        images.put(image, now);
        return now.month;
    }

    private int back(int image) {
        if (image != 0 && image != 1) {
            return -1;
        }
        if (!images.containsKey(image)) {
            return -2;
        }
        now = images.get(image);
        past.clear();
        return now.month;
    }

    private int count(int what) {
        return what < 0 || what > 4 ? -1 : new int[] {cells, now.men.size(), loud, sights.size(), text.length()}[what];
    }
}
