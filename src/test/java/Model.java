import java.math.BigInteger;
import java.util.ArrayList;
import java.util.Arrays;
import java.util.HashSet;
import java.util.List;
import java.util.Set;
import java.util.TreeMap;
import java.util.TreeSet;
import java.util.regex.Matcher;
import java.util.regex.Pattern;

/**
 * The document done in the dullest way, to hold the class against: what is foretold is found by letting the minutes go
 * by until a state comes again, a text is read by regular expressions, and nothing is shared with the class.
 */
final class Model {
    private static final int NONE = Due.NONE, UNKNOWN = Due.UNKNOWN, OUTSIDE = Due.OUTSIDE, NOT = Due.NOT, FULL = Due.FULL;
    private static final List<String> KINDS = List.of("plain", "deaf", "sleepy", "doubter");
    private static final List<String> WEATHERS = List.of("clear", "fog", "frost");
    private static final Pattern TOKEN = Pattern.compile(" *([a-z]+|[0-9]+|[^ ])", Pattern.DOTALL);

    static final class Monk {
        String kind = "plain";
        int delay = 1;
    }

    static final class House {
        final List<Monk> monks = new ArrayList<>();
        final List<Integer> hears = new ArrayList<>();
        final List<Integer> spans = new ArrayList<>();
        String told = "clear";

        House(int n) {
            for (int i = 0; i < n; i++) {
                monks.add(new Monk());
                hears.add(null);
                spans.add(0);
            }
        }

        House copy() {
            House other = new House(monks.size());
            other.told = told;
            for (int i = 0; i < monks.size(); i++) {
                other.monks.get(i).kind = monks.get(i).kind;
                other.monks.get(i).delay = monks.get(i).delay;
                other.hears.set(i, hears.get(i));
                other.spans.set(i, spans.get(i));
            }
            return other;
        }

        int size() {
            return monks.size();
        }
    }

    /** What goes on; also used for what is foretold, from a quiet state. */
    static final class Course {
        final TreeMap<Integer, TreeSet<Integer>> toCome = new TreeMap<>();
        final List<int[]> strikes = new ArrayList<>();
        final int[] heard = new int[10];
        int minute = 0;
        String weather;
        int sleeper = NONE;

        Course(String weather) {
            this.weather = weather;
        }

        Course copy() {
            Course other = new Course(weather);
            toCome.forEach((at, who) -> other.toCome.put(at, new TreeSet<>(who)));
            other.strikes.addAll(strikes);
            System.arraycopy(heard, 0, other.heard, 0, 10);
            other.minute = minute;
            other.sleeper = sleeper;
            return other;
        }

        int strike(House house, int gong) {
            strikes.add(new int[] {minute, gong});
            int bits = 0;
            for (int other = 0; other < house.size(); other++) {
                Integer hears = house.hears.get(other);
                if (other == sleeper || hears == null || hears != gong || !can(house, other, weather)) {
                    continue;
                }
                heard[other]++;
                if (house.monks.get(other).kind.equals("doubter") && heard[other] % 2 == 1) {
                    continue;
                }
                toCome.computeIfAbsent(minute + late(house, other, weather), at -> new TreeSet<>()).add(other);
                bits += 1 << other;
            }
            return bits;
        }

        int pass(House house) {
            minute++;
            TreeSet<Integer> now = toCome.remove(minute);
            if (now == null) {
                return 0;
            }
            now.forEach(gong -> strike(house, gong));
            return now.size();
        }

        String state(House house) {
            StringBuilder all = new StringBuilder();
            toCome.forEach((at, who) -> all.append(at - minute).append(who));
            for (int i = 0; i < house.size(); i++) {
                all.append(heard[i] % 2);
            }
            return all.toString();
        }

        /** Until all is quiet (true), or a state came again (false). */
        boolean settles(House house) {
            Set<String> states = new HashSet<>();
            while (!toCome.isEmpty()) {
                if (!states.add(state(house))) {
                    return false;
                }
                pass(house);
            }
            return true;
        }
    }

    private final List<Integer> text = new ArrayList<>();
    private House house = new House(4);
    private Course course = new Course("clear");
    private final Course[] kept = new Course[2];
    private final List<int[]> seen = new ArrayList<>();
    private House read;
    private int lines;

    static boolean can(House house, int gong, String weather) {
        if (house.hears.get(gong) == null || house.monks.get(gong).kind.equals("deaf")) {
            return false;
        }
        return weather.equals("fog") ? house.spans.get(gong) < 5 : house.spans.get(gong) < 10;
    }

    static int late(House house, int gong, String weather) {
        Monk monk = house.monks.get(gong);
        int times = monk.kind.equals("sleepy") ? 2 : 1;
        return times * monk.delay + (weather.equals("frost") ? 1 : 0);
    }

    private boolean no(int... gongs) {
        return Arrays.stream(gongs).anyMatch(gong -> gong < 0 || gong >= house.size());
    }

    private static boolean out(int value, int least, int most) {
        return value < least || value > most;
    }

    int write(long bytes, int n) {
        if (out(n, 1, 8)) {
            return OUTSIDE;
        }
        if (text.size() + n > 200) {
            return FULL;
        }
        for (int i = 0; i < n; i++) {
            text.add((int) (bytes >>> (8 * i)) & 255);
        }
        return text.size();
    }

    int erase() {
        int had = text.size();
        text.clear();
        return had;
    }

    /** Each line is written down as a row of what may stand; the first that does not fit is the fault. */
    int fault() {
        StringBuilder signs = new StringBuilder();
        text.forEach(value -> signs.append((char) (int) value));
        List<String> tokens = new ArrayList<>();
        List<Integer> places = new ArrayList<>();
        Matcher matcher = TOKEN.matcher(signs);
        while (matcher.find()) {
            tokens.add(matcher.group(1));
            places.add(matcher.start(1));
        }
        tokens.add("");
        places.add(text.size());
        read = house.copy();
        lines = 0;
        int at = 0;
        while (true) {
            String word = tokens.get(at);
            int numbers = numbersBehind(word);
            if (numbers < 0) {
                return places.get(at);
            }
            List<Integer> values = new ArrayList<>();
            for (int i = 0; i < numbers; i++) {
                at++;
                if (!tokens.get(at).matches("[0-9]{1,2}")) {
                    return places.get(at);
                }
                values.add(Integer.parseInt(tokens.get(at)));
                if (!stands(word, values)) {
                    return places.get(at);
                }
            }
            doLine(word, values);
            lines++;
            at++;
            if (tokens.get(at).isEmpty()) {
                return NONE;
            }
            if (!tokens.get(at).equals(";") || lines == 12) {
                return places.get(at);
            }
            at++;
        }
    }

    private static int numbersBehind(String word) {
        if (WEATHERS.contains(word)) {
            return 0;
        }
        if (KINDS.contains(word)) {
            return 2;
        }
        return word.equals("hears") ? 3 : word.equals("cloister") || word.equals("alone") ? 1 : -1;
    }

    private boolean stands(String word, List<Integer> values) {
        int value = values.get(values.size() - 1);
        if (word.equals("cloister")) {
            return !out(value, 2, 10);
        }
        if (values.size() == 1) {
            return value < read.size();
        }
        if (KINDS.contains(word)) {
            return !out(value, 1, 20);
        }
        return values.size() == 2 ? value < read.size() && value != values.get(0) : !out(value, 1, 9);
    }

    private void doLine(String word, List<Integer> values) {
        if (WEATHERS.contains(word)) {
            read.told = word;
        } else if (word.equals("cloister")) {
            read = new House(values.get(0));
        } else if (KINDS.contains(word)) {
            read.monks.get(values.get(0)).kind = word;
            read.monks.get(values.get(0)).delay = values.get(1);
        } else {
            boolean hears = word.equals("hears");
            read.hears.set(values.get(0), hears ? values.get(1) : null);
            read.spans.set(values.get(0), hears ? values.get(2) : 0);
        }
    }

    int cloister() {
        if (fault() != NONE) {
            return NOT;
        }
        house = read;
        text.clear();
        course = new Course(house.told);
        kept[0] = null;
        kept[1] = null;
        seen.clear();
        return lines;
    }

    int gong(int gong, int what) {
        if (no(gong)) {
            return UNKNOWN;
        }
        switch (what) {
            case 0: return house.hears.get(gong) == null ? NONE : house.hears.get(gong);
            case 1: return house.spans.get(gong);
            case 2: return can(house, gong, course.weather) ? 1 : 0;
            case 3: return (int) course.strikes.stream().filter(strike -> strike[1] == gong).count();
            case 4: return course.toCome.entrySet().stream().filter(e -> e.getValue().contains(gong))
                    .mapToInt(e -> e.getKey() - course.minute).min().orElse(NONE);
            default: return OUTSIDE;
        }
    }

    int monk(int gong, int what) {
        if (no(gong)) {
            return UNKNOWN;
        }
        Monk monk = house.monks.get(gong);
        switch (what) {
            case 0: return KINDS.indexOf(monk.kind);
            case 1: return monk.delay;
            case 2: return late(house, gong, course.weather);
            case 3: return monk.kind.equals("doubter") ? course.heard[gong] % 2 : 0;
            default: return OUTSIDE;
        }
    }

    int as(int gong, int kind) {
        if (no(gong)) {
            return UNKNOWN;
        }
        if (out(kind, 0, 4)) {
            return OUTSIDE;
        }
        String own = house.monks.get(gong).kind;
        boolean such = kind == 0 || kind == 1 && !own.equals("deaf") || kind > 1 && own.equals(KINDS.get(kind - 1));
        return such ? late(house, gong, course.weather) : NOT;
    }

    int strike(int gong) {
        return no(gong) ? UNKNOWN : course.strike(house, gong);
    }

    int go(int n) {
        if (out(n, 1, 99)) {
            return OUTSIDE;
        }
        if (course.minute + n > 99999) {
            return FULL;
        }
        int strikes = 0;
        for (int i = 0; i < n; i++) {
            strikes += course.pass(house);
        }
        return strikes;
    }

    int turn(int weather) {
        if (out(weather, 0, 2)) {
            return OUTSIDE;
        }
        int was = WEATHERS.indexOf(course.weather);
        course.weather = WEATHERS.get(weather);
        return was;
    }

    int keep(int k) {
        if (out(k, 0, 1)) {
            return UNKNOWN;
        }
        kept[k] = course.copy();
        return course.minute;
    }

    int back(int k) {
        if (out(k, 0, 1)) {
            return UNKNOWN;
        }
        if (kept[k] == null) {
            return NOT;
        }
        course = kept[k].copy();
        return course.minute;
    }

    private Course struck(House then, int from, int sleeper) {
        Course quiet = new Course(course.weather);
        quiet.sleeper = sleeper;
        quiet.strike(then, from);
        return quiet;
    }

    private int[] firsts(House then, int from, int sleeper) {
        Course foretold = struck(then, from, sleeper);
        foretold.settles(then);
        int[] firsts = new int[then.size()];
        Arrays.fill(firsts, NONE);
        for (int[] strike : foretold.strikes) {
            if (firsts[strike[1]] == NONE) {
                firsts[strike[1]] = strike[0];
            }
        }
        return firsts;
    }

    private int who(House then, int from, int sleeper) {
        int[] firsts = firsts(then, from, sleeper);
        int bits = 0;
        for (int gong = 0; gong < firsts.length; gong++) {
            bits += firsts[gong] == NONE ? 0 : 1 << gong;
        }
        return bits;
    }

    int first(int from, int gong) {
        return no(from, gong) ? UNKNOWN : firsts(house, from, NONE)[gong];
    }

    int who(int from) {
        return no(from) ? UNKNOWN : who(house, from, NONE);
    }

    int ends(int from) {
        if (no(from)) {
            return UNKNOWN;
        }
        Course foretold = struck(house, from, NONE);
        return foretold.settles(house) ? foretold.strikes.get(foretold.strikes.size() - 1)[0] : NONE;
    }

    /** Of a ring without doubters: when the one that is struck strikes the second time. */
    int round(int gong) {
        if (no(gong)) {
            return UNKNOWN;
        }
        Course foretold = struck(house, gong, NONE);
        foretold.settles(house);
        return foretold.strikes.stream().filter(strike -> strike[1] == gong && strike[0] > 0)
                .mapToInt(strike -> strike[0]).min().orElse(NONE);
    }

    int times(int from, int gong, int m) {
        if (no(from, gong)) {
            return UNKNOWN;
        }
        if (out(m, 1, 64)) {
            return OUTSIDE;
        }
        Course foretold = new Course(course.weather);
        for (int i = 0; i < m; i++) {
            foretold.strike(house, from);
            if (!foretold.settles(house)) {
                return NONE;
            }
        }
        return (int) foretold.strikes.stream().filter(strike -> strike[1] == gong).count();
    }

    private int apart(House then, int from, int a, int b) {
        int[] firsts = firsts(then, from, NONE);
        return firsts[a] == NONE || firsts[b] == NONE ? NONE : Math.abs(firsts[a] - firsts[b]);
    }

    int apart(int from, int a, int b) {
        return no(from, a, b) ? UNKNOWN : apart(house, from, a, b);
    }

    int change(int from, int a, int b, int what) {
        if (no(from, a, b)) {
            return UNKNOWN;
        }
        if (out(what, 0, 2)) {
            return OUTSIDE;
        }
        int now = apart(house, from, a, b);
        int[] best = null;
        for (int i = 0; i < house.size(); i++) {
            for (int j = i + 1; j < house.size(); j++) {
                House then = house.copy();
                then.monks.set(i, house.monks.get(j));
                then.monks.set(j, house.monks.get(i));
                int apart = apart(then, from, a, b);
                boolean better = apart != NONE && (now == NONE || apart < now);
                if (better && (best == null || apart < best[0])) {
                    best = new int[] {apart, i, j};
                }
            }
        }
        return best == null ? NONE : best[what];
    }

    int over(int from, int what) {
        if (no(from)) {
            return UNKNOWN;
        }
        if (out(what, 0, 1)) {
            return OUTSIDE;
        }
        int now = Integer.bitCount(who(house, from, NONE));
        int[] best = null;
        for (int deaf = 0; deaf < house.size(); deaf++) {
            if (!house.monks.get(deaf).kind.equals("deaf") || house.hears.get(deaf) == null) {
                continue;
            }
            House then = house.copy();
            for (int gong = 0; gong < house.size(); gong++) {
                Integer hears = house.hears.get(gong);
                if (hears != null && hears == deaf && house.hears.get(deaf) != gong) {
                    then.hears.set(gong, house.hears.get(deaf));
                    then.spans.set(gong, house.spans.get(gong) + house.spans.get(deaf));
                }
            }
            int many = Integer.bitCount(who(then, from, NONE));
            if (many > now && (best == null || many > best[1])) {
                best = new int[] {deaf, many};
            }
        }
        return best == null ? NONE : best[what];
    }

    int odds(int from, int gong, int p, int part) {
        if (no(from, gong)) {
            return UNKNOWN;
        }
        if (out(p, 0, 10) || out(part, 0, 1)) {
            return OUTSIDE;
        }
        BigInteger above = BigInteger.ONE;
        BigInteger below = BigInteger.ONE;
        if (firsts(house, from, NONE)[gong] == NONE) {
            above = BigInteger.ZERO;
        } else {
            for (int at = gong; at != from; at = house.hears.get(at)) {
                above = above.multiply(BigInteger.valueOf(10 - p));
                below = below.multiply(BigInteger.TEN);
            }
        }
        BigInteger common = above.gcd(below);
        return (part == 0 ? above : below).divide(common).intValueExact();
    }

    int seen(int gong, int struck) {
        if (no(gong)) {
            return UNKNOWN;
        }
        if (out(struck, 0, 1)) {
            return OUTSIDE;
        }
        if (seen.size() == 8) {
            return FULL;
        }
        seen.add(new int[] {gong, struck});
        return seen.size();
    }

    int forget() {
        int had = seen.size();
        seen.clear();
        return had;
    }

    private boolean isSo(int who) {
        return seen.stream().allMatch(one -> (who >> one[0]) % 2 == one[1]);
    }

    int asleep(int from, int what) {
        if (no(from)) {
            return UNKNOWN;
        }
        if (out(what, 0, 1)) {
            return OUTSIDE;
        }
        if (what == 1) {
            return isSo(who(house, from, NONE)) ? 1 : 0;
        }
        int bits = 0;
        for (int monk = 0; monk < house.size(); monk++) {
            bits += monk != from && isSo(who(house, from, monk)) ? 1 << monk : 0;
        }
        return bits;
    }

    int count(int what) {
        switch (what) {
            case 0: return house.size();
            case 1: return WEATHERS.indexOf(course.weather);
            case 2: return course.minute;
            case 3: return course.toCome.values().stream().flatMap(Set::stream).distinct().mapToInt(gong -> 1 << gong).sum();
            case 4: return course.strikes.size();
            case 5: return seen.size();
            case 6: return text.size();
            default: return OUTSIDE;
        }
    }
}
