import java.math.BigInteger;
import java.util.ArrayList;
import java.util.Arrays;
import java.util.Collections;
import java.util.HashMap;
import java.util.HashSet;
import java.util.List;
import java.util.Map;
import java.util.Set;
import java.util.function.IntPredicate;
import java.util.regex.Matcher;
import java.util.regex.Pattern;
import java.util.stream.IntStream;

/**
 * The document told a second time, slowly and from other ends (orders one by one, nights of FOG one by one,
 * a grammar of patterns), so that the program can be compared with it call by call.
 */
public final class Model {
    record Token(String text, int place) { }

    record Act(boolean turn, int who, int hour) { }

    record Sending(int hour, int walker, int post, int road, int goal, boolean refused) { }

    static final class Told {
        int hours;
        int law;
        int odds;
        int lines;
        int armLines;
        List<Integer> rooms = new ArrayList<>();
        List<List<Integer>> posts = new ArrayList<>();
        Map<Integer, Integer> arms = new HashMap<>();
        List<int[]> walkers = new ArrayList<>();

        int roads() {
            return posts.stream().mapToInt(List::size).sum();
        }

        Told copy() {
            Told t = new Told();
            t.hours = hours;
            t.law = law;
            t.odds = odds;
            t.lines = lines;
            t.armLines = armLines;
            t.rooms = new ArrayList<>(rooms);
            t.posts = posts;
            t.arms = arms;
            t.walkers = walkers;
            return t;
        }
    }

    /** What may be otherwise in a night. */
    static final class What {
        int law;
        int[] arms;
        int[] comes;
        Set<Integer> stiff = new HashSet<>();
        Set<Integer> fog = new HashSet<>();
    }

    static final class Story {
        int[][] at;
        int[][] arm;
        List<Sending> sendings = new ArrayList<>();
    }

    private List<Integer> tape = new ArrayList<>();
    private int fault = 0;
    private int faultPlace = -1;
    private Told told = null;
    private List<Act> acts = new ArrayList<>();
    private final Told[] imageTold = new Told[3];
    private final List<List<Act>> imageActs = new ArrayList<>(Arrays.asList(null, null, null));
    private final List<List<BigInteger>> rows = new ArrayList<>(Arrays.asList(null, null, null, null));
    private final int[] widths = new int[4];

    // reading

    private static final class Fault extends RuntimeException {
        private static final long serialVersionUID = 1;
        final int kind;
        final int place;

        Fault(int kind, int place) {
            this.kind = kind;
            this.place = place;
        }
    }

    private Told parse() {
        StringBuilder text = new StringBuilder();
        for (int b : tape) {
            text.append((char) b);
        }
        List<Token> tokens = new ArrayList<>();
        Matcher m = Pattern.compile("[a-z]+|[0-9]+|;|[^ \\n]", Pattern.DOTALL).matcher(text);
        while (m.find()) {
            tokens.add(new Token(m.group(), m.start()));
        }
        tokens.add(new Token("", text.length()));
        Told t = new Told();
        int i = 0;
        while (tokens.get(i).place() < text.length()) {
            i = parseLine(tokens, i, t);
            t.lines++;
        }
        return t.lines == 0 ? null : t;
    }

    private static int parseLine(List<Token> tokens, int first, Told t) {
        Token word = tokens.get(first);
        if (word.text().equals("heath") != (t.lines == 0)) {
            throw new Fault(1, word.place());
        }
        Map<String, String> forms = Map.of("heath", "heath hours # law # odds # ;", "inn", "inn room # ;",
            "post", "post ;", "arm", "arm # # ;", "walker", "walker # at # ;", "road", "road # to|in # ;");
        String form = forms.get(word.text());
        if (form == null) {
            throw new Fault(1, word.place());
        }
        Map<String, Integer> had = Map.of("heath", 0, "inn", t.rooms.size(), "post", t.posts.size(),
            "road", t.roads(), "arm", t.armLines, "walker", t.walkers.size());
        Map<String, Integer> most = Map.of("heath", 1, "inn", 4, "post", 7, "road", 16, "arm", 8, "walker", 8);
        if (had.get(word.text()) >= most.get(word.text())) {
            throw new Fault(3, word.place());
        }
        List<Integer> numbers = new ArrayList<>();
        String kind = word.text();
        int i = first;
        for (String part : form.split(" ")) {
            Token token = tokens.get(i++);
            if (part.equals("#")) {
                if (!token.text().matches("[0-9]+")) {
                    throw new Fault(1, token.place());
                }
                BigInteger big = new BigInteger(token.text());
                int n = big.bitLength() > 20 ? 999999 : big.intValue();
                checkNumber(t, kind, numbers, n, token.place());
                numbers.add(n);
            } else if (!List.of(part.split("\\|")).contains(token.text())) {
                throw new Fault(1, token.place());
            } else if (part.contains("|")) {
                kind = "road " + token.text();
            }
        }
        enter(t, kind, numbers);
        return i;
    }

    private static void checkNumber(Told t, String kind, List<Integer> ahead, int n, int place) {
        int nth = ahead.size();
        boolean fits;
        int posts = t.posts.size();
        switch (kind) {
            case "heath": fits = nth == 0 ? n >= 1 && n <= 16 : nth == 1 ? n <= 3 : n <= 10; break;
            case "inn": fits = n <= 9; break;
            case "walker": fits = nth == 0 ? n < posts : n <= 15; break;
            case "arm": fits = nth == 0 ? n < posts : n < t.posts.get(ahead.get(0)).size(); break;
            case "road in": fits = n < t.rooms.size(); break;
            case "road to": fits = n < posts && n != ahead.get(0); break;
            default: fits = n < posts; break;
        }
        if (!fits) {
            throw new Fault(2, place);
        }
        if (kind.equals("road") && t.posts.get(n).size() == 4) {
            throw new Fault(3, place);
        }
    }

    private static void enter(Told t, String kind, List<Integer> n) {
        switch (kind) {
            case "heath": t.hours = n.get(0); t.law = n.get(1); t.odds = n.get(2); break;
            case "inn": t.rooms.add(n.get(0)); break;
            case "post": t.posts.add(new ArrayList<>()); break;
            case "arm": t.arms.put(n.get(0), n.get(1)); t.armLines++; break;
            case "walker": t.walkers.add(new int[] {n.get(0), n.get(1)}); break;
            case "road in": t.posts.get(n.get(0)).add(10 + n.get(1)); break;
            default: t.posts.get(n.get(0)).add(n.get(1)); break;
        }
    }

    public int feed(int a, int b, int c, int d, int e) {
        if (tape.size() + 20 > 800) {
            return -1;
        }
        for (int v : new int[] {a, b, c, d, e}) {
            for (int k = 3; k >= 0; k--) {
                tape.add(v >>> 8 * k & 255);
            }
        }
        return tape.size();
    }

    public int end(int n) {
        if (n < 0 || n > tape.size()) {
            return -1;
        }
        tape = new ArrayList<>(tape.subList(0, n));
        return n;
    }

    public int heath() {
        fault = 0;
        faultPlace = -1;
        try {
            told = parse();
        } catch (Fault f) {
            fault = f.kind;
            faultPlace = f.place;
            return -4;
        }
        tape.clear();
        acts.clear();
        return told == null ? 0 : told.lines;
    }

    public int fault(int what) {
        return what == 0 ? fault : what == 1 ? faultPlace : -1;
    }

    // nights

    private What asTold() {
        What w = new What();
        w.law = told.law;
        w.arms = toldArms();
        w.comes = told.walkers.stream().mapToInt(x -> x[1]).toArray();
        return w;
    }

    private int[] toldArms() {
        return IntStream.range(0, told.posts.size()).map(p -> told.arms.getOrDefault(p, 0)).toArray();
    }

    private int turned(int law, int post, int[] arms) {
        int n = told.posts.get(post).size();
        int stands = arms[post];
        int by = law == 1 ? (stands + 1) % n : stands;
        boolean toPost = told.posts.get(post).get(by) < 10;
        int turn = law == 2 ? n - 1 : law == 3 && !toPost ? 0 : 1;
        arms[post] = (stands + turn) % n;
        return by;
    }

    private Story story(What w) {
        int walkers = told.walkers.size();
        int posts = told.posts.size();
        Story s = new Story();
        s.at = new int[told.hours + 1][walkers];
        s.arm = new int[told.hours + 1][];
        int[] arms = w.arms.clone();
        int[] at = new int[walkers];
        Arrays.fill(at, -1);
        for (int hour = 0; hour <= told.hours; hour++) {
            for (int v = 0; v < walkers; v++) {
                if (w.comes[v] == hour) {
                    at[v] = told.walkers.get(v)[0];
                }
            }
            s.at[hour] = at.clone();
            s.arm[hour] = arms.clone();
            for (Act act : acts) {
                if (act.turn() && act.hour() == hour && !told.posts.get(act.who()).isEmpty()) {
                    arms[act.who()] = (arms[act.who()] + 1) % told.posts.get(act.who()).size();
                }
            }
            if (hour == told.hours || w.fog.contains(hour)) {
                continue;
            }
            for (int v = 0; v < walkers; v++) {
                int here = at[v];
                if (here < 0 || here >= posts || told.posts.get(here).isEmpty()
                    || acts.contains(new Act(false, v, hour))) {
                    continue;
                }
                int road = w.stiff.contains(here) ? arms[here] : turned(w.law, here, arms);
                int goal = told.posts.get(here).get(road);
                boolean refused = goal >= 10
                    && Arrays.stream(at).filter(p -> p == goal).count() >= told.rooms.get(goal - 10);
                s.sendings.add(new Sending(hour, v, here, road, goal, refused));
                at[v] = refused ? here : goal;
            }
        }
        return s;
    }

    private Story now() {
        return story(asTold());
    }

    private int lastInside(Story s) {
        return bits(told.walkers.size(), v -> s.at[told.hours][v] >= 10);
    }

    private static int bits(int n, IntPredicate test) {
        int found = 0;
        for (int i = 0; i < n; i++) {
            found |= test.test(i) ? 1 << i : 0;
        }
        return found;
    }

    private static int first(int from, int to, IntPredicate test) {
        return IntStream.rangeClosed(from, to).filter(test).findFirst().orElse(-1);
    }

    private boolean none() {
        return told == null;
    }

    private boolean post(int p) {
        return !none() && p >= 0 && p < told.posts.size();
    }

    private boolean isInn(int i) {
        return !none() && i >= 0 && i < told.rooms.size();
    }

    private boolean isWalker(int w) {
        return !none() && w >= 0 && w < told.walkers.size();
    }

    private boolean hour(int h) {
        return !none() && h >= 0 && h <= told.hours;
    }

    private boolean early(int h) {
        return hour(h) && h != told.hours;
    }

    private boolean place(int p) {
        return post(p) || p >= 10 && isInn(p - 10);
    }

    public int room(int inn) {
        return isInn(inn) ? told.rooms.get(inn) : -2;
    }

    public int roads(int post) {
        return post(post) ? told.posts.get(post).size() : -2;
    }

    public int goes(int post, int road) {
        if (!post(post) || road < 0) {
            return -2;
        }
        List<Integer> roads = told.posts.get(post);
        return road < roads.size() ? roads.get(road) : -1;
    }

    public int told(int post) {
        return !post(post) ? -2 : told.posts.get(post).isEmpty() ? -1 : told.arms.getOrDefault(post, 0);
    }

    public int walker(int walker, int what) {
        return isWalker(walker) && (what == 0 || what == 1) ? told.walkers.get(walker)[what] : -2;
    }

    public int at(int walker, int hour) {
        return isWalker(walker) && hour(hour) ? now().at[hour][walker] : -2;
    }

    public int arm(int post, int hour) {
        return !post(post) || !hour(hour) ? -2 : told.posts.get(post).isEmpty() ? -1 : now().arm[hour][post];
    }

    public int here(int place, int hour) {
        if (!place(place) || !hour(hour)) {
            return -2;
        }
        Story s = now();
        return bits(told.walkers.size(), v -> s.at[hour][v] == place);
    }

    public int sent(int hour) {
        if (!early(hour)) {
            return -2;
        }
        int found = 0;
        for (Sending x : now().sendings) {
            found |= x.hour() == hour ? 1 << x.walker() : 0;
        }
        return found;
    }

    public int sends(int post) {
        return post(post) ? (int) now().sendings.stream().filter(x -> x.post() == post).count() : -2;
    }

    public int used(int post, int road) {
        if (!post(post) || road < 0) {
            return -2;
        }
        return road >= told.posts.get(post).size() ? -1
            : (int) now().sendings.stream().filter(x -> x.post() == post && x.road() == road).count();
    }

    public int walks(int walker) {
        return isWalker(walker) ? (int) now().sendings.stream().filter(x -> x.walker() == walker).count() : -2;
    }

    private int homeHour(Story s, int walker) {
        return first(0, told.hours, h -> s.at[h][walker] >= 10);
    }

    public int home(int walker) {
        return isWalker(walker) ? homeHour(now(), walker) : -2;
    }

    public int inn(int walker) {
        if (!isWalker(walker)) {
            return -2;
        }
        return Math.max(-1, now().at[told.hours][walker] - 10);
    }

    public int trail(int walker) {
        if (!isWalker(walker)) {
            return -2;
        }
        Set<Integer> been = new HashSet<>();
        for (int[] at : now().at) {
            been.add(at[walker]);
        }
        return bits(7, been::contains);
    }

    public int again(int walker) {
        if (!isWalker(walker)) {
            return -2;
        }
        Story s = now();
        int times = 0;
        for (int h = 1; h <= told.hours; h++) {
            int p = s.at[h][walker];
            boolean earlier = first(0, h - 1, e -> s.at[e][walker] == p) >= 0;
            if (p >= 0 && p < 10 && earlier && s.at[h - 1][walker] != p) {
                times++;
            }
        }
        return times;
    }

    public int lingers(int walker) {
        if (!isWalker(walker)) {
            return -2;
        }
        Story s = now();
        return (int) IntStream.rangeClosed(1, told.hours)
            .filter(h -> post(s.at[h][walker]) && s.at[h][walker] == s.at[h - 1][walker]).count();
    }

    public int doors(int post) {
        return post(post) ? bits(4, i -> told.posts.get(post).contains(10 + i)) : -2;
    }

    public int guests(int inn, int hour) {
        return isInn(inn) && hour(hour) ? Integer.bitCount(here(10 + inn, hour)) : -2;
    }

    public int full(int inn) {
        return isInn(inn) ? first(0, told.hours, h -> guests(inn, h) == told.rooms.get(inn)) : -2;
    }

    public int refuses(int inn) {
        return isInn(inn)
            ? (int) now().sendings.stream().filter(x -> x.refused() && x.goal() == 10 + inn).count() : -2;
    }

    public int inside(int hour) {
        if (!hour(hour)) {
            return -2;
        }
        Story s = now();
        return bits(told.walkers.size(), v -> s.at[hour][v] >= 10);
    }

    public int outside(int hour) {
        if (!hour(hour)) {
            return -2;
        }
        Story s = now();
        return bits(told.walkers.size(), v -> post(s.at[hour][v]));
    }

    public int done() {
        if (none()) {
            return -2;
        }
        Story s = now();
        return told.walkers.isEmpty() ? -1
            : first(0, told.hours, h -> Arrays.stream(s.at[h]).allMatch(p -> p >= 10));
    }

    public int crowd(int hour) {
        return hour(hour) ? IntStream.range(0, told.posts.size())
            .map(p -> Integer.bitCount(here(p, hour))).max().orElse(0) : -2;
    }

    public int armless() {
        return none() ? -2 : bits(told.posts.size(), p -> told.posts.get(p).isEmpty());
    }

    public int meet(int walker, int other) {
        if (!isWalker(walker) || !isWalker(other) || walker == other) {
            return -2;
        }
        Story s = now();
        return first(0, told.hours, h -> s.at[h][walker] >= 0 && s.at[h][walker] == s.at[h][other]);
    }

    public int busy() {
        if (none()) {
            return -2;
        }
        int found = -1;
        for (int p = told.posts.size() - 1; p >= 0; p--) {
            found = found < 0 || sends(p) >= sends(found) ? p : found;
        }
        return found;
    }

    public int idle() {
        return none() ? -2 : bits(told.posts.size(), p -> sends(p) == 0);
    }

    public int reach(int post) {
        return post(post) ? bits(14, p -> place(p) && far(post, p) >= 0) : -2;
    }

    public int far(int post, int place) {
        if (!post(post) || !place(place)) {
            return -2;
        }
        int[] far = new int[14];
        Arrays.fill(far, 99);
        far[post] = 0;
        for (int again = 0; again < 20; again++) {
            for (int p = 0; p < told.posts.size(); p++) {
                for (int goal : told.posts.get(p)) {
                    far[goal] = Math.min(far[goal], far[p] + 1);
                }
            }
        }
        return far[place] >= 99 ? -1 : far[place];
    }

    // settings

    private int number(int[] arms) {
        int number = 0;
        for (int p = told.posts.size() - 1; p >= 0; p--) {
            int n = told.posts.get(p).size();
            number = n == 0 ? number : number * n + arms[p];
        }
        return number;
    }

    private List<int[]> allArms() {
        List<int[]> all = new ArrayList<>(List.of(new int[told.posts.size()]));
        for (int p = 0; p < told.posts.size(); p++) {
            List<int[]> more = new ArrayList<>();
            for (int[] arms : all) {
                for (int r = 0; r < Math.max(1, told.posts.get(p).size()); r++) {
                    int[] next = arms.clone();
                    next[p] = r;
                    more.add(next);
                }
            }
            all = more;
        }
        return all;
    }

    public int setting(int hour) {
        return hour(hour) ? number(now().arm[hour]) : -2;
    }

    public int settings() {
        return none() ? -2 : allArms().size();
    }

    public int same() {
        if (none()) {
            return -2;
        }
        Story s = now();
        return first(1, told.hours, h -> number(s.arm[h]) == number(s.arm[0]));
    }

    /** Who is taken in where, the n of them: null behind one who never is. The arms are left as they stand. */
    private List<Integer> sendAlone(int post, int n, int[] arms, int[] steps) {
        List<Integer> takers = new ArrayList<>();
        for (int i = 0; i < n; i++) {
            int place = post;
            steps[0] = 0;
            while (place < 10) {
                if (told.posts.get(place).isEmpty() || steps[0] == 600) {
                    return null;
                }
                place = told.posts.get(place).get(turned(told.law, place, arms));
                steps[0]++;
            }
            takers.add(place - 10);
        }
        return takers;
    }

    public int alone(int post) {
        return nth(post, 1);
    }

    public int steps(int post) {
        if (!post(post)) {
            return -2;
        }
        int[] steps = new int[1];
        return sendAlone(post, 1, toldArms(), steps) == null ? -1 : steps[0];
    }

    public int behind(int post) {
        if (!post(post)) {
            return -2;
        }
        int[] arms = toldArms();
        return sendAlone(post, 1, arms, new int[1]) == null ? -1 : number(arms);
    }

    public int nth(int post, int n) {
        if (!post(post) || n < 1 || n > 20) {
            return -2;
        }
        List<Integer> takers = sendAlone(post, n, toldArms(), new int[1]);
        return takers == null ? -1 : takers.get(n - 1);
    }

    public int round(int post) {
        if (!post(post)) {
            return -2;
        }
        for (int n = 1; n <= 60; n++) {
            int[] arms = toldArms();
            if (sendAlone(post, n, arms, new int[1]) == null) {
                return -1;
            }
            if (number(arms) == number(toldArms())) {
                return n;
            }
        }
        return -1;
    }

    public int houses(int post, int n, int inn) {
        if (!post(post) || n < 1 || n > 20 || !isInn(inn)) {
            return -2;
        }
        List<Integer> takers = sendAlone(post, n, toldArms(), new int[1]);
        return takers == null ? -1 : Collections.frequency(takers, inn);
    }

    /** The PLACES one comes to from a POST by arms alone, in order, till an end or a PLACE come again. */
    private List<Integer> path(int post, int[] arms) {
        List<Integer> path = new ArrayList<>();
        int place = post;
        while (place < 10 && !told.posts.get(place).isEmpty() && !path.contains(place)) {
            path.add(place);
            place = told.posts.get(place).get(arms[place]);
        }
        path.add(place);
        return path;
    }

    private boolean isTree(int[] arms) {
        return IntStream.range(0, told.posts.size()).filter(p -> !told.posts.get(p).isEmpty())
            .allMatch(p -> path(p, arms).get(path(p, arms).size() - 1) >= 10);
    }

    public int tree(int hour) {
        return hour(hour) ? isTree(now().arm[hour]) ? 1 : 0 : -2;
    }

    public int ring(int hour) {
        if (!hour(hour)) {
            return -2;
        }
        int[] arms = now().arm[hour];
        return bits(told.posts.size(), p -> path(p, arms).lastIndexOf(p) > 0);
    }

    public int trees() {
        if (none()) {
            return -2;
        }
        return allArms().size() > 4096 ? -3 : (int) allArms().stream().filter(this::isTree).count();
    }

    // as it would be

    private Story pointed(int post, int road) {
        What w = asTold();
        w.arms[post] = road;
        return story(w);
    }

    public int point(int walker, int inn) {
        if (!isWalker(walker) || !isInn(inn)) {
            return -2;
        }
        Story s = now();
        int soonest = first(0, told.hours, h -> s.at[h][walker] == 10 + inn);
        soonest = soonest < 0 ? 99 : soonest;
        int found = -1;
        for (int p = 0; p < told.posts.size(); p++) {
            for (int r = 0; r < told.posts.get(p).size(); r++) {
                Story t = pointed(p, r);
                int hour = first(0, told.hours, h -> t.at[h][walker] == 10 + inn);
                if (hour >= 0 && hour < soonest) {
                    soonest = hour;
                    found = 10 * p + r;
                }
            }
        }
        return found;
    }

    public int best() {
        if (none()) {
            return -2;
        }
        int most = Integer.bitCount(lastInside(now()));
        int found = -1;
        for (int p = 0; p < told.posts.size(); p++) {
            for (int r = 0; r < told.posts.get(p).size(); r++) {
                int inside = Integer.bitCount(lastInside(pointed(p, r)));
                if (inside > most) {
                    most = inside;
                    found = 10 * p + r;
                }
            }
        }
        return found;
    }

    public int crowds() {
        if (none()) {
            return -2;
        }
        Map<Integer, Integer> gainers = new HashMap<>();
        for (int v = 0; v < told.walkers.size(); v++) {
            What w = asTold();
            w.comes[v] = 99;
            int without = Integer.bitCount(lastInside(story(w)));
            int is = Integer.bitCount(lastInside(now()) & ~(1 << v));
            if (without > is) {
                gainers.put(v, without);
            }
        }
        int most = gainers.values().stream().mapToInt(x -> x).max().orElse(-1);
        return gainers.keySet().stream().filter(v -> gainers.get(v) == most).mapToInt(x -> x).min().orElse(-1);
    }

    private static boolean slot(int slot) {
        return slot >= 0 && slot <= 3;
    }

    private int seen(int slot, boolean rest) {
        if (!slot(slot) || !rest) {
            return -2;
        }
        List<BigInteger> row = rows.get(slot);
        if (row == null) {
            return -6;
        }
        if (row.size() % 3 != 0) {
            return -2;
        }
        for (int i = 0; i < row.size(); i += 3) {
            for (int k = 0; k < 3; k++) {
                if (row.get(i + k).bitLength() > 30) {
                    return -2;
                }
            }
            int p = row.get(i + 2).intValue();
            if (!isWalker(row.get(i).intValue()) || !hour(row.get(i + 1).intValue()) || p != -1 && !place(p)) {
                return -2;
            }
        }
        return 0;
    }

    private boolean tells(int slot, Story s) {
        List<BigInteger> row = rows.get(slot);
        for (int i = 0; i < row.size(); i += 3) {
            if (s.at[row.get(i + 1).intValue()][row.get(i).intValue()] != row.get(i + 2).intValue()) {
                return false;
            }
        }
        return true;
    }

    public int may(int slot, int post) {
        int no = seen(slot, post(post));
        return no != 0 ? no : bits(told.posts.get(post).size(), r -> tells(slot, pointed(post, r)));
    }

    private int[] question(int slot, int post) {
        List<Story> left = IntStream.range(0, told.posts.get(post).size()).mapToObj(r -> pointed(post, r))
            .filter(s -> tells(slot, s)).toList();
        int[] found = {-1, left.size()};
        for (int v = 0; v < told.walkers.size(); v++) {
            for (int h = 0; h <= told.hours; h++) {
                Map<Integer, Integer> answers = new HashMap<>();
                for (Story s : left) {
                    answers.merge(s.at[h][v], 1, Integer::sum);
                }
                int worst = answers.values().stream().mapToInt(x -> x).max().orElse(0);
                if (worst < found[1]) {
                    found = new int[] {100 * v + h, worst};
                }
            }
        }
        return found;
    }

    public int ask(int slot, int post) {
        int no = seen(slot, post(post));
        return no != 0 ? no : question(slot, post)[0];
    }

    public int leaves(int slot, int post) {
        int no = seen(slot, post(post));
        return no != 0 ? no : question(slot, post)[1];
    }

    private Story byLaw(int law) {
        What w = asTold();
        w.law = law;
        return story(w);
    }

    public int laws(int slot) {
        int no = seen(slot, !none());
        return no != 0 ? no : bits(4, law -> tells(slot, byLaw(law)));
    }

    public int by(int law) {
        return none() || law < 0 || law > 3 ? -2 : lastInside(byLaw(law));
    }

    public int law() {
        if (none()) {
            return -2;
        }
        int found = 3;
        for (int law = 2; law >= 0; law--) {
            found = Integer.bitCount(by(law)) >= Integer.bitCount(by(found)) ? law : found;
        }
        return found;
    }

    private int value(Set<Integer> set) {
        What w = asTold();
        for (int p = 0; p < told.posts.size(); p++) {
            if (!set.contains(p)) {
                w.stiff.add(p);
            }
        }
        return Integer.bitCount(lastInside(story(w)));
    }

    private static Set<Integer> setOf(int bits) {
        Set<Integer> set = new HashSet<>();
        IntStream.range(0, 31).filter(i -> (bits >> i & 1) != 0).forEach(set::add);
        return set;
    }

    public int worth(int set) {
        if (none() || set < 0 || setOf(set).stream().anyMatch(p -> p >= told.posts.size())) {
            return -2;
        }
        return value(setOf(set));
    }

    private long orders = 0;
    private long more = 0;

    private void eachOrder(int post, int ahead, Map<Integer, Integer> values, Integer mine) {
        if (Integer.bitCount(ahead) == told.posts.size()) {
            orders++;
            more += mine;
            return;
        }
        for (int p = 0; p < told.posts.size(); p++) {
            if ((ahead >> p & 1) == 0) {
                int with = ahead | 1 << p;
                eachOrder(post, with, values, p == post ? values.get(with) - values.get(ahead) : mine);
            }
        }
    }

    public int share(int post, int what) {
        if (!post(post) || what < 0 || what > 1) {
            return -1000;
        }
        Map<Integer, Integer> values = new HashMap<>();
        for (int set = 0; set < 1 << told.posts.size(); set++) {
            values.put(set, value(setOf(set)));
        }
        orders = 0;
        more = 0;
        eachOrder(post, 0, values, 0);
        return (int) lowest(BigInteger.valueOf(more), BigInteger.valueOf(orders), what);
    }

    private static long lowest(BigInteger above, BigInteger below, int what) {
        BigInteger gcd = above.gcd(below);
        return (what == 0 ? above : below).divide(gcd).longValueExact();
    }

    private int gain(int walker, int other, int x, int y) {
        What w = asTold();
        w.comes[walker] += x;
        w.comes[other] += y;
        int home = homeHour(story(w), walker);
        return (home < 0 ? 0 : 20 - home) - (x == 1 ? 1 : 0);
    }

    public int rests(int walker, int other) {
        if (!isWalker(walker) || !isWalker(other) || walker == other) {
            return -2;
        }
        int found = 0;
        int[][] pairs = {{0, 0, 1}, {1, 0, 2}, {0, 1, 4}, {1, 1, 8}};
        for (int[] p : pairs) {
            boolean better = gain(walker, other, 1 - p[0], p[1]) > gain(walker, other, p[0], p[1])
                || gain(other, walker, 1 - p[1], p[0]) > gain(other, walker, p[1], p[0]);
            found += better ? 0 : p[2];
        }
        return found;
    }

    public int gets(int walker, int other, int x, int y) {
        if (!isWalker(walker) || !isWalker(other) || walker == other || x < 0 || x > 1 || y < 0 || y > 1) {
            return -1000;
        }
        return gain(walker, other, x, y);
    }

    // fog

    private BigInteger[] fogSum(int hour, int walkers) {
        BigInteger sum = BigInteger.ZERO;
        for (int set = 0; set < 2 << hour; set++) {
            What w = asTold();
            w.fog = setOf(set);
            Story s = story(w);
            BigInteger weight = BigInteger.ONE;
            for (int h = 0; h <= hour; h++) {
                weight = weight.multiply(BigInteger.valueOf(w.fog.contains(h) ? told.odds : 10 - told.odds));
            }
            int inside = bits(told.walkers.size(), v -> s.at[hour + 1][v] >= 10) & walkers;
            sum = sum.add(weight.multiply(BigInteger.valueOf(Integer.bitCount(inside))));
        }
        return new BigInteger[] {sum, BigInteger.TEN.pow(hour + 1)};
    }

    public long chance(int walker, int hour, int what) {
        if (!isWalker(walker) || !early(hour) || hour > 7 || what < 0 || what > 1) {
            return -2;
        }
        BigInteger[] f = fogSum(hour, 1 << walker);
        return lowest(f[0], f[1], what);
    }

    public long mean(int hour, int what) {
        if (!early(hour) || hour > 7 || what < 0 || what > 1) {
            return -2;
        }
        BigInteger[] f = fogSum(hour, 255);
        return lowest(f[0], f[1], what);
    }

    // acts

    public int twists(int post, int hour) {
        if (!post(post) || !early(hour)) {
            return -2;
        }
        if (acts.size() == 30) {
            return -5;
        }
        acts.add(new Act(true, post, hour));
        return arm(post, told.hours);
    }

    public int holds(int walker, int hour) {
        if (!isWalker(walker) || !early(hour)) {
            return -2;
        }
        if (acts.size() == 30) {
            return -5;
        }
        acts.add(new Act(false, walker, hour));
        return at(walker, told.hours);
    }

    public int undo() {
        if (none()) {
            return -2;
        }
        if (acts.isEmpty()) {
            return -5;
        }
        acts.remove(acts.size() - 1);
        return acts.size();
    }

    public int anew() {
        if (none()) {
            return -2;
        }
        int were = acts.size();
        acts.clear();
        return were;
    }

    private Set<Integer> nightDrawn(long seed) {
        Set<Integer> fog = new HashSet<>();
        BigInteger x = BigInteger.valueOf(seed);
        for (int h = 0; h < told.hours; h++) {
            x = x.multiply(BigInteger.valueOf(1103515245)).add(BigInteger.valueOf(12345))
                .mod(BigInteger.valueOf(2147483648L));
            if (x.shiftRight(16).mod(BigInteger.TEN).intValue() < told.odds) {
                fog.add(h);
            }
        }
        return fog;
    }

    private int insideDrawn(long seed) {
        What w = asTold();
        w.fog = nightDrawn(seed);
        return lastInside(story(w));
    }

    public int drawn(int seed, int what) {
        if (none() || seed < 0 || seed > 2000000000 || what < 0 || what > 1) {
            return -2;
        }
        return what == 0 ? bits(16, nightDrawn(seed)::contains) : insideDrawn(seed);
    }

    public int luck(int seed, int n, int walker) {
        if (!isWalker(walker) || seed < 0 || seed > 2000000000 || n < 1 || n > 20) {
            return -2;
        }
        return (int) IntStream.range(0, n).filter(i -> (insideDrawn((long) seed + i) >> walker & 1) != 0).count();
    }

    public int rate(int inn, int n) {
        if (!isInn(inn) || n < 0 || n > 9) {
            return -2;
        }
        return acts.isEmpty() ? told.rooms.set(inn, n) : -5;
    }

    public int count(int what) {
        if (what == 10) {
            return tape.size();
        }
        if (what == 11) {
            return (int) rows.stream().filter(r -> r != null).count();
        }
        if (what < 0 || what > 11) {
            return -1;
        }
        if (none()) {
            return 0;
        }
        return new int[] {told.hours, told.law, told.odds, told.rooms.size(), told.posts.size(), told.roads(),
            told.armLines, told.walkers.size(), acts.size(), told.lines}[what];
    }

    public int image(int k) {
        if (k < 0 || k > 2) {
            return -2;
        }
        imageTold[k] = none() ? null : told.copy();
        imageActs.set(k, new ArrayList<>(acts));
        return 0;
    }

    public int back(int k) {
        if (k < 0 || k > 2) {
            return -2;
        }
        if (imageActs.get(k) == null) {
            return -6;
        }
        told = imageTold[k] == null ? null : imageTold[k].copy();
        acts = new ArrayList<>(imageActs.get(k));
        return 0;
    }

    // rows

    public int row(int slot, int width, int n) {
        if (!slot(slot) || width < 0 || width > 3 || n > 60) {
            return -2;
        }
        if (n < 0) {
            return -3;
        }
        widths[slot] = width;
        rows.set(slot, new ArrayList<>(Collections.nCopies(n, BigInteger.ZERO)));
        return 0;
    }

    public int write(int slot, int i, long v) {
        if (!slot(slot)) {
            return -2;
        }
        if (rows.get(slot) == null) {
            return -6;
        }
        if (i < 0 || i >= rows.get(slot).size()) {
            return -7;
        }
        int bits = 8 << widths[slot];
        BigInteger cut = BigInteger.valueOf(v).mod(BigInteger.ONE.shiftLeft(bits));
        rows.get(slot).set(i, cut.testBit(bits - 1) ? cut.subtract(BigInteger.ONE.shiftLeft(bits)) : cut);
        return 0;
    }

    public int paste(int slot, int i, int to, int k, int n) {
        if (!slot(slot) || !slot(to)) {
            return -2;
        }
        if (rows.get(slot) == null || rows.get(to) == null) {
            return -6;
        }
        if (widths[slot] != widths[to]) {
            return -8;
        }
        if (i < 0 || k < 0 || n < 0 || i > rows.get(slot).size() - n || k > rows.get(to).size() - n) {
            return -7;
        }
        List<BigInteger> part = new ArrayList<>(rows.get(slot).subList(i, i + n));
        for (int j = 0; j < n; j++) {
            rows.get(to).set(k + j, part.get(j));
        }
        return 0;
    }
}
