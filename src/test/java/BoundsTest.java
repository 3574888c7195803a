import java.lang.reflect.Method;
import java.util.Arrays;
import java.util.HashMap;
import java.util.Map;
import java.util.function.Consumer;
import java.util.function.ToIntFunction;

/**
 * Each number of each call at the edges of what there is: the first and the last value within, and the first ones
 * beyond, with all that may be told, with one of each, with nothing but a HEATH, and without one. A call that is
 * refused leaves all as it was.
 */
public final class BoundsTest {
    private static final String ONE_OF_EACH = "heath hours 1 law 0 odds 5;inn room 1;post;road 0 in 0;arm 0 0;"
        + "walker 0 at 0;";
    /** Each call by the kinds of its numbers; -2 answers for what is not within. */
    private static final String[] CALLS = {
        "room inn", "roads post", "goes post any", "told post", "walker walker either", "at walker hour",
        "arm post hour", "here place hour", "sent ahead", "sends post", "used post any", "walks walker",
        "home walker", "inn walker", "trail walker", "again walker", "lingers walker", "doors post",
        "guests inn hour", "full inn", "refuses inn", "inside hour", "outside hour", "done", "crowd hour",
        "armless", "meet walker second", "busy", "idle", "reach post", "far post place", "setting hour",
        "settings", "same", "alone post", "steps post", "behind post", "nth post few", "round post",
        "houses post few inn", "tree hour", "ring hour", "trees", "point walker inn", "best", "crowds",
        "may row post", "ask row post", "leaves row post", "laws row", "by law", "law", "worth set",
        "share post either", "rests walker second", "gets walker second either either",
        "chance walker fog either", "mean fog either", "twists post ahead", "holds walker ahead", "undo", "anew",
        "drawn seed either", "luck seed few walker", "rate inn room", "image image", "back image",
        "row slot width size"};
    private static final Map<String, Method> METHODS = new HashMap<>();

    private final String text;
    private final String name;
    private final String[] kinds;

    private BoundsTest(String text, String call) {
        this.text = text;
        String[] parts = call.split(" ");
        name = parts[0];
        kinds = Arrays.copyOfRange(parts, 1, parts.length);
    }

    private ObligingPosts ready() {
        ObligingPosts x = text == null ? new ObligingPosts() : Due.heath(text);
        x.row(0, 0, 0);
        // WALKER 7 is told of by FULL alone.
        x.row(1, 1, Edge.FULL.equals(text) ? 3 : 0);
        x.write(1, 0, 7);
        for (int k = 0; k < 3; k++) {
            x.image(k);
        }
        // An act that is there to be undone, but keeps no room from being changed.
        if (name.equals("undo") && text != null) {
            x.twists(0, 0);
        }
        return x;
    }

    /** How many there are of a kind, from its least value on. */
    private int many(String kind) {
        ObligingPosts x = ready();
        int hours = x.count(0);
        boolean told = x.count(9) > 0;
        switch (kind) {
            case "inn": return x.count(3);
            case "post": return x.count(4);
            case "walker": return x.count(7);
            case "second": return x.count(7) - 1;
            case "hour": return told ? hours + 1 : 0;
            case "ahead": return hours;
            case "fog": return Math.min(8, hours);
            case "set": return told ? 1 << x.count(4) : 0;
            case "either": return 2;
            case "few": return 20;
            case "row": return 2;
            case "law": case "slot": case "width": return 4;
            case "seed": return 2000000001;
            case "room": return 10;
            case "image": return 3;
            case "size": return 61;
            default: throw new IllegalArgumentException(kind);
        }
    }

    private static int least(String kind) {
        return kind.equals("few") || kind.equals("second") ? 1 : 0;
    }

    private boolean isWithin(String kind, int value) {
        if (kind.equals("any")) {
            return value >= 0;
        }
        if (kind.equals("place")) {
            return value < 10 ? value >= 0 && value < many("post") : value - 10 < many("inn");
        }
        return value >= least(kind) && value < (long) least(kind) + many(kind);
    }

    private int[] edges(String kind) {
        if (kind.equals("any")) {
            return new int[] {-1, 0, 3, 4, Integer.MIN_VALUE, Integer.MAX_VALUE};
        }
        if (kind.equals("place")) {
            int posts = many("post");
            int inns = many("inn");
            return new int[] {-1, 0, posts - 1, posts, 7, 9, 10, 9 + inns, 10 + inns, 14, Integer.MIN_VALUE,
                Integer.MAX_VALUE};
        }
        int first = least(kind);
        int last = first + many(kind) - 1;
        // Rows 2 and 3 are not there: that is -6, and asked elsewhere.
        int beyond = kind.equals("row") ? 4 : last + 1;
        return new int[] {first - 1, first, last, beyond, Integer.MIN_VALUE, Integer.MAX_VALUE};
    }

    /** Whether all is there of which the call tells without numbers, or with numbers that are not bound to it. */
    private boolean needsHeath() {
        return !name.equals("image") && !name.equals("back") && !name.equals("row");
    }

    private void call(int[] numbers) throws ReflectiveOperationException {
        boolean within = text != null || !needsHeath();
        Object[] boxed = new Object[numbers.length];
        for (int i = 0; i < numbers.length; i++) {
            boxed[i] = numbers[i];
            within &= isWithin(kinds[i], numbers[i]);
        }
        // Of WALKERS the second one is 1 or more, the first one may be any but him.
        for (int i = 1; i < numbers.length; i++) {
            within &= !kinds[i].equals("second") || numbers[i] != numbers[i - 1];
        }
        ObligingPosts x = ready();
        String before = Snapshot.of(x);
        long answer = ((Number) METHODS.get(name).invoke(x, boxed)).longValue();
        String what = name + Arrays.toString(numbers) + " of " + text;
        if (within) {
            Due.holds(what + " is not refused, but " + answer, answer != -2 && answer != -1000);
            return;
        }
        long due = name.equals("share") || name.equals("gets") ? -1000 : -2;
        if (name.equals("row") && numbers[2] < 0 && isWithin("slot", numbers[0]) && isWithin("width", numbers[1])) {
            due = -3;
        }
        Due.is(what, answer, due);
        Due.holds(what + " leaves all as it was", before.equals(Snapshot.of(x)));
    }

    /** Each number goes through its edges, the others staying at their least or last values. */
    private void allEdges() throws ReflectiveOperationException {
        int[] numbers = new int[kinds.length];
        for (int side = 0; side < 2; side++) {
            for (int i = 0; i < kinds.length; i++) {
                int[] edges = edges(kinds[i]);
                numbers[i] = side == 0 ? edges[1] : edges[2];
            }
            // The last of both WALKERS would be one twice.
            if (side == 1 && kinds.length > 1 && kinds[1].equals("second")) {
                numbers[0] = 0;
            }
            call(numbers);
            for (int i = 0; i < kinds.length; i++) {
                for (int edge : edges(kinds[i])) {
                    int[] changed = numbers.clone();
                    changed[i] = edge;
                    call(changed);
                }
            }
        }
    }

    /** Calls that are refused for what was done ahead, or for what is held, and not for a number alone. */
    private static void refusedOtherwise() {
        leaves("undo without acts", x -> { }, x -> x.undo(), -5);
        leaves("heath() of a text with a FAULT", x -> faultyTape(x), x -> x.heath(), -4);
        leaves("twists behind 30 acts", x -> thirtyActs(x), x -> x.twists(0, 0), -5);
        leaves("holds behind 30 acts", x -> thirtyActs(x), x -> x.holds(0, 0), -5);
        leaves("rate with an act", x -> x.holds(0, 15), x -> x.rate(1, 0), -5);
        leaves("back to nothing", x -> x.holds(0, 15), x -> x.back(0), -6);
        leaves("write to nothing", x -> threeRows(x), x -> x.write(0, 0, 1), -6);
        leaves("write beyond", x -> threeRows(x), x -> x.write(1, 3, 1), -7);
        leaves("write ahead", x -> threeRows(x), x -> x.write(1, -1, 1), -7);
        leaves("row below 0", x -> threeRows(x), x -> x.row(1, 1, -1), -3);
        leaves("row above 60", x -> threeRows(x), x -> x.row(1, 1, 61), -2);
        leaves("paste from beyond", x -> threeRows(x), x -> x.paste(2, 4, 1, 0, 3), -7);
        leaves("paste to beyond", x -> threeRows(x), x -> x.paste(2, 0, 1, 1, 3), -7);
        leaves("paste to itself beyond", x -> threeRows(x), x -> x.paste(2, 0, 2, 1, 6), -7);
        leaves("paste of another WIDTH", x -> threeRows(x), x -> x.paste(2, 0, 3, 0, 3), -8);
        leaves("paste to nothing", x -> threeRows(x), x -> x.paste(2, 0, 0, 0, 3), -6);
        leaves("feed to a TAPE of 781", x -> Due.tape(x, " ".repeat(781)), x -> x.feed(-1, -1, -1, -1, -1), -1);
        leaves("end beyond", x -> Due.tape(x, " ".repeat(780)), x -> x.end(781), -1);
        leaves("end below 0", x -> Due.tape(x, " ".repeat(780)), x -> x.end(-1), -1);
    }

    /** The FAULT is known already, so that it is the same behind the next heath(). */
    private static void faultyTape(ObligingPosts x) {
        thirtyActs(x);
        threeRows(x);
        Due.tape(x, "heath hours 9 law 1 odds 0;inn room 5;post;post");
        x.heath();
    }

    private static void thirtyActs(ObligingPosts x) {
        for (int i = 0; i < 15; i++) {
            x.twists(i % 7, i);
            x.holds(i % 8, i);
        }
    }

    /** SLOT 0 has nothing. */
    private static void threeRows(ObligingPosts x) {
        x.row(1, 1, 3);
        x.write(1, 1, 2);
        x.write(1, 2, 4);
        x.row(2, 1, 6);
        x.write(2, 0, 7);
        x.write(2, 2, -1);
        x.row(3, 2, 6);
    }

    private static void leaves(String what, Consumer<ObligingPosts> ready, ToIntFunction<ObligingPosts> call, int due) {
        ObligingPosts x = Due.heath(Edge.FULL);
        ready.accept(x);
        String before = Snapshot.of(x);
        Due.is(what, call.applyAsInt(x), due);
        Due.holds(what + " leaves all as it was", before.equals(Snapshot.of(x)));
    }

    /** "An object is used for at most 512 calls": the last of them is answered as the first ones were. */
    private static void lastCalls() {
        ObligingPosts x = Due.heath(Edge.FULL);
        // Text of n twenties: end, n times feed, end, heath.
        int made = 3 + Due.feeds(Edge.FULL).length;
        while (made + 6 <= 512) {
            Due.is("at", x.at(7, 16), 3);
            Due.is("twists", x.twists(0, 15), 0);
            Due.is("at behind an act", x.at(7, 16), 0);
            Due.is("image", x.image(made % 3), 0);
            Due.is("undo", x.undo(), 0);
            Due.is("worth", x.worth(127), 7);
            made += 6;
        }
        while (made < 512) {
            Due.is("call " + ++made, x.inside(16), 127);
        }
    }

    public static void main(String[] args) throws ReflectiveOperationException {
        for (Method method : ObligingPosts.class.getMethods()) {
            METHODS.put(method.getName(), method);
        }
        for (String text : new String[] {Edge.FULL, ONE_OF_EACH, Edge.HEAD, null}) {
            for (String call : CALLS) {
                new BoundsTest(text, call).allEdges();
            }
        }
        refusedOtherwise();
        lastCalls();
        Due.close();
    }
}
