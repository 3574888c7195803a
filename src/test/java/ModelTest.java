import java.lang.reflect.Method;
import java.util.ArrayList;
import java.util.Arrays;
import java.util.HashMap;
import java.util.List;
import java.util.Map;
import java.util.Random;

/** Runs of calls by chance (from seeds), each answer compared with the Model's. */
public final class ModelTest {
    /** Calls by the kinds of their numbers: each kind goes a little beyond its bounds. */
    private static final String[] CALLS = {
        "room inn", "roads post", "goes post road", "told post", "walker walker what", "at walker hour",
        "arm post hour", "here place hour", "sent hour", "sends post", "used post road", "walks walker",
        "home walker", "inn walker", "trail walker", "again walker", "lingers walker", "doors post",
        "guests inn hour", "full inn", "refuses inn", "inside hour", "outside hour", "done", "crowd hour",
        "armless", "meet walker walker", "busy", "idle", "reach post", "far post place", "setting hour",
        "settings", "same", "alone post", "steps post", "behind post", "nth post few", "round post",
        "houses post few inn", "tree hour", "ring hour", "trees", "point walker inn", "best", "crowds",
        "may slot post", "ask slot post", "leaves slot post", "laws slot", "by law", "law", "worth set",
        "share post what", "rests walker walker", "gets walker walker what what", "chance walker fog what",
        "mean fog what", "twists post hour", "twists post hour", "holds walker hour", "holds walker hour",
        "undo", "anew", "drawn seed what", "luck seed few walker", "rate inn room", "count count", "image image",
        "back image", "row slot width size", "write slot index number", "write slot index number",
        "paste slot index slot index index", "fault what", "end cut"};

    private final Random random;
    private final Texts texts;
    private ObligingPosts program = new ObligingPosts();
    private Model model = new Model();
    private final List<String> run = new ArrayList<>();
    private static final Map<String, Method> PROGRAM = methods(ObligingPosts.class);
    private static final Map<String, Method> MODEL = methods(Model.class);

    private ModelTest(long seed) {
        random = new Random(seed);
        texts = new Texts(random);
    }

    private static Map<String, Method> methods(Class<?> type) {
        Map<String, Method> found = new HashMap<>();
        for (Method method : type.getDeclaredMethods()) {
            if ((method.getModifiers() & 1) != 0) {
                found.put(method.getName(), method);
            }
        }
        return found;
    }

    private void call(String name, Object... numbers) throws ReflectiveOperationException {
        run.add(name + Arrays.toString(numbers));
        long got = ((Number) PROGRAM.get(name).invoke(program, numbers)).longValue();
        long want = ((Number) MODEL.get(name).invoke(model, numbers)).longValue();
        Due.is(got == want ? name : String.join("\n", run) + "\n" + name, got, want);
    }

    private int between(int least, int most) {
        return least + random.nextInt(most - least + 1);
    }

    private Object number(String kind) {
        boolean wild = random.nextInt(60) == 0;
        if (wild && !kind.equals("number")) {
            int[] far = {Integer.MIN_VALUE, Integer.MAX_VALUE, -1000000, 64, 1 << 30};
            return far[random.nextInt(far.length)];
        }
        switch (kind) {
            case "inn": case "law": case "image": case "slot": return between(random.nextInt(8) == 0 ? -1 : 0, 4);
            case "post": return between(random.nextInt(12) == 0 ? -1 : 0, 7);
            case "walker": return between(random.nextInt(12) == 0 ? -1 : 0, 8);
            case "road": case "width": return between(random.nextInt(8) == 0 ? -1 : 0, 4);
            case "what": return between(random.nextInt(12) == 0 ? -1 : 0, random.nextInt(12) == 0 ? 2 : 1);
            case "hour": return between(random.nextInt(16) == 0 ? -1 : 0, 17);
            case "fog": return between(random.nextInt(8) == 0 ? -1 : 0, 8);
            case "place": return random.nextBoolean() ? between(-1, 9) : between(9, 14);
            case "few": return between(0, 21);
            case "set": return between(-1, 130);
            case "seed": return random.nextInt(10) == 0 ? 2000000000 + between(-1, 1) : between(-1, 2000000);
            case "room": return between(-1, 10);
            case "count": return between(-1, 12);
            case "size": return random.nextBoolean() ? 3 * between(0, 3) : between(-1, 61);
            case "index": return between(-1, random.nextInt(4) == 0 ? 61 : 9);
            case "cut": return between(0, 20);
            default: return wildNumber();
        }
    }

    private long wildNumber() {
        long number = random.nextInt(6) == 0 ? random.nextLong() : between(-1, 14);
        return random.nextInt(6) == 0 ? number + (1L << 8 * between(1, 7)) : number;
    }

    private void any() throws ReflectiveOperationException {
        String[] parts = CALLS[random.nextInt(CALLS.length)].split(" ");
        // An image gone back to, or all acts taken back, would end most stories too early.
        boolean ending = parts[0].equals("back") || parts[0].equals("anew") || parts[0].equals("end");
        if (ending && random.nextInt(4) > 0) {
            return;
        }
        Object[] numbers = new Object[parts.length - 1];
        for (int i = 0; i < numbers.length; i++) {
            numbers[i] = number(parts[i + 1]);
        }
        call(parts[0], numbers);
    }

    private void feedText(String text) throws ReflectiveOperationException {
        call("end", 0);
        for (int[] f : Due.feeds(text)) {
            call("feed", f[0], f[1], f[2], f[3], f[4]);
        }
        call("end", text.length());
        call("heath");
        call("fault", 0);
        call("fault", 1);
    }

    /** A row that tells what was, or nearly, so that SEEN has something to tell apart. */
    private void tellSeen() throws ReflectiveOperationException {
        int slot = random.nextInt(4);
        int n = random.nextInt(4);
        call("row", slot, random.nextInt(4), 3 * n);
        int walkers = model.count(7);
        for (int i = 0; i < n && walkers > 0; i++) {
            int walker = random.nextInt(walkers);
            int hour = random.nextInt(model.count(0) + 1);
            call("write", slot, 3 * i, (long) walker);
            call("write", slot, 3 * i + 1, (long) hour);
            call("write", slot, 3 * i + 2, (long) model.at(walker, hour));
        }
        for (int post = 0; post < model.count(4); post++) {
            call("may", slot, post);
            call("ask", slot, post);
            call("leaves", slot, post);
        }
        call("laws", slot);
    }

    private void oneRun() throws ReflectiveOperationException {
        for (int part = 0; part < 3; part++) {
            String text = texts.heath();
            feedText(random.nextInt(3) == 0 ? texts.spoilt(text) : text);
            for (int i = 0; i < 45; i++) {
                any();
                if (i % 20 == 10) {
                    tellSeen();
                }
            }
        }
    }

    public static void main(String[] args) throws ReflectiveOperationException {
        int runs = args.length > 0 ? Integer.parseInt(args[0]) : 400;
        for (int seed = 0; seed < runs; seed++) {
            new ModelTest(seed).oneRun();
        }
        for (int seed = 0; seed < 10 * runs; seed++) {
            ModelTest test = new ModelTest(-1 - seed);
            test.feedText(test.texts.spoilt(test.texts.heath()));
        }
        Due.close();
    }
}
