import java.util.Arrays;

/** A heath of inns, posts whose arms turn behind walkers, and roads; README.md says how it is used. */
public final class ObligingPosts {
    public static final int NONE = -1;

    private static final int NO_SUCH = -2;
    private static final int TOO_MANY = -3;
    private static final int BELOW_ZERO = -3;
    private static final int FAULTY = -4;
    private static final int REFUSED = -5;
    private static final int NOTHING = -6;
    private static final int BEYOND = -7;
    private static final int UNLIKE = -8;
    /** In place of NO_SUCH where an answer may be below 0. */
    private static final int NO_SUCH_SUM = -1000;

    private static final int MAX_BYTES = 800;
    private static final int MAX_HOURS = 16;
    private static final int MAX_LAW = 3;
    private static final int MAX_ODDS = 10;
    private static final int MAX_ROOM = 9;
    private static final int MAX_COMING = 15;
    private static final int MAX_INNS = 4;
    private static final int MAX_POSTS = 7;
    private static final int MAX_ROADS = 16;
    private static final int MAX_POST_ROADS = 4;
    private static final int MAX_ARM_LINES = 8;
    private static final int MAX_WALKERS = 8;
    private static final int MAX_ACTS = 30;
    private static final int MAX_SENT_ALONE = 600;
    private static final int MAX_IN_A_ROW = 20;
    private static final int MAX_ROUND = 60;
    private static final int MAX_TREE_SETTINGS = 4096;
    private static final int MAX_FOG_HOUR = 7;
    private static final int MAX_SEED = 2000000000;
    private static final int SLOTS = 4;
    private static final int MAX_NUMBERS = 60;
    private static final int MAX_WIDTH = 3;
    private static final int IMAGES = 3;

    /** The PLACE of INN 0; POSTS are PLACES below it. */
    private static final int FIRST_INN = 10;
    /** In place of a LAW: the arm does not turn. */
    private static final int STIFF = -1;
    private static final int ALL_POSTS = (1 << MAX_POSTS) - 1;
    private static final int NIGHT_PLACES = (MAX_HOURS + 1) * MAX_WALKERS;
    private static final int BEST_GAIN = 20;
    private static final int[] FACTORIALS = {1, 1, 2, 6, 24, 120, 720, 5040};

    private final Tape tape = new Tape();
    private final Heath heath = new Heath();
    /** A text is read into it first, since a FAULT must leave the HEATH as it is. */
    private final Heath draft = new Heath();
    private final Heath[] images = new Heath[IMAGES];
    private final Slot[] slots = new Slot[SLOTS];
    /** The night as it is, kept from one change to the next. */
    private final Night now = new Night(heath);
    /** Nights as they would be. */
    private final Night other = new Night(heath);
    private final Lone lone = new Lone(heath);
    private final Fog fog = new Fog(heath);
    /** What each set of POSTS is worth, from the first share() behind a change on. */
    private final int[] worths = new int[ALL_POSTS + 1];
    private boolean worthsKnown = false;
    /** PLACES of the night by each first road of one POST. */
    private final int[] supposed = new int[MAX_POST_ROADS * NIGHT_PLACES];

    public ObligingPosts() {
    }

    // The text

    public int feed(int a, int b, int c, int d, int e) {
        if (tape.size > MAX_BYTES - 20) {
            return NONE;
        }
        tape.append(a);
        tape.append(b);
        tape.append(c);
        tape.append(d);
        tape.append(e);
        return tape.size;
    }

    public int end(int n) {
        if (n < 0 || n > tape.size) {
            return NONE;
        }
        tape.size = n;
        return n;
    }

    public int heath() {
        tape.readInto(draft);
        if (tape.fault != 0) {
            return FAULTY;
        }
        tape.size = 0;
        heath.copyFrom(draft);
        changed();
        return heath.lines;
    }

    public int fault(int what) {
        if (what == 0) {
            return tape.fault;
        }
        return what == 1 ? tape.faultPlace : NONE;
    }

    // What was told

    public int room(int inn) {
        return heath.hasInn(inn) ? heath.rooms[inn] : NO_SUCH;
    }

    public int roads(int post) {
        return heath.hasPost(post) ? heath.roadsOf[post] : NO_SUCH;
    }

    public int goes(int post, int road) {
        if (!heath.hasPost(post) || road < 0) {
            return NO_SUCH;
        }
        return road < heath.roadsOf[post] ? heath.goal(post, road) : NONE;
    }

    public int told(int post) {
        if (!heath.hasPost(post)) {
            return NO_SUCH;
        }
        return heath.hasArm(post) ? heath.toldArms[post] : NONE;
    }

    public int walker(int walker, int what) {
        if (!heath.hasWalker(walker) || !isEither(what)) {
            return NO_SUCH;
        }
        return what == 0 ? heath.starts[walker] : heath.comings[walker];
    }

    // The night as it is

    public int at(int walker, int hour) {
        if (!heath.hasWalker(walker) || !heath.hasHour(hour)) {
            return NO_SUCH;
        }
        return now.placeOf(walker, hour);
    }

    public int arm(int post, int hour) {
        if (!heath.hasPost(post) || !heath.hasHour(hour)) {
            return NO_SUCH;
        }
        return now.armOf(post, hour);
    }

    public int here(int place, int hour) {
        if (!heath.hasPlace(place) || !heath.hasHour(hour)) {
            return NO_SUCH;
        }
        return now.walkersAt(place, hour);
    }

    public int sent(int hour) {
        return heath.hasHourAhead(hour) ? now.walkersSent(hour) : NO_SUCH;
    }

    public int sends(int post) {
        return heath.hasPost(post) ? now.timesPostSent(post) : NO_SUCH;
    }

    public int used(int post, int road) {
        if (!heath.hasPost(post) || road < 0) {
            return NO_SUCH;
        }
        return road < heath.roadsOf[post] ? now.timesRoadUsed(post, road) : NONE;
    }

    public int walks(int walker) {
        return heath.hasWalker(walker) ? now.timesWalked(walker) : NO_SUCH;
    }

    public int home(int walker) {
        return heath.hasWalker(walker) ? now.firstHourHome(walker) : NO_SUCH;
    }

    public int inn(int walker) {
        if (!heath.hasWalker(walker)) {
            return NO_SUCH;
        }
        int place = now.placeOf(walker, heath.hours);
        return place >= FIRST_INN ? place - FIRST_INN : NONE;
    }

    public int trail(int walker) {
        return heath.hasWalker(walker) ? now.postsVisited(walker) : NO_SUCH;
    }

    public int again(int walker) {
        return heath.hasWalker(walker) ? now.timesReturned(walker) : NO_SUCH;
    }

    public int lingers(int walker) {
        return heath.hasWalker(walker) ? now.hoursLingered(walker) : NO_SUCH;
    }

    public int doors(int post) {
        return heath.hasPost(post) ? heath.innsBeside(post) : NO_SUCH;
    }

    public int guests(int inn, int hour) {
        if (!heath.hasInn(inn) || !heath.hasHour(hour)) {
            return NO_SUCH;
        }
        return now.guestsIn(inn, hour);
    }

    public int full(int inn) {
        return heath.hasInn(inn) ? now.firstHourFull(inn) : NO_SUCH;
    }

    public int refuses(int inn) {
        return heath.hasInn(inn) ? now.timesRefused(inn) : NO_SUCH;
    }

    public int inside(int hour) {
        return heath.hasHour(hour) ? now.walkersInside(hour) : NO_SUCH;
    }

    public int outside(int hour) {
        return heath.hasHour(hour) ? now.walkersOutside(hour) : NO_SUCH;
    }

    public int done() {
        return heath.isTold() ? now.firstHourAllInside() : NO_SUCH;
    }

    public int crowd(int hour) {
        return heath.hasHour(hour) ? now.mostAtOnePost(hour) : NO_SUCH;
    }

    public int armless() {
        return heath.isTold() ? heath.postsWithoutRoads() : NO_SUCH;
    }

    public int meet(int walker, int other) {
        return areTwo(walker, other) ? now.firstHourTogether(walker, other) : NO_SUCH;
    }

    public int busy() {
        if (!heath.isTold()) {
            return NO_SUCH;
        }
        int busiest = NONE;
        int most = NONE;
        for (int post = 0; post < heath.posts; post++) {
            int times = now.timesPostSent(post);
            if (times > most) {
                most = times;
                busiest = post;
            }
        }
        return busiest;
    }

    public int idle() {
        if (!heath.isTold()) {
            return NO_SUCH;
        }
        int idlers = 0;
        for (int post = 0; post < heath.posts; post++) {
            if (now.timesPostSent(post) == 0) {
                idlers |= 1 << post;
            }
        }
        return idlers;
    }

    public int reach(int post) {
        return heath.hasPost(post) ? heath.placesFrom(post) : NO_SUCH;
    }

    public int far(int post, int place) {
        if (!heath.hasPost(post) || !heath.hasPlace(place)) {
            return NO_SUCH;
        }
        return heath.distance(post, place);
    }

    // Settings

    public int setting(int hour) {
        return heath.hasHour(hour) ? settingIn(hour) : NO_SUCH;
    }

    public int settings() {
        return heath.isTold() ? heath.allSettings() : NO_SUCH;
    }

    public int same() {
        if (!heath.isTold()) {
            return NO_SUCH;
        }
        int first = settingIn(0);
        for (int hour = 1; hour <= heath.hours; hour++) {
            if (settingIn(hour) == first) {
                return hour;
            }
        }
        return NONE;
    }

    // Walkers sent alone

    public int alone(int post) {
        if (!heath.hasPost(post)) {
            return NO_SUCH;
        }
        lone.begin();
        return lone.sendFrom(post);
    }

    public int steps(int post) {
        if (!heath.hasPost(post)) {
            return NO_SUCH;
        }
        lone.begin();
        return lone.sendFrom(post) == NONE ? NONE : lone.timesSent;
    }

    public int behind(int post) {
        if (!heath.hasPost(post)) {
            return NO_SUCH;
        }
        lone.begin();
        return lone.sendFrom(post) == NONE ? NONE : lone.settingNow();
    }

    public int nth(int post, int n) {
        if (!heath.hasPost(post) || !isFewInARow(n)) {
            return NO_SUCH;
        }
        lone.begin();
        int taker = NONE;
        for (int i = 0; i < n; i++) {
            taker = lone.sendFrom(post);
            if (taker == NONE) {
                return NONE;
            }
        }
        return taker;
    }

    public int round(int post) {
        if (!heath.hasPost(post)) {
            return NO_SUCH;
        }
        lone.begin();
        int first = lone.settingNow();
        for (int n = 1; n <= MAX_ROUND; n++) {
            if (lone.sendFrom(post) == NONE) {
                return NONE;
            }
            if (lone.settingNow() == first) {
                return n;
            }
        }
        return NONE;
    }

    public int houses(int post, int n, int inn) {
        if (!heath.hasPost(post) || !isFewInARow(n) || !heath.hasInn(inn)) {
            return NO_SUCH;
        }
        lone.begin();
        int housed = 0;
        for (int i = 0; i < n; i++) {
            int taker = lone.sendFrom(post);
            if (taker == NONE) {
                return NONE;
            }
            if (taker == inn) {
                housed++;
            }
        }
        return housed;
    }

    // Trees and rings of arms

    public int tree(int hour) {
        if (!heath.hasHour(hour)) {
            return NO_SUCH;
        }
        return heath.isTree(now.arms, hour * MAX_POSTS) ? 1 : 0;
    }

    public int ring(int hour) {
        return heath.hasHour(hour) ? heath.postsOnRings(now.arms, hour * MAX_POSTS) : NO_SUCH;
    }

    public int trees() {
        if (!heath.isTold()) {
            return NO_SUCH;
        }
        int all = heath.allSettings();
        if (all > MAX_TREE_SETTINGS) {
            return TOO_MANY;
        }
        int found = 0;
        for (int number = 0; number < all; number++) {
            lone.setArms(number);
            if (heath.isTree(lone.arms, 0)) {
                found++;
            }
        }
        return found;
    }

    // Which arm to point, who is in the way

    public int point(int walker, int inn) {
        if (!heath.hasWalker(walker) || !heath.hasInn(inn)) {
            return NO_SUCH;
        }
        int soonest = now.firstHourIn(walker, FIRST_INN + inn);
        int found = NONE;
        for (int post = 0; post < heath.posts; post++) {
            for (int road = 0; road < heath.roadsOf[post]; road++) {
                runPointed(post, road);
                int hour = other.firstHourIn(walker, FIRST_INN + inn);
                if (hour != NONE && (soonest == NONE || hour < soonest)) {
                    soonest = hour;
                    found = 10 * post + road;
                }
            }
        }
        return found;
    }

    public int best() {
        if (!heath.isTold()) {
            return NO_SUCH;
        }
        int most = Integer.bitCount(now.walkersInside(heath.hours));
        int found = NONE;
        for (int post = 0; post < heath.posts; post++) {
            for (int road = 0; road < heath.roadsOf[post]; road++) {
                runPointed(post, road);
                int inside = Integer.bitCount(other.walkersInside(heath.hours));
                if (inside > most) {
                    most = inside;
                    found = 10 * post + road;
                }
            }
        }
        return found;
    }

    public int crowds() {
        if (!heath.isTold()) {
            return NO_SUCH;
        }
        int most = NONE;
        int found = NONE;
        for (int walker = 0; walker < heath.walkers; walker++) {
            int others = ~(1 << walker);
            int before = Integer.bitCount(now.walkersInside(heath.hours) & others);
            other.prepare();
            other.neverComes(walker);
            other.run();
            int without = Integer.bitCount(other.walkersInside(heath.hours) & others);
            if (without > before && without > most) {
                most = without;
                found = walker;
            }
        }
        return found;
    }

    // How an arm stood by what was seen

    public int may(int slot, int post) {
        int refusal = refusalOfSeen(slot, heath.hasPost(post));
        return refusal != 0 ? refusal : possibleRoads(slots[slot], post);
    }

    public int ask(int slot, int post) {
        int refusal = refusalOfSeen(slot, heath.hasPost(post));
        if (refusal != 0) {
            return refusal;
        }
        return bestQuestion(possibleRoads(slots[slot], post));
    }

    public int leaves(int slot, int post) {
        int refusal = refusalOfSeen(slot, heath.hasPost(post));
        if (refusal != 0) {
            return refusal;
        }
        int possible = possibleRoads(slots[slot], post);
        int question = bestQuestion(possible);
        if (question == NONE) {
            return Integer.bitCount(possible);
        }
        return mostLeft(possible, question / 100, question % 100);
    }

    public int laws(int slot) {
        int refusal = refusalOfSeen(slot, heath.isTold());
        if (refusal != 0) {
            return refusal;
        }
        int fitting = 0;
        for (int law = 0; law <= MAX_LAW; law++) {
            runByLaw(law);
            if (agrees(slots[slot], other)) {
                fitting |= 1 << law;
            }
        }
        return fitting;
    }

    // By other laws, by sets of posts that turn, by walkers who wait

    public int by(int law) {
        if (!heath.isTold() || law < 0 || law > MAX_LAW) {
            return NO_SUCH;
        }
        runByLaw(law);
        return other.walkersInside(heath.hours);
    }

    public int law() {
        if (!heath.isTold()) {
            return NO_SUCH;
        }
        int most = NONE;
        int found = NONE;
        for (int law = 0; law <= MAX_LAW; law++) {
            runByLaw(law);
            int inside = Integer.bitCount(other.walkersInside(heath.hours));
            if (inside > most) {
                most = inside;
                found = law;
            }
        }
        return found;
    }

    public int worth(int set) {
        if (!heath.isTold() || set < 0 || set >= 1 << heath.posts) {
            return NO_SUCH;
        }
        return worthOf(set);
    }

    public int share(int post, int what) {
        if (!heath.hasPost(post) || !isEither(what)) {
            return NO_SUCH_SUM;
        }
        learnWorths();
        int sum = 0;
        for (int set = 0; set < 1 << heath.posts; set++) {
            if ((set >> post & 1) == 0) {
                int ahead = Integer.bitCount(set);
                int orders = FACTORIALS[ahead] * FACTORIALS[heath.posts - 1 - ahead];
                sum += orders * (worths[set | 1 << post] - worths[set]);
            }
        }
        return (int) partOfFraction(sum, FACTORIALS[heath.posts], what);
    }

    public int rests(int walker, int other) {
        if (!areTwo(walker, other)) {
            return NO_SUCH;
        }
        int resting = 0;
        for (int pair = 0; pair < 4; pair++) {
            int x = pair & 1;
            int y = pair >> 1;
            boolean firstRests = gain(walker, other, x, y) >= gain(walker, other, 1 - x, y);
            boolean otherRests = gain(other, walker, y, x) >= gain(other, walker, 1 - y, x);
            if (firstRests && otherRests) {
                resting |= 1 << pair;
            }
        }
        return resting;
    }

    public int gets(int walker, int other, int x, int y) {
        if (!areTwo(walker, other) || !isEither(x) || !isEither(y)) {
            return NO_SUCH_SUM;
        }
        return gain(walker, other, x, y);
    }

    // Fog by chance

    public long chance(int walker, int hour, int what) {
        if (!heath.hasWalker(walker) || !isFogHour(hour) || !isEither(what)) {
            return NO_SUCH;
        }
        fog.learn(other, hour);
        return partOfFraction(fog.weights[walker], fog.whole, what);
    }

    public long mean(int hour, int what) {
        if (!isFogHour(hour) || !isEither(what)) {
            return NO_SUCH;
        }
        fog.learn(other, hour);
        long sum = 0;
        for (int walker = 0; walker < heath.walkers; walker++) {
            sum += fog.weights[walker];
        }
        return partOfFraction(sum, fog.whole, what);
    }

    // Acts

    public int twists(int post, int hour) {
        if (!heath.hasPost(post) || !heath.hasHourAhead(hour)) {
            return NO_SUCH;
        }
        if (!heath.acts.add(Acts.TURNED, post, hour)) {
            return REFUSED;
        }
        changed();
        return now.armOf(post, heath.hours);
    }

    public int holds(int walker, int hour) {
        if (!heath.hasWalker(walker) || !heath.hasHourAhead(hour)) {
            return NO_SUCH;
        }
        if (!heath.acts.add(Acts.HELD, walker, hour)) {
            return REFUSED;
        }
        changed();
        return now.placeOf(walker, heath.hours);
    }

    public int undo() {
        if (!heath.isTold()) {
            return NO_SUCH;
        }
        if (heath.acts.size == 0) {
            return REFUSED;
        }
        heath.acts.takeBack();
        changed();
        return heath.acts.size;
    }

    public int anew() {
        if (!heath.isTold()) {
            return NO_SUCH;
        }
        int were = heath.acts.size;
        heath.acts.clear();
        changed();
        return were;
    }

    // Nights drawn

    public int drawn(int seed, int what) {
        if (!heath.isTold() || !isSeed(seed) || !isEither(what)) {
            return NO_SUCH;
        }
        int hours = fog.drawnFrom(seed);
        return what == 0 ? hours : insideByFog(hours);
    }

    public int luck(int seed, int n, int walker) {
        if (!isSeed(seed) || !isFewInARow(n) || !heath.hasWalker(walker)) {
            return NO_SUCH;
        }
        int lucky = 0;
        for (int i = 0; i < n; i++) {
            lucky += insideByFog(fog.drawnFrom((long) seed + i)) >> walker & 1;
        }
        return lucky;
    }

    // Rooms, counts, images

    public int rate(int inn, int n) {
        if (!heath.hasInn(inn) || n < 0 || n > MAX_ROOM) {
            return NO_SUCH;
        }
        if (heath.acts.size > 0) {
            return REFUSED;
        }
        int was = heath.rooms[inn];
        heath.rooms[inn] = n;
        changed();
        return was;
    }

    public int count(int what) {
        switch (what) {
            case 0: return heath.hours;
            case 1: return heath.law;
            case 2: return heath.odds;
            case 3: return heath.inns;
            case 4: return heath.posts;
            case 5: return heath.roads;
            case 6: return heath.armLines;
            case 7: return heath.walkers;
            case 8: return heath.acts.size;
            case 9: return heath.lines;
            case 10: return tape.size;
            case 11: return slotsWithRow();
            default: return NONE;
        }
    }

    public int image(int k) {
        if (k < 0 || k >= IMAGES) {
            return NO_SUCH;
        }
        if (images[k] == null) {
            images[k] = new Heath();
        }
        images[k].copyFrom(heath);
        return 0;
    }

    public int back(int k) {
        if (k < 0 || k >= IMAGES) {
            return NO_SUCH;
        }
        if (images[k] == null) {
            return NOTHING;
        }
        heath.copyFrom(images[k]);
        changed();
        return 0;
    }

    // Rows of numbers

    public int row(int slot, int width, int n) {
        if (!isSlot(slot) || width < 0 || width > MAX_WIDTH || n > MAX_NUMBERS) {
            return NO_SUCH;
        }
        if (n < 0) {
            return BELOW_ZERO;
        }
        if (slots[slot] == null) {
            slots[slot] = new Slot();
        }
        slots[slot].begin(width, n);
        return 0;
    }

    public int write(int slot, int i, long v) {
        if (!isSlot(slot)) {
            return NO_SUCH;
        }
        if (slots[slot] == null) {
            return NOTHING;
        }
        if (i < 0 || i >= slots[slot].size) {
            return BEYOND;
        }
        slots[slot].put(i, v);
        return 0;
    }

    public int paste(int slot, int i, int to, int k, int n) {
        if (!isSlot(slot) || !isSlot(to)) {
            return NO_SUCH;
        }
        Slot source = slots[slot];
        Slot target = slots[to];
        if (source == null || target == null) {
            return NOTHING;
        }
        if (source.width != target.width) {
            return UNLIKE;
        }
        if (!source.hasPart(i, n) || !target.hasPart(k, n)) {
            return BEYOND;
        }
        System.arraycopy(source.numbers, i, target.numbers, k, n);
        return 0;
    }

    // What the calls above share

    /** Answers that are kept hold from one change to the next alone. */
    private void changed() {
        worthsKnown = false;
        fog.forget();
        now.prepare();
        now.run();
    }

    private static boolean isEither(int what) {
        return what == 0 || what == 1;
    }

    private static boolean isFewInARow(int n) {
        return n >= 1 && n <= MAX_IN_A_ROW;
    }

    private static boolean isSeed(int seed) {
        return seed >= 0 && seed <= MAX_SEED;
    }

    private static boolean isSlot(int slot) {
        return slot >= 0 && slot < SLOTS;
    }

    private boolean isFogHour(int hour) {
        return heath.hasHourAhead(hour) && hour <= MAX_FOG_HOUR;
    }

    private boolean areTwo(int walker, int other) {
        return heath.hasWalker(walker) && heath.hasWalker(other) && walker != other;
    }

    private int settingIn(int hour) {
        return heath.settingNumber(now.arms, hour * MAX_POSTS);
    }

    private void runPointed(int post, int road) {
        other.prepare();
        other.pointAtFirst(post, road);
        other.run();
    }

    private void runByLaw(int law) {
        other.prepare();
        other.law = law;
        other.run();
    }

    private int insideByFog(int hours) {
        other.prepare();
        other.foggy = hours;
        other.run();
        return other.walkersInside(heath.hours);
    }

    private int worthOf(int set) {
        other.prepare();
        other.turning = set;
        other.run();
        return Integer.bitCount(other.walkersInside(heath.hours));
    }

    private void learnWorths() {
        if (worthsKnown) {
            return;
        }
        for (int set = 0; set < 1 << heath.posts; set++) {
            worths[set] = worthOf(set);
        }
        worthsKnown = true;
    }

    private int gain(int walker, int second, int x, int y) {
        other.prepare();
        other.comings[walker] += x;
        other.comings[second] += y;
        other.run();
        int hour = other.firstHourHome(walker);
        return (hour == NONE ? 0 : BEST_GAIN - hour) - x;
    }

    /** 0 if a SLOT's row can be asked by SEEN; its numbers are asked last. */
    private int refusalOfSeen(int slot, boolean restIsSuch) {
        if (!isSlot(slot) || !restIsSuch) {
            return NO_SUCH;
        }
        if (slots[slot] == null) {
            return NOTHING;
        }
        return tellsPlaces(slots[slot]) ? 0 : NO_SUCH;
    }

    private boolean tellsPlaces(Slot slot) {
        if (slot.size % 3 != 0) {
            return false;
        }
        for (int i = 0; i + 2 < slot.size; i += 3) {
            long walker = slot.numbers[i];
            long hour = slot.numbers[i + 1];
            long place = slot.numbers[i + 2];
            if (walker < 0 || walker >= heath.walkers || hour < 0 || hour > heath.hours) {
                return false;
            }
            if (place < NONE || place >= FIRST_INN + MAX_INNS) {
                return false;
            }
            if (place != NONE && !heath.hasPlace((int) place)) {
                return false;
            }
        }
        return true;
    }

    private boolean agrees(Slot slot, Night night) {
        for (int i = 0; i + 2 < slot.size; i += 3) {
            int walker = (int) slot.numbers[i];
            int hour = (int) slot.numbers[i + 1];
            if (night.placeOf(walker, hour) != slot.numbers[i + 2]) {
                return false;
            }
        }
        return true;
    }

    /** Leaves the PLACES of each supposed night for mostLeft. */
    private int possibleRoads(Slot slot, int post) {
        int possible = 0;
        for (int road = 0; road < heath.roadsOf[post]; road++) {
            runPointed(post, road);
            System.arraycopy(other.places, 0, supposed, road * NIGHT_PLACES, NIGHT_PLACES);
            if (agrees(slot, other)) {
                possible |= 1 << road;
            }
        }
        return possible;
    }

    private int bestQuestion(int possible) {
        int fewest = Integer.bitCount(possible);
        int found = NONE;
        for (int walker = 0; walker < heath.walkers; walker++) {
            for (int hour = 0; hour <= heath.hours; hour++) {
                int left = mostLeft(possible, walker, hour);
                if (left < fewest) {
                    fewest = left;
                    found = 100 * walker + hour;
                }
            }
        }
        return found;
    }

    private int mostLeft(int possible, int walker, int hour) {
        int spot = hour * MAX_WALKERS + walker;
        int most = 0;
        for (int road = 0; road < MAX_POST_ROADS; road++) {
            if ((possible >> road & 1) != 0) {
                most = Math.max(most, roadsAlike(possible, spot, supposed[road * NIGHT_PLACES + spot]));
            }
        }
        return most;
    }

    private int roadsAlike(int possible, int spot, int place) {
        int alike = 0;
        for (int road = 0; road < MAX_POST_ROADS; road++) {
            if ((possible >> road & 1) != 0 && supposed[road * NIGHT_PLACES + spot] == place) {
                alike++;
            }
        }
        return alike;
    }

    private int slotsWithRow() {
        int with = 0;
        for (int slot = 0; slot < SLOTS; slot++) {
            if (slots[slot] != null) {
                with++;
            }
        }
        return with;
    }

    private static long partOfFraction(long above, long below, int what) {
        long divisor = greatestDivisor(Math.abs(above), below);
        if (divisor == 0) {
            return 0;
        }
        return what == 0 ? above / divisor : below / divisor;
    }

    private static long greatestDivisor(long a, long b) {
        long x = a;
        long y = b;
        for (int i = 0; i < 200 && y != 0; i++) {
            long rest = x % y;
            x = y;
            y = rest;
        }
        return x;
    }

    /** Bytes as they are fed, and the reading of them, which ends at the first FAULT. */
    private static final class Tape {
        private static final int AT_END = 0;
        private static final int WORD = 1;
        private static final int NUMBER = 2;
        private static final int SIGN = 3;
        private static final int STRANGE = 4;

        private static final int MISPLACED = 1;
        private static final int OUT_OF_BOUNDS = 2;
        private static final int ONE_TOO_MANY = 3;
        /** Far above all bounds, so that a long number can't wrap around into them. */
        private static final int HUGE = 1000000;

        private final byte[] bytes = new byte[MAX_BYTES];
        private int size = 0;
        private int fault = 0;
        private int faultPlace = NONE;
        private int kind = AT_END;
        private int start = 0;
        private int next = 0;
        private int value = 0;

        void append(int four) {
            for (int shift = 24; shift >= 0 && size < MAX_BYTES; shift -= 8) {
                bytes[size] = (byte) (four >> shift);
                size++;
            }
        }

        void readInto(Heath heath) {
            heath.clear();
            fault = 0;
            faultPlace = NONE;
            next = 0;
            take();
            for (int i = 0; i <= MAX_BYTES && fault == 0 && kind != AT_END; i++) {
                readLine(heath);
                takeSign();
                heath.lines++;
            }
        }

        private void readLine(Heath heath) {
            if (isWord("heath") && heath.lines == 0) {
                readHeath(heath);
            } else if (heath.lines == 0) {
                fail(MISPLACED);
            } else if (isWord("inn")) {
                readInn(heath);
            } else if (isWord("post")) {
                readPost(heath);
            } else if (isWord("road")) {
                readRoad(heath);
            } else if (isWord("arm")) {
                readArm(heath);
            } else if (isWord("walker")) {
                readWalker(heath);
            } else {
                fail(MISPLACED);
            }
        }

        private void readHeath(Heath heath) {
            take();
            takeWord("hours");
            heath.hours = takeNumber(1, MAX_HOURS);
            takeWord("law");
            heath.law = takeNumber(0, MAX_LAW);
            takeWord("odds");
            heath.odds = takeNumber(0, MAX_ODDS);
        }

        private void readInn(Heath heath) {
            takeWordOfFew(heath.inns, MAX_INNS);
            takeWord("room");
            int room = takeNumber(0, MAX_ROOM);
            if (fault == 0) {
                heath.rooms[heath.inns] = room;
                heath.inns++;
            }
        }

        private void readPost(Heath heath) {
            takeWordOfFew(heath.posts, MAX_POSTS);
            if (fault == 0) {
                heath.posts++;
            }
        }

        private void readRoad(Heath heath) {
            takeWordOfFew(heath.roads, MAX_ROADS);
            int post = numberHere(0, heath.posts - 1);
            if (fault == 0 && heath.roadsOf[post] == MAX_POST_ROADS) {
                fail(ONE_TOO_MANY);
            }
            take();
            int goal;
            if (isWord("in")) {
                take();
                goal = FIRST_INN + takeNumber(0, heath.inns - 1);
            } else {
                takeWord("to");
                goal = numberHere(0, heath.posts - 1);
                if (goal == post) {
                    fail(OUT_OF_BOUNDS);
                }
                take();
            }
            if (fault == 0) {
                heath.addRoad(post, goal);
            }
        }

        private void readArm(Heath heath) {
            takeWordOfFew(heath.armLines, MAX_ARM_LINES);
            int post = takeNumber(0, heath.posts - 1);
            int road = takeNumber(0, fault == 0 ? heath.roadsOf[post] - 1 : 0);
            if (fault == 0) {
                heath.toldArms[post] = road;
                heath.armLines++;
            }
        }

        private void readWalker(Heath heath) {
            takeWordOfFew(heath.walkers, MAX_WALKERS);
            int post = takeNumber(0, heath.posts - 1);
            takeWord("at");
            int hour = takeNumber(0, MAX_COMING);
            if (fault == 0) {
                heath.starts[heath.walkers] = post;
                heath.comings[heath.walkers] = hour;
                heath.walkers++;
            }
        }

        /** The first FAULT stands: behind it nothing is read, and nothing fails again. */
        private void fail(int what) {
            if (fault == 0) {
                fault = what;
                faultPlace = start;
            }
        }

        private void takeSign() {
            if (kind != SIGN) {
                fail(MISPLACED);
            }
            take();
        }

        private void takeWord(String word) {
            if (!isWord(word)) {
                fail(MISPLACED);
            }
            take();
        }

        private void takeWordOfFew(int told, int most) {
            if (told >= most) {
                fail(ONE_TOO_MANY);
            }
            take();
        }

        private int takeNumber(int least, int most) {
            int number = numberHere(least, most);
            take();
            return number;
        }

        private int numberHere(int least, int most) {
            if (kind != NUMBER) {
                fail(MISPLACED);
            } else if (value < least || value > most) {
                fail(OUT_OF_BOUNDS);
            }
            return fault == 0 ? value : 0;
        }

        private boolean isWord(String word) {
            if (kind != WORD || next - start != word.length()) {
                return false;
            }
            for (int i = 0; i < word.length(); i++) {
                if (bytes[start + i] != word.charAt(i)) {
                    return false;
                }
            }
            return true;
        }

        private void take() {
            if (fault != 0) {
                return;
            }
            while (next < size && isBlank(bytes[next])) {
                next++;
            }
            start = next;
            value = 0;
            if (next >= size) {
                kind = AT_END;
            } else if (isLetter(bytes[next])) {
                kind = WORD;
                while (next < size && isLetter(bytes[next])) {
                    next++;
                }
            } else if (isDigit(bytes[next])) {
                kind = NUMBER;
                while (next < size && isDigit(bytes[next])) {
                    value = Math.min(HUGE, value * 10 + bytes[next] - '0');
                    next++;
                }
            } else {
                kind = bytes[next] == ';' ? SIGN : STRANGE;
                next++;
            }
        }

        private static boolean isBlank(int sign) {
            return sign == 32 || sign == 10;
        }

        private static boolean isLetter(int sign) {
            return sign >= 'a' && sign <= 'z';
        }

        private static boolean isDigit(int sign) {
            return sign >= '0' && sign <= '9';
        }
    }

    /** Acts in the order in which they were done; how often each stands is kept beside, for nights to ask. */
    private static final class Acts {
        /** Where the codes of arms that are turned, and of WALKERS who are HELD, begin. */
        private static final int TURNED = 0;
        private static final int HELD = MAX_POSTS * MAX_HOURS;

        private int size = 0;
        private final int[] codes = new int[MAX_ACTS];
        private final int[] times = new int[(MAX_POSTS + MAX_WALKERS) * MAX_HOURS];

        void clear() {
            size = 0;
            Arrays.fill(times, 0);
        }

        void copyFrom(Acts source) {
            size = source.size;
            System.arraycopy(source.codes, 0, codes, 0, MAX_ACTS);
            System.arraycopy(source.times, 0, times, 0, times.length);
        }

        boolean add(int kind, int who, int hour) {
            if (size >= MAX_ACTS) {
                return false;
            }
            codes[size] = kind + who * MAX_HOURS + hour;
            times[codes[size]]++;
            size++;
            return true;
        }

        void takeBack() {
            if (size > 0) {
                size--;
                times[codes[size]]--;
            }
        }

        int timesTurned(int post, int hour) {
            return times[TURNED + post * MAX_HOURS + hour];
        }

        boolean isHeld(int walker, int hour) {
            return times[HELD + walker * MAX_HOURS + hour] > 0;
        }
    }

    /** What a text told, and the acts done since; without LINES it is none. */
    private static final class Heath {
        private int lines = 0;
        private int hours = 0;
        private int law = 0;
        private int odds = 0;
        private int inns = 0;
        private int posts = 0;
        private int roads = 0;
        private int armLines = 0;
        private int walkers = 0;
        private final int[] rooms = new int[MAX_INNS];
        private final int[] roadsOf = new int[MAX_POSTS];
        private final int[] goals = new int[MAX_POSTS * MAX_POST_ROADS];
        private final int[] toldArms = new int[MAX_POSTS];
        private final int[] starts = new int[MAX_WALKERS];
        private final int[] comings = new int[MAX_WALKERS];
        private final Acts acts = new Acts();

        void clear() {
            lines = 0;
            hours = 0;
            law = 0;
            odds = 0;
            inns = 0;
            posts = 0;
            roads = 0;
            armLines = 0;
            walkers = 0;
            Arrays.fill(roadsOf, 0);
            Arrays.fill(toldArms, 0);
            acts.clear();
        }

        void copyFrom(Heath source) {
            lines = source.lines;
            hours = source.hours;
            law = source.law;
            odds = source.odds;
            inns = source.inns;
            posts = source.posts;
            roads = source.roads;
            armLines = source.armLines;
            walkers = source.walkers;
            System.arraycopy(source.rooms, 0, rooms, 0, MAX_INNS);
            System.arraycopy(source.roadsOf, 0, roadsOf, 0, MAX_POSTS);
            System.arraycopy(source.goals, 0, goals, 0, goals.length);
            System.arraycopy(source.toldArms, 0, toldArms, 0, MAX_POSTS);
            System.arraycopy(source.starts, 0, starts, 0, MAX_WALKERS);
            System.arraycopy(source.comings, 0, comings, 0, MAX_WALKERS);
            acts.copyFrom(source.acts);
        }

        void addRoad(int post, int goal) {
            goals[post * MAX_POST_ROADS + roadsOf[post]] = goal;
            roadsOf[post]++;
            roads++;
        }

        boolean isTold() {
            return lines > 0;
        }

        boolean hasInn(int inn) {
            return inn >= 0 && inn < inns;
        }

        boolean hasPost(int post) {
            return post >= 0 && post < posts;
        }

        boolean hasPlace(int place) {
            return place < FIRST_INN ? hasPost(place) : hasInn(place - FIRST_INN);
        }

        boolean hasWalker(int walker) {
            return walker >= 0 && walker < walkers;
        }

        boolean hasHour(int hour) {
            return isTold() && hour >= 0 && hour <= hours;
        }

        boolean hasHourAhead(int hour) {
            return hasHour(hour) && hour < hours;
        }

        boolean hasArm(int post) {
            return roadsOf[post] > 0;
        }

        int goal(int post, int road) {
            return goals[post * MAX_POST_ROADS + road];
        }

        int nextRoad(int post, int road) {
            return road + 1 < roadsOf[post] ? road + 1 : 0;
        }

        /** The road by which a POST sends; its arm, at arms[from + post], turns by the LAW, or is STIFF. */
        int sendBy(int[] arms, int from, int post, int byLaw) {
            int road = arms[from + post];
            int next = road + 1 < roadsOf[post] ? road + 1 : 0;
            switch (byLaw) {
                case 0:
                    arms[from + post] = next;
                    return road;
                case 1:
                    arms[from + post] = next;
                    return next;
                case 2:
                    arms[from + post] = road > 0 ? road - 1 : roadsOf[post] - 1;
                    return road;
                case 3:
                    if (goals[post * MAX_POST_ROADS + road] < FIRST_INN) {
                        arms[from + post] = next;
                    }
                    return road;
                default:
                    return road;
            }
        }

        int innsBeside(int post) {
            int found = 0;
            for (int road = 0; road < roadsOf[post]; road++) {
                if (goal(post, road) >= FIRST_INN) {
                    found |= 1 << goal(post, road) - FIRST_INN;
                }
            }
            return found;
        }

        int postsWithoutRoads() {
            int found = 0;
            for (int post = 0; post < posts; post++) {
                if (!hasArm(post)) {
                    found |= 1 << post;
                }
            }
            return found;
        }

        int placesFrom(int post) {
            int places = 1 << post;
            for (int i = 0; i < MAX_POSTS; i++) {
                places = oneRoadOn(places);
            }
            return places;
        }

        int distance(int post, int place) {
            int places = 1 << post;
            for (int walked = 0; walked <= MAX_POSTS; walked++) {
                if ((places >> place & 1) != 0) {
                    return walked;
                }
                places = oneRoadOn(places);
            }
            return NONE;
        }

        private int oneRoadOn(int places) {
            int found = places;
            for (int post = 0; post < posts; post++) {
                for (int road = 0; road < roadsOf[post] && (places >> post & 1) != 0; road++) {
                    found |= 1 << goal(post, road);
                }
            }
            return found;
        }

        int settingNumber(int[] arms, int from) {
            int number = 0;
            int times = 1;
            for (int post = 0; post < posts; post++) {
                if (hasArm(post)) {
                    number += arms[from + post] * times;
                    times *= roadsOf[post];
                }
            }
            return number;
        }

        int allSettings() {
            int all = 1;
            for (int post = 0; post < posts; post++) {
                if (hasArm(post)) {
                    all *= roadsOf[post];
                }
            }
            return all;
        }

        boolean isTree(int[] arms, int from) {
            for (int post = 0; post < posts; post++) {
                if (hasArm(post) && !leadsToInn(arms, from, post)) {
                    return false;
                }
            }
            return true;
        }

        private boolean leadsToInn(int[] arms, int from, int post) {
            int place = post;
            for (int i = 0; i < MAX_POSTS && place < FIRST_INN && hasArm(place); i++) {
                place = goal(place, arms[from + place]);
            }
            return place >= FIRST_INN;
        }

        int postsOnRings(int[] arms, int from) {
            int found = 0;
            for (int post = 0; post < posts; post++) {
                if (leadsBack(arms, from, post)) {
                    found |= 1 << post;
                }
            }
            return found;
        }

        private boolean leadsBack(int[] arms, int from, int post) {
            int place = post;
            for (int i = 0; i < MAX_POSTS && place < FIRST_INN && hasArm(place); i++) {
                place = goal(place, arms[from + place]);
                if (place == post) {
                    return true;
                }
            }
            return false;
        }
    }

    /** One night, HOUR by HOUR: as it is, or as it would be if something were otherwise. */
    private static final class Night {
        private final Heath heath;
        private int law = 0;
        /** POSTS whose arms turn when WALKERS are SENT, as bits. */
        private int turning = ALL_POSTS;
        /** HOURS from which there is FOG, as bits. */
        private int foggy = 0;
        private final int[] comings = new int[MAX_WALKERS];
        private final int[] places = new int[NIGHT_PLACES];
        private final int[] arms = new int[(MAX_HOURS + 1) * MAX_POSTS];
        /** The road by which each WALKER is SENT from each HOUR; NONE: he is not. */
        private final int[] roadsTaken = new int[NIGHT_PLACES];
        private final int[] guests = new int[MAX_INNS];

        Night(Heath heath) {
            this.heath = heath;
        }

        /** All as told; what is to be otherwise is set behind it, ahead of run. */
        void prepare() {
            law = heath.law;
            turning = ALL_POSTS;
            foggy = 0;
            System.arraycopy(heath.comings, 0, comings, 0, MAX_WALKERS);
            System.arraycopy(heath.toldArms, 0, arms, 0, MAX_POSTS);
        }

        void neverComes(int walker) {
            comings[walker] = MAX_HOURS + 1;
        }

        void pointAtFirst(int post, int road) {
            arms[post] = road;
        }

        void run() {
            begin();
            for (int hour = 0; hour < heath.hours; hour++) {
                passHour(hour);
            }
        }

        void begin() {
            for (int walker = 0; walker < heath.walkers; walker++) {
                places[walker] = comings[walker] == 0 ? heath.starts[walker] : NONE;
            }
        }

        /** From an HOUR to the next one, which holds all that the further ones need. */
        void passHour(int hour) {
            System.arraycopy(arms, hour * MAX_POSTS, arms, (hour + 1) * MAX_POSTS, MAX_POSTS);
            turnByActs(hour);
            countGuests(hour);
            for (int walker = 0; walker < heath.walkers; walker++) {
                if (isSentFrom(walker, hour)) {
                    sendOn(walker, hour);
                } else {
                    stayOn(walker, hour);
                }
            }
        }

        private void turnByActs(int hour) {
            for (int post = 0; post < heath.posts; post++) {
                int times = heath.hasArm(post) ? heath.acts.timesTurned(post, hour) : 0;
                for (int i = 0; i < times; i++) {
                    int arm = (hour + 1) * MAX_POSTS + post;
                    arms[arm] = heath.nextRoad(post, arms[arm]);
                }
            }
        }

        private void countGuests(int hour) {
            Arrays.fill(guests, 0);
            for (int walker = 0; walker < heath.walkers; walker++) {
                int place = placeOf(walker, hour);
                if (place >= FIRST_INN) {
                    guests[place - FIRST_INN]++;
                }
            }
        }

        private boolean isSentFrom(int walker, int hour) {
            int place = placeOf(walker, hour);
            if (place == NONE || place >= FIRST_INN || !heath.hasArm(place)) {
                return false;
            }
            return (foggy >> hour & 1) == 0 && !heath.acts.isHeld(walker, hour);
        }

        private void stayOn(int walker, int hour) {
            int place = placeOf(walker, hour);
            if (place == NONE && comings[walker] == hour + 1) {
                place = heath.starts[walker];
            }
            roadsTaken[hour * MAX_WALKERS + walker] = NONE;
            places[(hour + 1) * MAX_WALKERS + walker] = place;
        }

        private void sendOn(int walker, int hour) {
            int post = placeOf(walker, hour);
            int postLaw = (turning >> post & 1) == 0 ? STIFF : law;
            int road = heath.sendBy(arms, (hour + 1) * MAX_POSTS, post, postLaw);
            int goal = heath.goal(post, road);
            roadsTaken[hour * MAX_WALKERS + walker] = road;
            places[(hour + 1) * MAX_WALKERS + walker] = letsIn(goal) ? goal : post;
        }

        private boolean letsIn(int goal) {
            if (goal < FIRST_INN) {
                return true;
            }
            int inn = goal - FIRST_INN;
            if (guests[inn] >= heath.rooms[inn]) {
                return false;
            }
            guests[inn]++;
            return true;
        }

        int placeOf(int walker, int hour) {
            return places[hour * MAX_WALKERS + walker];
        }

        int armOf(int post, int hour) {
            return heath.hasArm(post) ? arms[hour * MAX_POSTS + post] : NONE;
        }

        private boolean isSent(int walker, int hour) {
            return roadsTaken[hour * MAX_WALKERS + walker] != NONE;
        }

        int walkersAt(int place, int hour) {
            int found = 0;
            for (int walker = 0; walker < heath.walkers; walker++) {
                if (placeOf(walker, hour) == place) {
                    found |= 1 << walker;
                }
            }
            return found;
        }

        int walkersSent(int hour) {
            int found = 0;
            for (int walker = 0; walker < heath.walkers; walker++) {
                if (isSent(walker, hour)) {
                    found |= 1 << walker;
                }
            }
            return found;
        }

        int walkersInside(int hour) {
            int found = 0;
            for (int walker = 0; walker < heath.walkers; walker++) {
                if (placeOf(walker, hour) >= FIRST_INN) {
                    found |= 1 << walker;
                }
            }
            return found;
        }

        int walkersOutside(int hour) {
            int found = 0;
            for (int walker = 0; walker < heath.walkers; walker++) {
                int place = placeOf(walker, hour);
                if (place != NONE && place < FIRST_INN) {
                    found |= 1 << walker;
                }
            }
            return found;
        }

        int timesPostSent(int post) {
            int times = 0;
            for (int road = 0; road < heath.roadsOf[post]; road++) {
                times += timesRoadUsed(post, road);
            }
            return times;
        }

        int timesRoadUsed(int post, int road) {
            int times = 0;
            for (int hour = 0; hour < heath.hours; hour++) {
                for (int walker = 0; walker < heath.walkers; walker++) {
                    if (placeOf(walker, hour) == post && roadsTaken[hour * MAX_WALKERS + walker] == road) {
                        times++;
                    }
                }
            }
            return times;
        }

        int timesWalked(int walker) {
            int times = 0;
            for (int hour = 0; hour < heath.hours; hour++) {
                if (isSent(walker, hour)) {
                    times++;
                }
            }
            return times;
        }

        int firstHourHome(int walker) {
            for (int hour = 0; hour <= heath.hours; hour++) {
                if (placeOf(walker, hour) >= FIRST_INN) {
                    return hour;
                }
            }
            return NONE;
        }

        int firstHourIn(int walker, int place) {
            for (int hour = 0; hour <= heath.hours; hour++) {
                if (placeOf(walker, hour) == place) {
                    return hour;
                }
            }
            return NONE;
        }

        int postsVisited(int walker) {
            int found = 0;
            for (int hour = 0; hour <= heath.hours; hour++) {
                found |= postBit(walker, hour);
            }
            return found;
        }

        int timesReturned(int walker) {
            int times = 0;
            int visited = postBit(walker, 0);
            for (int hour = 1; hour <= heath.hours; hour++) {
                int bit = postBit(walker, hour);
                if ((visited & bit) != 0 && bit != postBit(walker, hour - 1)) {
                    times++;
                }
                visited |= bit;
            }
            return times;
        }

        int hoursLingered(int walker) {
            int lingered = 0;
            for (int hour = 1; hour <= heath.hours; hour++) {
                int bit = postBit(walker, hour);
                if (bit != 0 && bit == postBit(walker, hour - 1)) {
                    lingered++;
                }
            }
            return lingered;
        }

        /** The POST at which a WALKER is, as a bit; 0 if he is at none. */
        private int postBit(int walker, int hour) {
            int place = placeOf(walker, hour);
            return place == NONE || place >= FIRST_INN ? 0 : 1 << place;
        }

        int guestsIn(int inn, int hour) {
            return Integer.bitCount(walkersAt(FIRST_INN + inn, hour));
        }

        int firstHourFull(int inn) {
            for (int hour = 0; hour <= heath.hours; hour++) {
                if (guestsIn(inn, hour) >= heath.rooms[inn]) {
                    return hour;
                }
            }
            return NONE;
        }

        int timesRefused(int inn) {
            int times = 0;
            for (int hour = 0; hour < heath.hours; hour++) {
                for (int walker = 0; walker < heath.walkers; walker++) {
                    if (isSent(walker, hour) && isRefused(walker, hour, FIRST_INN + inn)) {
                        times++;
                    }
                }
            }
            return times;
        }

        private boolean isRefused(int walker, int hour, int place) {
            int road = roadsTaken[hour * MAX_WALKERS + walker];
            return heath.goal(placeOf(walker, hour), road) == place && placeOf(walker, hour + 1) != place;
        }

        int firstHourAllInside() {
            int all = (1 << heath.walkers) - 1;
            for (int hour = 0; hour <= heath.hours; hour++) {
                if (all != 0 && walkersInside(hour) == all) {
                    return hour;
                }
            }
            return NONE;
        }

        int mostAtOnePost(int hour) {
            int most = 0;
            for (int post = 0; post < heath.posts; post++) {
                most = Math.max(most, Integer.bitCount(walkersAt(post, hour)));
            }
            return most;
        }

        int firstHourTogether(int walker, int second) {
            for (int hour = 0; hour <= heath.hours; hour++) {
                int place = placeOf(walker, hour);
                if (place != NONE && place == placeOf(second, hour)) {
                    return hour;
                }
            }
            return NONE;
        }
    }

    /** WALKERS SENT one behind the other, each ALONE; arms stay as the one ahead left them. */
    private static final class Lone {
        private final Heath heath;
        private final int[] arms = new int[MAX_POSTS];
        private int timesSent = 0;

        Lone(Heath heath) {
            this.heath = heath;
        }

        void begin() {
            System.arraycopy(heath.toldArms, 0, arms, 0, MAX_POSTS);
        }

        void setArms(int number) {
            int rest = number;
            for (int post = 0; post < heath.posts; post++) {
                int roads = heath.roadsOf[post];
                if (roads > 0) {
                    arms[post] = rest % roads;
                    rest /= roads;
                }
            }
        }

        /** The INN that takes him in, or NONE. */
        int sendFrom(int post) {
            int place = post;
            timesSent = 0;
            while (timesSent < MAX_SENT_ALONE && place < FIRST_INN && heath.hasArm(place)) {
                place = heath.goal(place, heath.sendBy(arms, 0, place, heath.law));
                timesSent++;
            }
            return place >= FIRST_INN ? place - FIRST_INN : NONE;
        }

        int settingNow() {
            return heath.settingNumber(arms, 0);
        }
    }

    /** FOG by chance, kept for the HOUR that was asked last, and FOG as it is drawn. */
    private static final class Fog {
        private static final int IN_ALL = 10;

        private final Heath heath;
        private int learned = NONE;
        /** Of the whole, how much falls to nights in which each WALKER is in an INN. */
        private final long[] weights = new long[MAX_WALKERS];
        private long whole = 1;

        Fog(Heath heath) {
            this.heath = heath;
        }

        void forget() {
            learned = NONE;
        }

        void learn(Night night, int hour) {
            if (learned == hour) {
                return;
            }
            learned = hour;
            Arrays.fill(weights, 0);
            whole = 1;
            for (int i = 0; i <= hour; i++) {
                whole *= IN_ALL;
            }
            night.prepare();
            night.begin();
            branch(this, night, 0, hour, 1);
        }

        /** Nights that are alike up to an HOUR share it: only what follows is told apart. */
        private static void branch(Fog fog, Night night, int hour, int last, long weight) {
            if (hour > last || hour > MAX_FOG_HOUR) {
                fog.addInside(night.walkersInside(hour), weight);
                return;
            }
            int odds = fog.heath.odds;
            if (odds > 0) {
                night.foggy |= 1 << hour;
                night.passHour(hour);
                branch(fog, night, hour + 1, last, weight * odds);
            }
            if (odds < IN_ALL) {
                night.foggy &= ~(1 << hour);
                night.passHour(hour);
                branch(fog, night, hour + 1, last, weight * (IN_ALL - odds));
            }
        }

        private void addInside(int walkers, long weight) {
            for (int walker = 0; walker < heath.walkers; walker++) {
                if ((walkers >> walker & 1) != 0) {
                    weights[walker] += weight;
                }
            }
        }

        /** HOURS from which there is FOG, as bits. */
        int drawnFrom(long seed) {
            long x = seed;
            int drawn = 0;
            for (int hour = 0; hour < heath.hours; hour++) {
                x = (1103515245L * x + 12345L) % 2147483648L;
                if (x / 65536L % 10L < heath.odds) {
                    drawn |= 1 << hour;
                }
            }
            return drawn;
        }
    }

    /** A row of numbers, each cut to the row's WIDTH; no row at all is no Slot. */
    private static final class Slot {
        private final long[] numbers = new long[MAX_NUMBERS];
        private int width = 0;
        private int size = 0;

        void begin(int newWidth, int newSize) {
            width = newWidth;
            size = newSize;
            Arrays.fill(numbers, 0);
        }

        void put(int i, long v) {
            numbers[i] = cut(v);
        }

        private long cut(long v) {
            switch (width) {
                case 0: return (byte) v;
                case 1: return (short) v;
                case 2: return (int) v;
                default: return v;
            }
        }

        /** n numbers from one on; summed as long, since two ints may wrap around. */
        boolean hasPart(int from, int n) {
            return from >= 0 && n >= 0 && (long) from + n <= size;
        }
    }
}
