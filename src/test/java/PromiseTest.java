/** Each promise of the document by its number, with answers worked out by hand (where not, it says so). */
public final class PromiseTest {
    /**
     * By LAW 0, arms at 0, 1, 0: WALKERS 0, 1, 2, 3 are at
     * HOUR 0: 0 0 - -, 1: 1 2 0 -, 2: 0 11 1 3, 3: 2 11 10 3, from 4 on: 11 11 10 3;
     * arms in HOUR 0: 0 1 0, 1: 0 1 0, 2: 1 0 0, from 3 on: 0 1 0. POST 3 has no roads.
     */
    private static final String WALKED = "heath hours 6 law 0 odds 5;inn room 1;inn room 2;post;post;post;post;"
        + "road 0 to 1;road 0 to 2;road 1 in 0;road 1 to 0;road 2 in 1;arm 1 0;arm 1 1;"
        + "walker 0 at 0;walker 0 at 0;walker 0 at 1;walker 3 at 2;";
    /** By LAW 3 the arm stays at an INN with room for one: two of three are turned away, HOUR by HOUR. */
    private static final String REFUSING = "heath hours 3 law 3 odds 0;inn room 1;inn room 0;post;post;"
        + "road 0 in 0;road 0 to 1;road 1 in 1;walker 0 at 0;walker 0 at 0;walker 0 at 0;";
    /** POST 1 is an end without roads; the arm stands at it first. */
    private static final String END_FIRST = "heath hours 3 law 0 odds 3;inn room 9;post;post;"
        + "road 0 to 1;road 0 in 0;walker 0 at 0;";
    private static final String HEAD = "heath hours 3 law 0 odds 0;";

    private static String at = "";

    private PromiseTest() {
    }

    private static void due(long got, long want) {
        Due.is(at, got, want);
    }

    private static void promise(int number, String name) {
        at = "promise " + number + ", " + name;
    }

    private static void faults(String text, int kind, int place) {
        ObligingPosts x = Due.heath(HEAD);
        Due.tape(x, text);
        String was = at;
        at = was + ": " + text;
        due(x.heath(), -4);
        due(x.fault(0), kind);
        due(x.fault(1), place);
        due(x.count(10), text.length());
        due(x.count(0), 3);
        at = was;
    }

    private static void newObject() {
        promise(1, "a new object");
        ObligingPosts x = new ObligingPosts();
        for (int what = 0; what <= 11; what++) {
            due(x.count(what), 0);
        }
        due(x.done(), -2);
        due(x.at(0, 0), -2);
        due(x.inside(0), -2);
        due(x.back(0), -6);
        due(ObligingPosts.NONE, -1);
    }

    private static void tape() {
        promise(2, "feed");
        ObligingPosts x = new ObligingPosts();
        due(x.feed(0x68656174, 0x6820686F, 0x75727320, 0x31206C61, 0x77203020), 20);
        due(x.feed(0x6F646473, 0x20303B20, 0, -1, 0x80000000), 40);
        promise(3, "end");
        due(x.end(41), -1);
        due(x.end(-1), -1);
        due(x.count(10), 40);
        due(x.end(28), 28);
        due(x.heath(), 1);
        due(x.count(0), 1);
        due(x.count(10), 0);
        due(x.end(1), -1);
        due(x.end(0), 0);
        promise(2, "feed to the brim");
        for (int i = 1; i <= 40; i++) {
            due(x.feed(i, i, i, i, i), 20 * i);
        }
        due(x.feed(0, 0, 0, 0, 0), -1);
        due(x.count(10), 800);
        due(x.end(781), 781);
        due(x.feed(0, 0, 0, 0, 0), -1);
        due(x.end(780), 780);
        due(x.feed(0, 0, 0, 0, 0), 800);
    }

    private static void heath() {
        promise(4, "heath");
        ObligingPosts x = Due.heath(WALKED);
        due(x.count(9), 18);
        due(x.twists(0, 0), 1);
        Due.tape(x, "heath hours 2 law 1 odds 0;post;");
        due(x.heath(), 2);
        due(x.count(8), 0);
        due(x.count(1), 1);
        due(x.count(3), 0);
        Due.tape(x, "  \n");
        due(x.heath(), 0);
        due(x.count(9), 0);
        due(x.count(10), 0);
        due(x.armless(), -2);
        due(Due.heath("heath hours016\nlaw3odds10;post;inn room 0009;").count(0), 16);
        x = Due.heath(WALKED);
        x.twists(0, 0);
        Due.tape(x, "heath hours 17 law 1 odds 0;");
        due(x.heath(), -4);
        due(x.count(8), 1);
        due(x.count(9), 18);
        due(x.count(10), 28);
    }

    private static void fault() {
        promise(5, "fault");
        ObligingPosts x = new ObligingPosts();
        due(x.fault(0), 0);
        due(x.fault(1), -1);
        due(x.fault(2), -1);
        due(x.fault(-1), -1);
        faults("inn room 1;", 1, 0);
        faults(HEAD + "heath hours 3 law 0 odds 0;", 1, 27);
        faults("heath hours 3 law 0 odds 0", 1, 26);
        faults("heath hours 3 law 0 odds 0 ", 1, 27);
        faults(HEAD + "Post;", 1, 27);
        faults(HEAD + "post\t;", 1, 31);
        faults(HEAD + "post" + (char) 200 + ";", 1, 31);
        faults(HEAD + ";", 1, 27);
        faults(HEAD + "posts;", 1, 27);
        faults(HEAD + "inn room ten;", 1, 36);
        faults(HEAD + "inn 1;", 1, 31);
        faults(HEAD + "post;road 0 at 0;", 1, 39);
        faults("heath hours 0 law 0 odds 0;", 2, 12);
        faults("heath hours 17 law 4 odds 0;", 2, 12);
        faults("heath hours 16 law 4 odds 0;", 2, 19);
        faults("heath hours 16 law 3 odds 11;", 2, 26);
        faults(HEAD + "inn room 10;", 2, 36);
        faults(HEAD + "inn room 4294967297;", 2, 36);
        faults(HEAD + "post;post;road 2 to 0;", 2, 42);
        faults(HEAD + "post;post;road 0 to 0;", 2, 47);
        faults(HEAD + "post;road 0 to 1;post;", 2, 42);
        faults(HEAD + "post;road 0 in 0;inn room 1;", 2, 42);
        faults(HEAD + "post;arm 0 0;", 2, 38);
        faults(HEAD + "post;walker 0 at 16;", 2, 44);
        faults(HEAD + "walker 0 at 0;", 2, 34);
        faults(HEAD + "inn room 1;".repeat(4) + "inn", 3, 71);
        faults(HEAD + "post;".repeat(8), 3, 62);
        String wide = HEAD + "post;".repeat(5) + "inn room 0;";
        String roads = "road 0 in 0;".repeat(4) + "road 1 in 0;".repeat(4) + "road 2 in 0;".repeat(4);
        faults(wide + roads + "road 3 in 0;".repeat(4) + "road 9", 3, 63 + 16 * 12);
        faults(wide + roads + "road 2 what", 3, 63 + 12 * 12 + 5);
        faults(wide + roads + "arm 0 3;".repeat(8) + "arm 9", 3, 63 + 144 + 64);
        faults(wide + "walker 0 at 15;".repeat(9), 3, 63 + 8 * 15);
        x = Due.heath(HEAD);
        due(x.fault(0), 0);
        due(x.fault(1), -1);
    }

    private static void told() {
        ObligingPosts x = Due.heath(WALKED);
        promise(6, "room");
        due(x.room(0), 1);
        due(x.room(1), 2);
        due(x.room(2), -2);
        due(x.room(-1), -2);
        promise(7, "roads");
        due(x.roads(0), 2);
        due(x.roads(3), 0);
        due(x.roads(4), -2);
        promise(8, "goes");
        due(x.goes(0, 1), 2);
        due(x.goes(1, 0), 10);
        due(x.goes(1, 2), -1);
        due(x.goes(3, 0), -1);
        due(x.goes(0, -1), -2);
        due(x.goes(4, 0), -2);
        promise(9, "told");
        due(x.told(0), 0);
        due(x.told(1), 1);
        due(x.told(3), -1);
        due(x.told(-1), -2);
        promise(10, "walker");
        due(x.walker(2, 0), 0);
        due(x.walker(3, 0), 3);
        due(x.walker(3, 1), 2);
        due(x.walker(3, 2), -2);
        due(x.walker(4, 0), -2);
    }

    private static void night() {
        ObligingPosts x = Due.heath(WALKED);
        int[][] places = {{0, 0, -1, -1}, {1, 2, 0, -1}, {0, 11, 1, 3}, {2, 11, 10, 3}, {11, 11, 10, 3}};
        int[][] arms = {{0, 1, 0, -1}, {0, 1, 0, -1}, {1, 0, 0, -1}, {0, 1, 0, -1}, {0, 1, 0, -1}};
        for (int hour = 0; hour <= 6; hour++) {
            for (int i = 0; i < 4; i++) {
                promise(11, "at " + i + " in " + hour);
                due(x.at(i, hour), places[Math.min(4, hour)][i]);
                promise(12, "arm " + i + " in " + hour);
                due(x.arm(i, hour), arms[Math.min(4, hour)][i]);
            }
        }
        promise(11, "at");
        due(x.at(4, 0), -2);
        due(x.at(0, 7), -2);
        due(x.at(0, -1), -2);
        promise(12, "arm");
        due(x.arm(4, 0), -2);
        due(x.arm(0, 7), -2);
        promise(13, "here");
        due(x.here(0, 0), 3);
        due(x.here(11, 5), 3);
        due(x.here(10, 2), 0);
        due(x.here(12, 0), -2);
        due(x.here(9, 0), -2);
        due(x.here(-1, 0), -2);
        due(x.here(0, 7), -2);
        promise(14, "sent");
        due(x.sent(0), 3);
        due(x.sent(1), 7);
        due(x.sent(2), 5);
        due(x.sent(5), 0);
        due(x.sent(6), -2);
        due(x.sent(-1), -2);
        promise(15, "sends");
        due(x.sends(0), 4);
        due(x.sends(2), 2);
        due(x.sends(3), 0);
        due(x.sends(4), -2);
        promise(16, "used");
        due(x.used(0, 0), 2);
        due(x.used(1, 1), 1);
        due(x.used(1, 2), -1);
        due(x.used(1, -1), -2);
        due(x.used(7, 0), -2);
    }

    /** What happens in the last HOUR counts, too. */
    private static void lastHour() {
        ObligingPosts x = Due.heath("heath hours 2 law 0 odds 0;inn room 2;post;post;road 0 to 1;road 1 in 0;"
            + "road 0 in 0;walker 1 at 1;walker 0 at 0;");
        promise(18, "home in the last HOUR");
        due(x.home(1), 2);
        promise(25, "full in the last HOUR");
        due(x.full(0), 2);
        promise(29, "done in the last HOUR");
        due(x.done(), 2);
        promise(39, "same in the last HOUR");
        due(Due.heath("heath hours 2 law 0 odds 0;post;post;road 0 to 1;road 0 to 1;"
            + "walker 0 at 0;walker 0 at 1;").same(), 2);
        promise(20, "trail in the last HOUR");
        ObligingPosts back = Due.heath("heath hours 2 law 0 odds 0;post;post;post;road 0 to 1;road 1 to 0;road 1 to 2;"
            + "walker 0 at 0;walker 1 at 1;walker 2 at 2;");
        due(back.trail(1), 6);
        due(back.trail(2), 4);
        promise(21, "again in the last HOUR");
        due(back.again(0), 1);
        due(back.again(1), 0);
        promise(32, "meet in the last HOUR");
        due(back.meet(1, 2), 2);
        promise(49, "point in the last HOUR");
        ObligingPosts late = Due.heath("heath hours 2 law 0 odds 0;inn room 1;post;post;post;road 0 to 1;road 0 to 2;"
            + "road 2 in 0;walker 0 at 0;");
        due(late.point(0, 0), 1);
        due(late.best(), 1);
    }

    private static void walkers() {
        ObligingPosts x = Due.heath(WALKED);
        promise(17, "walks");
        due(x.walks(0), 4);
        due(x.walks(3), 0);
        due(x.walks(4), -2);
        promise(18, "home");
        due(x.home(0), 4);
        due(x.home(2), 3);
        due(x.home(3), -1);
        due(x.home(-1), -2);
        promise(19, "inn");
        due(x.inn(0), 1);
        due(x.inn(2), 0);
        due(x.inn(3), -1);
        due(x.inn(4), -2);
        promise(20, "trail");
        due(x.trail(0), 7);
        due(x.trail(1), 5);
        due(x.trail(3), 8);
        due(x.trail(4), -2);
        promise(21, "again");
        due(x.again(0), 1);
        due(x.again(3), 0);
        due(x.again(4), -2);
        promise(22, "lingers");
        due(x.lingers(3), 4);
        due(x.lingers(1), 0);
        due(x.lingers(4), -2);
        promise(23, "doors");
        due(x.doors(0), 0);
        due(x.doors(1), 1);
        due(x.doors(2), 2);
        due(x.doors(4), -2);
    }

    private static void inns() {
        ObligingPosts x = Due.heath(REFUSING);
        promise(24, "guests");
        due(x.guests(0, 0), 0);
        due(x.guests(0, 1), 1);
        due(x.guests(2, 0), -2);
        due(x.guests(0, 4), -2);
        promise(25, "full");
        due(x.full(0), 1);
        due(x.full(1), 0);
        due(x.full(2), -2);
        due(Due.heath(END_FIRST).full(0), -1);
        promise(26, "refuses");
        due(x.refuses(0), 6);
        due(x.refuses(1), 0);
        due(x.refuses(2), -2);
        promise(22, "lingers, turned away");
        due(x.lingers(1), 3);
        promise(14, "sent, turned away");
        due(x.sent(2), 6);
        promise(11, "at, LAW 3");
        due(x.arm(0, 3), 0);
        due(x.at(2, 3), 0);
        promise(27, "inside");
        due(x.inside(0), 0);
        due(x.inside(1), 1);
        due(x.inside(4), -2);
        promise(28, "outside");
        due(x.outside(0), 7);
        due(x.outside(3), 6);
        due(x.outside(-1), -2);
        due(Due.heath(WALKED).outside(0), 3);
        promise(29, "done");
        due(x.done(), -1);
        due(Due.heath(HEAD).done(), -1);
        due(Due.heath(HEAD + "inn room 2;post;road 0 in 0;walker 0 at 0;walker 0 at 1;").done(), 2);
        promise(30, "crowd");
        due(x.crowd(0), 3);
        due(x.crowd(1), 2);
        due(x.crowd(4), -2);
        due(Due.heath(HEAD).crowd(0), 0);
    }

    private static void posts() {
        ObligingPosts x = Due.heath(WALKED);
        ObligingPosts bare = Due.heath(HEAD);
        promise(31, "armless");
        due(x.armless(), 8);
        due(bare.armless(), 0);
        due(new ObligingPosts().armless(), -2);
        promise(32, "meet");
        due(x.meet(0, 1), 0);
        due(x.meet(0, 2), -1);
        due(x.meet(2, 3), -1);
        due(x.meet(0, 0), -2);
        due(x.meet(0, 4), -2);
        due(Due.heath(HEAD + "inn room 2;post;post;road 0 in 0;road 1 in 0;"
            + "walker 0 at 0;walker 1 at 1;").meet(1, 0), 2);
        promise(33, "busy");
        due(x.busy(), 0);
        due(bare.busy(), -1);
        due(Due.heath(HEAD + "post;post;").busy(), 0);
        due(Due.heath(HEAD + "post;post;road 1 to 0;walker 1 at 0;").busy(), 1);
        due(new ObligingPosts().busy(), -2);
        promise(34, "idle");
        due(x.idle(), 8);
        due(bare.idle(), 0);
        due(new ObligingPosts().idle(), -2);
        promise(35, "reach");
        due(x.reach(0), 7 | 3 << 10);
        due(x.reach(2), 4 | 2 << 10);
        due(x.reach(3), 8);
        due(x.reach(4), -2);
        promise(36, "far");
        due(x.far(1, 1), 0);
        due(x.far(1, 2), 2);
        due(x.far(1, 11), 3);
        due(x.far(2, 0), -1);
        due(x.far(3, 10), -1);
        due(x.far(0, 12), -2);
        due(x.far(0, 4), -2);
        due(x.far(4, 0), -2);
        String chain = HEAD + "inn room 0;" + "post;".repeat(7) + "road 0 to 1;road 1 to 2;road 2 to 3;"
            + "road 3 to 4;road 4 to 5;road 5 to 6;road 6 in 0;";
        due(Due.heath(chain).far(0, 10), 7);
        due(Due.heath(chain).reach(0), 127 | 1 << 10);
    }

    private static void settings() {
        ObligingPosts x = Due.heath(WALKED);
        promise(37, "setting");
        due(x.setting(0), 2);
        due(x.setting(2), 1);
        due(x.setting(6), 2);
        due(x.setting(7), -2);
        promise(38, "settings");
        due(x.settings(), 4);
        due(Due.heath(HEAD).settings(), 1);
        due(new ObligingPosts().settings(), -2);
        promise(39, "same");
        due(x.same(), 1);
        due(Due.heath(END_FIRST).same(), -1);
        due(new ObligingPosts().same(), -2);
        promise(46, "tree");
        due(x.tree(0), 0);
        due(x.tree(2), 1);
        due(x.tree(7), -2);
        due(Due.heath(HEAD + "post;").tree(0), 1);
        due(Due.heath(END_FIRST).tree(0), 0);
        promise(47, "ring");
        due(x.ring(0), 3);
        due(x.ring(2), 0);
        due(x.ring(-1), -2);
        String tail = HEAD + "post;post;post;road 0 to 1;road 1 to 2;road 2 to 1;";
        due(Due.heath(tail).ring(0), 6);
        due(Due.heath(tail).tree(0), 0);
        promise(48, "trees");
        due(x.trees(), 3);
        due(Due.heath(END_FIRST).trees(), 1);
        due(Due.heath(HEAD).trees(), 1);
        due(new ObligingPosts().trees(), -2);
    }

    private static void alone() {
        ObligingPosts x = Due.heath(WALKED);
        // Acts are put aside by all of these.
        x.twists(0, 0);
        x.holds(0, 0);
        promise(40, "alone");
        due(x.alone(0), 1);
        due(x.alone(1), 0);
        due(x.alone(3), -1);
        due(x.alone(4), -2);
        due(Due.heath(REFUSING).alone(1), 1);
        due(Due.heath(HEAD + "post;post;road 0 to 1;road 1 to 0;").alone(0), -1);
        promise(41, "steps");
        due(x.steps(0), 4);
        due(x.steps(2), 1);
        due(x.steps(3), -1);
        due(x.steps(-1), -2);
        promise(42, "behind");
        due(x.behind(0), 0);
        due(x.behind(1), 3);
        due(x.behind(3), -1);
        due(x.behind(4), -2);
        promise(43, "nth");
        due(x.nth(0, 1), 1);
        due(x.nth(0, 2), 0);
        due(x.nth(0, 20), 0);
        due(x.nth(3, 1), -1);
        due(x.nth(0, 0), -2);
        due(x.nth(0, 21), -2);
        due(x.nth(4, 1), -2);
        due(Due.heath(HEAD + "inn room 0;post;post;road 0 in 0;road 0 to 1;").nth(0, 2), -1);
        promise(44, "round");
        due(x.round(0), 3);
        due(x.round(2), 1);
        due(x.round(3), -1);
        due(x.round(4), -2);
        // Found by a search, and told so by the Model, too: too long to walk by hand.
        String sixty = HEAD + "inn room 0;post;post;post;post;post;road 0 to 4;road 0 to 2;road 1 in 0;road 1 to 2;"
            + "road 1 in 0;road 1 to 4;road 2 in 0;road 2 in 0;road 2 to 1;road 2 to 4;road 3 to 2;road 3 to 0;"
            + "road 3 to 4;road 4 to 3;road 4 in 0;";
        due(Due.heath(sixty).round(0), 60);
        String sixtyFour = HEAD + "inn room 0;post;post;post;" + "road 0 in 0;".repeat(3) + "road 0 to 1;"
            + "road 1 in 0;".repeat(3) + "road 1 to 2;" + "road 2 in 0;".repeat(4);
        due(Due.heath(sixtyFour).round(0), -1);
        due(Due.heath(sixtyFour).round(1), 16);
        promise(45, "houses");
        due(x.houses(0, 4, 0), 1);
        due(x.houses(0, 4, 1), 3);
        due(x.houses(3, 4, 1), -1);
        due(x.houses(0, 4, 2), -2);
        due(x.houses(0, 0, 0), -2);
        due(x.houses(0, 21, 0), -2);
        due(x.houses(9, 1, 0), -2);
    }

    private static void pointing() {
        ObligingPosts x = Due.heath(WALKED);
        promise(49, "point");
        due(x.point(0, 0), 10);
        due(x.point(0, 1), 1);
        due(x.point(1, 1), -1);
        due(x.point(3, 0), -1);
        due(x.point(4, 0), -2);
        due(x.point(0, 2), -2);
        promise(50, "best");
        due(x.best(), -1);
        due(Due.heath(END_FIRST).best(), 1);
        due(Due.heath(HEAD).best(), -1);
        due(new ObligingPosts().best(), -2);
        promise(51, "crowds");
        due(x.crowds(), -1);
        String one = "heath hours 3 law 0 odds 0;inn room 9;post;post;road 0 in 0;road 0 to 1;";
        due(Due.heath(one + "walker 0 at 0;walker 0 at 0;").crowds(), 0);
        due(Due.heath(one + "walker 1 at 0;walker 0 at 0;walker 0 at 0;").crowds(), 1);
        due(Due.heath(HEAD).crowds(), -1);
        due(new ObligingPosts().crowds(), -2);
    }

    private static ObligingPosts seen(int width, long... numbers) {
        ObligingPosts x = Due.heath("heath hours 2 law 0 odds 0;inn room 1;post;post;post;"
            + "road 0 to 1;road 0 to 2;road 0 in 0;walker 0 at 0;walker 0 at 1;");
        x.row(1, width, numbers.length);
        for (int i = 0; i < numbers.length; i++) {
            x.write(1, i, numbers[i]);
        }
        return x;
    }

    private static void seen() {
        promise(52, "may");
        due(seen(0).may(1, 0), 7);
        due(seen(0, 0, 1, 2).may(1, 0), 2);
        due(seen(0, 1, 0, -1).may(1, 0), 7);
        due(seen(0, 1, 2, 10, 0, 1, 1).may(1, 0), 0);
        due(seen(3, 1, 2, 10).may(1, 0), 2);
        due(seen(0, 0, 0, 0).may(1, 1), 0);
        due(seen(0, 0, 1).may(1, 0), -2);
        due(seen(0, 2, 1, 1).may(1, 0), -2);
        due(seen(0, 0, 3, 1).may(1, 0), -2);
        due(seen(0, 0, 1, 3).may(1, 0), -2);
        due(seen(0, 0, 1, 11).may(1, 0), -2);
        due(seen(0, 0, 1, -2).may(1, 0), -2);
        due(seen(3, 0, 1, 2 + (1L << 32)).may(1, 0), -2);
        due(seen(2, 0, 1, 2 + (1L << 32)).may(1, 0), 2);
        due(seen(0).may(1, 3), -2);
        due(seen(0).may(4, 0), -2);
        due(seen(0).may(-1, 0), -2);
        due(seen(0).may(2, 0), -6);
        due(seen(0).may(2, 3), -2);
        promise(53, "ask");
        due(seen(0).ask(1, 0), 1);
        due(seen(0, 0, 1, 2).ask(1, 0), -1);
        due(seen(0).ask(1, 1), -1);
        due(seen(0, 0).ask(1, 0), -2);
        due(seen(0).ask(3, 0), -6);
        due(seen(0).ask(3, 3), -2);
        promise(54, "leaves");
        due(seen(0).leaves(1, 0), 1);
        due(seen(0, 0, 1, 2).leaves(1, 0), 1);
        due(seen(0).leaves(1, 1), 0);
        due(seen(0, 1, 2, 10, 0, 1, 1).leaves(1, 0), 0);
        due(seen(0, 0).leaves(1, 0), -2);
        due(seen(0).leaves(3, 0), -6);
        promise(55, "laws");
        due(seen(0).laws(1), 15);
        due(seen(0, 0, 1, 1).laws(1), 13);
        due(seen(0, 1, 2, 10).laws(1), 6);
        due(seen(0, 0, 1, 10).laws(1), 0);
        due(seen(0, 0).laws(1), -2);
        due(seen(0, 9, 0, 0).laws(1), -2);
        due(seen(0).laws(0), -6);
        due(seen(0).laws(4), -2);
        due(new ObligingPosts().laws(0), -2);
    }

    private static void laws() {
        // From arm 0: by LAW 0 WALKERS go to 1, 2, by 1 to 2, 10, by 2 to 1, 10, by 3 to 1, 2.
        String text = "heath hours 1 law 0 odds 0;inn room 1;post;post;post;road 0 to 1;road 0 to 2;road 0 in 0;"
            + "walker 0 at 0;walker 0 at 0;";
        ObligingPosts x = Due.heath(text);
        promise(56, "by");
        due(x.by(0), 0);
        due(x.by(1), 2);
        due(x.by(2), 2);
        due(x.by(3), 0);
        due(x.by(4), -2);
        due(x.by(-1), -2);
        due(new ObligingPosts().by(0), -2);
        promise(57, "law");
        due(x.law(), 1);
        due(Due.heath(HEAD).law(), 0);
        due(new ObligingPosts().law(), -2);
        promise(11, "at by LAWS 1, 2");
        ObligingPosts first = Due.heath(text.replace("law 0", "law 1"));
        due(first.at(0, 1), 2);
        due(first.at(1, 1), 10);
        due(first.arm(0, 1), 2);
        ObligingPosts second = Due.heath(text.replace("law 0", "law 2"));
        due(second.at(0, 1), 1);
        due(second.at(1, 1), 10);
        due(second.arm(0, 1), 1);
    }

    private static void shares() {
        // The INN is reached if POSTS 0 and 1 both turn.
        ObligingPosts both = Due.heath("heath hours 2 law 0 odds 0;inn room 1;post;post;post;road 0 to 2;road 0 to 1;"
            + "road 1 to 2;road 1 in 0;walker 0 at 0;walker 1 at 0;walker 0 at 0;");
        // By a stiff arm both come in, whatever the LAW.
        ObligingPosts stiff = Due.heath("heath hours 1 law 1 odds 0;inn room 9;post;post;road 0 in 0;road 0 to 1;"
            + "walker 0 at 0;walker 0 at 0;");
        promise(58, "worth");
        due(both.worth(0), 0);
        due(both.worth(3), 1);
        due(both.worth(5), 0);
        due(both.worth(7), 1);
        due(both.worth(8), -2);
        due(both.worth(-1), -2);
        due(stiff.worth(0), 2);
        due(stiff.worth(1), 1);
        due(Due.heath(HEAD).worth(0), 0);
        due(Due.heath(HEAD).worth(1), -2);
        due(new ObligingPosts().worth(0), -2);
        promise(59, "share");
        due(both.share(0, 0), 1);
        due(both.share(0, 1), 2);
        due(both.share(1, 1), 2);
        due(both.share(2, 0), 0);
        due(both.share(2, 1), 1);
        due(stiff.share(0, 0), -1);
        due(stiff.share(0, 1), 1);
        due(both.share(3, 0), -1000);
        due(both.share(0, 2), -1000);
        due(both.share(0, -1), -1000);
        promise(59, "share behind a change");
        due(stiff.rate(0, 0), 9);
        due(stiff.share(0, 0), 0);
        due(stiff.worth(0), 0);
    }

    private static void games() {
        ObligingPosts narrow = Due.heath("heath hours 3 law 0 odds 0;inn room 1;post;road 0 in 0;"
            + "walker 0 at 0;walker 0 at 0;walker 0 at 15;");
        ObligingPosts turning = Due.heath("heath hours 3 law 0 odds 0;inn room 2;post;post;road 0 to 1;road 0 in 0;"
            + "walker 0 at 0;walker 0 at 0;");
        promise(60, "rests");
        due(narrow.rests(0, 1), 1);
        due(narrow.rests(1, 0), 1);
        due(narrow.rests(0, 0), -2);
        due(narrow.rests(0, 3), -2);
        due(turning.rests(0, 1), 0);
        // Who waits comes in an HOUR sooner behind the arm turned by hand: as much for him as not to wait.
        ObligingPosts alike = Due.heath("heath hours 4 law 0 odds 0;inn room 2;post;post;road 0 to 1;road 0 in 0;"
            + "road 1 to 0;walker 0 at 0;walker 0 at 0;");
        due(alike.twists(0, 2), 0);
        due(alike.rests(0, 1), 3);
        due(alike.rests(1, 0), 5);
        promise(61, "gets");
        due(narrow.gets(0, 1, 0, 0), 19);
        due(narrow.gets(1, 0, 0, 0), 0);
        due(narrow.gets(0, 1, 1, 0), -1);
        due(narrow.gets(0, 1, 1, 1), 17);
        due(narrow.gets(1, 0, 0, 1), 19);
        due(narrow.gets(2, 0, 1, 0), -1);
        due(turning.gets(0, 1, 1, 0), 17);
        due(narrow.gets(0, 1, 2, 0), -1000);
        due(narrow.gets(0, 1, 0, -1), -1000);
        due(narrow.gets(1, 1, 0, 0), -1000);
        due(narrow.gets(0, 3, 0, 0), -1000);
    }

    private static void fog() {
        String text = "heath hours 9 law 0 odds 3;inn room 1;post;road 0 in 0;"
            + "walker 0 at 0;walker 0 at 0;walker 0 at 9;";
        ObligingPosts x = Due.heath(text);
        promise(62, "chance");
        due(x.chance(0, 0, 0), 7);
        due(x.chance(0, 0, 1), 10);
        due(x.chance(0, 1, 0), 91);
        due(x.chance(0, 1, 1), 100);
        due(x.chance(0, 7, 0), 99993439);
        due(x.chance(0, 7, 1), 100000000);
        due(x.chance(1, 7, 0), 0);
        due(x.chance(1, 7, 1), 1);
        due(x.chance(0, 8, 0), -2);
        due(x.chance(0, -1, 0), -2);
        due(x.chance(3, 0, 0), -2);
        due(x.chance(0, 0, 2), -2);
        due(Due.heath(END_FIRST).chance(0, 3, 0), -2);
        due(Due.heath(text.replace("odds 3", "odds 0")).chance(0, 0, 1), 1);
        due(Due.heath(text.replace("odds 3", "odds 10")).chance(0, 7, 0), 0);
        promise(63, "mean");
        due(x.mean(0, 0), 7);
        due(x.mean(0, 1), 10);
        due(Due.heath(text.replace("room 1", "room 2")).mean(0, 0), 7);
        due(Due.heath(text.replace("room 1", "room 2")).mean(0, 1), 5);
        due(Due.heath(HEAD).mean(0, 0), 0);
        due(Due.heath(HEAD).mean(0, 1), 1);
        due(x.mean(8, 0), -2);
        due(x.mean(0, 2), -2);
        due(new ObligingPosts().mean(0, 0), -2);
        promise(62, "chance behind a change");
        due(x.holds(0, 0), 0);
        due(x.chance(0, 0, 0), 0);
        due(x.chance(1, 0, 0), 7);
        promise(11, "at has no FOG");
        due(Due.heath(text.replace("odds 3", "odds 10")).home(0), 1);
    }

    private static void acts() {
        ObligingPosts x = Due.heath(END_FIRST);
        promise(64, "twists");
        due(x.twists(0, 0), 0);
        due(x.at(0, 1), 10);
        due(x.arm(0, 0), 0);
        due(x.arm(0, 1), 0);
        due(x.twists(1, 0), -1);
        due(x.count(8), 2);
        due(x.twists(0, 3), -2);
        due(x.twists(2, 0), -2);
        due(x.twists(0, -1), -2);
        promise(66, "undo");
        due(x.undo(), 1);
        due(x.undo(), 0);
        due(x.at(0, 1), 1);
        due(x.undo(), -5);
        due(new ObligingPosts().undo(), -2);
        promise(65, "holds");
        due(x.holds(0, 0), 1);
        due(x.at(0, 1), 0);
        due(x.at(0, 2), 1);
        due(x.sent(0), 0);
        due(x.holds(0, 1), 1);
        due(x.holds(0, 2), 0);
        due(x.holds(0, 3), -2);
        due(x.holds(1, 0), -2);
        due(x.lingers(0), 3);
        promise(70, "rate, with acts");
        due(x.rate(0, 10), -2);
        due(x.rate(0, 1), -5);
        promise(67, "anew");
        due(x.anew(), 3);
        due(x.anew(), 0);
        due(x.at(0, 1), 1);
        due(new ObligingPosts().anew(), -2);
        ObligingPosts late = Due.heath(HEAD + "post;walker 0 at 9;");
        promise(65, "holds, not come");
        due(late.holds(0, 0), -1);
        promise(64, "30 acts");
        for (int i = 1; i < 30; i++) {
            due(late.twists(0, 0), -1);
        }
        due(late.twists(0, 0), -5);
        due(late.holds(0, 0), -5);
        due(late.holds(1, 0), -2);
        due(late.twists(0, 3), -2);
        due(late.undo(), 29);
        due(late.holds(0, 2), -1);
    }

    private static void drawn() {
        // From 7: x is 1282168116, 642666333, ..: draws 4, 6, 8, 4, 1, 5; FOG from HOURS 0, 3, 4.
        ObligingPosts x = Due.heath(WALKED);
        promise(68, "drawn");
        due(x.drawn(7, 0), 25);
        due(x.drawn(7, 1), 6);
        due(x.drawn(-1, 0), -2);
        due(x.drawn(2000000001, 0), -2);
        due(x.drawn(7, 2), -2);
        due(new ObligingPosts().drawn(7, 0), -2);
        ObligingPosts clear = Due.heath(WALKED.replace("odds 5", "odds 0"));
        ObligingPosts thick = Due.heath(WALKED.replace("odds 5", "odds 10"));
        due(clear.drawn(2000000000, 0), 0);
        due(clear.drawn(0, 1), 7);
        due(thick.drawn(0, 0), 63);
        due(thick.drawn(0, 1), 0);
        promise(69, "luck");
        due(x.luck(7, 1, 0), 0);
        due(x.luck(7, 1, 1), 1);
        due(clear.luck(2000000000, 20, 0), 20);
        due(clear.luck(0, 20, 3), 0);
        due(x.luck(7, 0, 0), -2);
        due(x.luck(7, 21, 0), -2);
        due(x.luck(-1, 1, 0), -2);
        due(x.luck(0, 1, 4), -2);
        int lucky = 0;
        for (int seed = 100; seed < 120; seed++) {
            lucky += x.drawn(seed, 1) >> 1 & 1;
        }
        due(x.luck(100, 20, 1), lucky);
    }

    private static void images() {
        ObligingPosts x = Due.heath(WALKED);
        promise(70, "rate");
        due(x.rate(1, 1), 2);
        due(x.room(1), 1);
        due(x.at(0, 4), 2);
        due(x.refuses(1), 3);
        due(x.rate(2, 0), -2);
        due(x.rate(0, -1), -2);
        due(x.rate(0, 10), -2);
        promise(71, "count");
        int[] counts = {6, 0, 5, 2, 4, 5, 2, 4, 0, 18, 0, 0};
        for (int what = 0; what < counts.length; what++) {
            due(x.count(what), counts[what]);
        }
        due(x.count(12), -1);
        due(x.count(-1), -1);
        promise(72, "image");
        due(x.twists(1, 0), 0);
        due(x.image(1), 0);
        due(x.image(3), -2);
        due(x.image(-1), -2);
        promise(73, "back");
        due(x.back(0), -6);
        due(x.back(3), -2);
        due(x.anew(), 1);
        due(x.rate(1, 2), 1);
        Due.tape(x, HEAD);
        due(x.heath(), 1);
        due(x.image(2), 0);
        due(x.feed(0, 0, 0, 0, 0), 20);
        due(x.row(0, 0, 1), 0);
        due(x.back(1), 0);
        due(x.count(8), 1);
        due(x.count(9), 18);
        due(x.room(1), 1);
        due(x.count(10), 20);
        due(x.count(11), 1);
        due(x.at(0, 2), 10);
        due(x.undo(), 0);
        due(x.back(1), 0);
        due(x.count(8), 1);
        due(x.back(2), 0);
        due(x.count(9), 1);
        ObligingPosts none = new ObligingPosts();
        due(none.image(0), 0);
        Due.tape(none, HEAD);
        due(none.heath(), 1);
        due(none.back(0), 0);
        due(none.armless(), -2);
    }

    private static void rows() {
        ObligingPosts x = seen(0);
        promise(74, "row");
        due(x.row(0, 0, 60), 0);
        due(x.row(0, 0, 61), -2);
        due(x.row(4, 0, 1), -2);
        due(x.row(-1, 0, -1), -2);
        due(x.row(0, 4, 1), -2);
        due(x.row(0, -1, -1), -2);
        due(x.row(0, 0, -1), -3);
        due(x.write(0, 59, 1), 0);
        due(x.row(0, 0, 3), 0);
        due(x.row(2, 3, 0), 0);
        due(x.count(11), 3);
        promise(75, "write");
        due(x.write(0, 3, 1), -7);
        due(x.write(0, -1, 1), -7);
        due(x.write(2, 0, 1), -7);
        due(x.write(3, 0, 1), -6);
        due(x.write(4, 0, 1), -2);
        due(x.write(0, 1, 257), 0);
        due(x.write(0, 2, 0x7F02), 0);
        due(x.may(0, 0), 2);
        due(x.write(0, 1, 0), 0);
        due(x.write(0, 0, 1), 0);
        due(x.write(0, 2, 255), 0);
        due(x.may(0, 0), 7);
        for (int width = 1; width < 4; width++) {
            int bits = 8 << width;
            due(seen(width, 0, 1, 2 + (bits < 64 ? 1L << bits : 0)).may(1, 0), 2);
            due(seen(width, 0, 1, 2 + (1L << bits - 1)).may(1, 0), -2);
        }
        promise(74, "row, all 0 again");
        due(x.row(0, 0, 3), 0);
        due(x.may(0, 0), 7);
        due(x.write(0, 1, 1), 0);
        due(x.may(0, 0), 0);
    }

    private static void pastes() {
        promise(76, "paste");
        ObligingPosts x = seen(1, 0, 1, 2, 1, 2, 10);
        due(x.row(0, 1, 3), 0);
        due(x.paste(1, 0, 0, 0, 3), 0);
        due(x.may(0, 0), 2);
        due(x.paste(1, 3, 0, 0, 3), 0);
        due(x.may(0, 0), 2);
        // To its own row, one on: 0 0 1 2 1 2 tells of a WALKER 2, who is none.
        due(x.paste(1, 0, 1, 1, 5), 0);
        due(x.may(1, 0), -2);
        due(x.paste(1, 1, 1, 0, 5), 0);
        due(x.write(1, 5, 10), 0);
        due(x.may(1, 0), 2);
        due(x.paste(1, 0, 0, 0, 4), -7);
        due(x.paste(1, 4, 0, 0, 3), -7);
        due(x.paste(1, 0, 0, 1, 3), -7);
        due(x.paste(1, -1, 0, 0, 1), -7);
        due(x.paste(1, 0, 0, -1, 1), -7);
        due(x.paste(1, 0, 0, 0, -1), -7);
        due(x.paste(1, Integer.MAX_VALUE, 0, 0, Integer.MAX_VALUE), -7);
        due(x.paste(1, 6, 0, 3, 0), 0);
        due(x.may(0, 0), 2);
        due(x.paste(1, 0, 2, 0, 1), -6);
        due(x.paste(2, 0, 1, 0, 1), -6);
        due(x.paste(4, 0, 2, 0, 1), -2);
        due(x.paste(2, 0, 4, 0, 1), -2);
        due(x.row(2, 2, 3), 0);
        due(x.paste(1, 0, 2, 0, 1), -8);
        due(x.paste(1, -1, 2, 0, 1), -8);
    }

    public static void main(String[] args) {
        newObject();
        tape();
        heath();
        fault();
        told();
        night();
        lastHour();
        walkers();
        inns();
        posts();
        settings();
        alone();
        pointing();
        seen();
        laws();
        shares();
        games();
        fog();
        acts();
        drawn();
        images();
        rows();
        pastes();
        Due.close();
    }
}
