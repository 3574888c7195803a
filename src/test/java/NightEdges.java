/** Term II and promises 6 to 36: what is told, and the night as it is. */
final class NightEdges {
    /** POSTS 1, 2, 3 are ends without roads. */
    private static final String THREE_ROADS = "post;post;post;post;road 0 to 1;road 0 to 2;road 0 to 3;";
    private static final String FOUR_WALKERS = "walker 0 at 0;walker 0 at 0;walker 0 at 0;walker 0 at 0;";
    /** One goes to and fro: 0 1 0 1 0. */
    private static final String TO_AND_FRO = "heath hours 4 law 0 odds 0;post;post;road 0 to 1;road 1 to 0;";
    private static final String INN_BESIDE = "post;road 0 in 0;";

    private NightEdges() {
    }

    static void run() {
        places();
        comings();
        turnsByActs();
        whoIsSent();
        laws();
        takenIn();
        told();
        byHours();
        counts();
        walkers();
        ways();
        inns();
        allInside();
        posts();
        roads();
    }

    private static String head(int hours, int law) {
        return "heath hours " + hours + " law " + law + " odds 0;";
    }

    /** The PLACES of WALKERS 0, 1, .. in an HOUR. */
    private static void dueAt(ObligingPosts x, int hour, int... places) {
        for (int walker = 0; walker < places.length; walker++) {
            Edge.due(x.at(walker, hour), places[walker]);
        }
    }

    private static void places() {
        Edge.term("II", "PLACES: a POST by its number, an INN by 10 and its number");
        ObligingPosts x = Edge.told(Edge.FULL);
        Edge.due(x.here(0, 0), 1);
        Edge.due(x.here(6, 6), 16 + 64);
        Edge.due(x.here(10, 16), 0);
        Edge.due(x.here(11, 16), 4 + 8 + 16 + 32 + 64);
        Edge.due(x.here(13, 16), 1 + 2);
        Edge.dueOfEach(-2, x.here(-1, 0), x.here(7, 0), x.here(8, 0), x.here(9, 0), x.here(14, 0),
            x.here(Edge.MIN, 0), x.here(Edge.MAX, 0));
    }

    private static void comings() {
        Edge.term("II", "In an HOUR WALKERS are where they are; one comes in the HOUR told, at his POST");
        ObligingPosts x = Edge.told(head(2, 0) + "post;post;road 0 to 1;walker 0 at 0;walker 0 at 1;walker 0 at 2;"
            + "walker 0 at 3;walker 0 at 15;");
        dueAt(x, 0, 0, -1, -1, -1, -1);
        dueAt(x, 1, 1, 0, -1, -1, -1);
        dueAt(x, 2, 1, 1, 0, -1, -1);
        ObligingPosts last = Edge.told(head(16, 0) + "post;post;road 0 to 1;walker 0 at 15;");
        Edge.due(last.at(0, 14), -1);
        Edge.due(last.at(0, 15), 0);
        Edge.due(last.at(0, 16), 1);
    }

    private static void turnsByActs() {
        Edge.term("II", "first arms that are turned by acts of the HOUR (in order) turn, each to its next road (of the "
            + "last one the first; without roads not)");
        ObligingPosts x = Edge.told(head(1, 0) + THREE_ROADS + "arm 0 1;walker 0 at 0;");
        Edge.due(x.twists(0, 0), 0);
        Edge.due(x.at(0, 1), 3);
        Edge.due(x.twists(0, 0), 1);
        Edge.due(x.at(0, 1), 1);
        Edge.due(x.twists(1, 0), -1);
        Edge.due(x.at(0, 1), 1);
        Edge.due(x.arm(1, 1), -1);
        Edge.due(x.twists(0, 0), 2);
        Edge.due(x.at(0, 1), 2);
        // Acts of several HOURS, told backwards: each counts in its own.
        ObligingPosts y = Edge.told(head(3, 0) + THREE_ROADS + "walker 0 at 2;");
        Edge.due(y.twists(0, 2), 2);
        Edge.due(y.twists(0, 0), 0);
        Edge.due(y.arm(0, 0), 0);
        Edge.due(y.arm(0, 1), 1);
        Edge.due(y.arm(0, 2), 1);
        Edge.due(y.at(0, 3), 3);
        Edge.term("II", "by acts arms turn to the next one all the same");
        for (int law = 0; law < 4; law++) {
            ObligingPosts bare = Edge.told(head(1, law) + THREE_ROADS + "arm 0 2;");
            Edge.due(bare.twists(0, 0), 0);
            Edge.due(bare.twists(0, 0), 1);
        }
        // By LAW 3 a road to an INN does not keep the arm from hands.
        ObligingPosts inn = Edge.told(head(1, 3) + "inn room 1;post;post;road 0 in 0;road 0 to 1;");
        Edge.due(inn.twists(0, 0), 1);
    }

    private static void whoIsSent() {
        Edge.term("II", "Then, by numbers, one behind the other, each WALKER who has come, is at a POST with roads, and "
            + "is not HELD in the HOUR is SENT by its arm");
        // WALKER 0 comes later to the INN's last room than 1 to the POST, but is SENT ahead of him.
        ObligingPosts order = Edge.told(head(2, 0) + "inn room 1;post;post;road 0 in 0;road 1 to 0;"
            + "walker 0 at 1;walker 1 at 0;");
        dueAt(order, 1, 0, 0);
        dueAt(order, 2, 10, 0);
        ObligingPosts x = Edge.told(head(2, 0) + THREE_ROADS + "walker 0 at 0;walker 0 at 0;walker 0 at 1;"
            + "walker 1 at 0;");
        Edge.due(x.sent(0), 1 + 2);
        dueAt(x, 1, 1, 2, 0, 1);
        Edge.due(x.sent(1), 4);
        dueAt(x, 2, 1, 2, 3, 1);
        Edge.due(x.holds(0, 0), 2);
        Edge.due(x.sent(0), 2);
        dueAt(x, 1, 0, 1, 0, 1);
        dueAt(x, 2, 2, 1, 3, 1);
        Edge.term("II", "Who is in an INN stays");
        ObligingPosts inn = Edge.told(head(16, 0) + "inn room 1;" + INN_BESIDE + "walker 0 at 0;walker 0 at 0;");
        for (int hour = 1; hour <= 16; hour++) {
            dueAt(inn, hour, 10, 0);
        }
    }

    private static void laws() {
        String four = THREE_ROADS + "arm 0 1;" + FOUR_WALKERS;
        Edge.term("II", "0: by the road at which it stands, then the arm turns to the next one");
        ObligingPosts x = Edge.told(head(1, 0) + four);
        dueAt(x, 1, 2, 3, 1, 2);
        Edge.due(x.arm(0, 1), 2);
        Edge.term("II", "1: the arm turns to the next one first, then by that");
        x = Edge.told(head(1, 1) + four);
        dueAt(x, 1, 3, 1, 2, 3);
        Edge.due(x.arm(0, 1), 2);
        Edge.term("II", "2: by the road at which it stands, then the arm turns to the one ahead (of the first one the "
            + "last");
        x = Edge.told(head(1, 2) + four);
        dueAt(x, 1, 2, 1, 3, 2);
        Edge.due(x.arm(0, 1), 0);
        Edge.term("II", "3: as 0, but the arm turns only if the road goes to a POST");
        String beside = "inn room 2;post;post;post;road 0 to 1;road 0 in 0;road 0 to 2;";
        x = Edge.told(head(1, 3) + beside + "arm 0 1;" + FOUR_WALKERS);
        dueAt(x, 1, 10, 10, 0, 0);
        Edge.due(x.arm(0, 1), 1);
        x = Edge.told(head(1, 3) + beside + "arm 0 2;" + FOUR_WALKERS);
        dueAt(x, 1, 2, 1, 10, 10);
        Edge.due(x.arm(0, 1), 1);
        x = Edge.told(head(1, 3) + four);
        dueAt(x, 1, 2, 3, 1, 2);
        // Of the last POST, too.
        int[][] lasts = {{1, 2}, {2, 0}, {1, 0}, {1, 2}};
        int[] arms = {0, 0, 2, 0};
        for (int law = 0; law < 4; law++) {
            x = Edge.told(head(1, law) + "post;".repeat(7) + "road 6 to 0;road 6 to 1;road 6 to 2;arm 6 1;"
                + "walker 6 at 0;walker 6 at 0;");
            dueAt(x, 1, lasts[law]);
            Edge.due(x.arm(6, 1), arms[law]);
        }
        // A POST with one road has its arm at it by each LAW.
        Edge.term("II", "by LAW, 0:");
        for (int law = 0; law < 4; law++) {
            x = Edge.told(head(1, law) + "post;post;road 0 to 1;walker 0 at 0;walker 0 at 0;");
            dueAt(x, 1, 1, 1);
            Edge.due(x.arm(0, 1), 0);
        }
    }

    private static void takenIn() {
        Edge.term("II", "He is at the other POST in the next HOUR (SENT on from there not before then)");
        ObligingPosts x = Edge.told(head(3, 0) + "inn room 1;post;post;post;road 0 to 1;road 1 to 2;road 2 in 0;"
            + "walker 0 at 0;");
        Edge.due(x.at(0, 1), 1);
        Edge.due(x.at(0, 2), 2);
        Edge.due(x.at(0, 3), 10);
        Edge.term("II", "or is taken in by the INN, if fewer are in it than it has room (those SENT ahead of him, too)");
        String three = INN_BESIDE + "walker 0 at 0;walker 0 at 0;walker 0 at 0;";
        dueAt(Edge.told(head(1, 0) + "inn room 0;" + three), 1, 0, 0, 0);
        dueAt(Edge.told(head(1, 0) + "inn room 1;" + three), 1, 10, 0, 0);
        dueAt(Edge.told(head(1, 0) + "inn room 2;" + three), 1, 10, 10, 0);
        dueAt(Edge.told(head(1, 0) + "inn room 3;" + three), 1, 10, 10, 10);
        dueAt(Edge.told(head(1, 0) + "inn room 9;" + INN_BESIDE + "walker 0 at 0;".repeat(8)), 1,
            10, 10, 10, 10, 10, 10, 10, 10);
        dueAt(Edge.told(head(1, 0) + "inn room 7;" + INN_BESIDE + "walker 0 at 0;".repeat(8)), 1,
            10, 10, 10, 10, 10, 10, 10, 0);
        // From two POSTS into one INN, and behind one who is in it since the HOUR ahead.
        ObligingPosts two = Edge.told(head(2, 0) + "inn room 2;post;post;road 0 in 0;road 1 in 0;"
            + "walker 1 at 0;walker 0 at 1;walker 1 at 1;");
        dueAt(two, 1, 10, 0, 1);
        dueAt(two, 2, 10, 10, 1);
        Edge.term("II", "else he stays at his POST (he was SENT, and the arm has turned, all the same)");
        ObligingPosts turned = Edge.told(head(2, 0) + "inn room 0;inn room 1;post;road 0 in 0;road 0 in 1;"
            + "walker 0 at 0;");
        Edge.due(turned.at(0, 1), 0);
        Edge.due(turned.sent(0), 1);
        Edge.due(turned.walks(0), 2);
        Edge.due(turned.arm(0, 1), 1);
        Edge.due(turned.at(0, 2), 11);
    }

    private static void told() {
        ObligingPosts x = Edge.told(Edge.FULL);
        ObligingPosts bare = Edge.told(Edge.HEAD);
        Edge.promise(6, "How many have room in an INN");
        Edge.due(x.room(0), 0);
        Edge.due(x.room(3), 2);
        Edge.promise(6, "-2: there is none such");
        Edge.dueOfEach(-2, x.room(-1), x.room(4), x.room(10), bare.room(0), new ObligingPosts().room(0));
        Edge.promise(7, "How many roads a POST has");
        Edge.due(x.roads(0), 4);
        Edge.due(x.roads(6), 1);
        Edge.due(Edge.told(Edge.HEAD + "post;").roads(0), 0);
        Edge.promise(7, "-2: there is none such");
        Edge.dueOfEach(-2, x.roads(-1), x.roads(7), bare.roads(0), new ObligingPosts().roads(0));
        Edge.promise(8, "The PLACE to which a road (from 0) of a POST goes");
        Edge.due(x.goes(0, 0), 1);
        Edge.due(x.goes(1, 3), 13);
        Edge.due(x.goes(6, 0), 11);
        Edge.promise(8, "NONE: it has none such");
        Edge.dueOfEach(-1, x.goes(0, 4), x.goes(6, 1), x.goes(0, Edge.MAX),
            Edge.told(Edge.HEAD + "post;").goes(0, 0));
        Edge.promise(8, "-2: there is none such, the road is below 0");
        Edge.dueOfEach(-2, x.goes(0, -1), x.goes(0, Edge.MIN), x.goes(-1, 0), x.goes(7, 0), x.goes(7, 9),
            bare.goes(0, 0), new ObligingPosts().goes(0, 0));
        Edge.promise(9, "The road at which an arm stands as told (NONE: the POST has none)");
        Edge.due(x.told(0), 1);
        Edge.due(x.told(1), 3);
        Edge.due(x.told(4), 0);
        x.twists(0, 0);
        Edge.due(x.told(0), 1);
        Edge.due(Edge.told(Edge.HEAD + "post;").told(0), -1);
        Edge.promise(9, "-2: there is none such");
        Edge.dueOfEach(-2, x.told(-1), x.told(7), bare.told(0), new ObligingPosts().told(0));
        Edge.promise(10, "Of a WALKER, what 0: his POST at first, 1: his HOUR as told");
        Edge.due(x.walker(7, 0), 0);
        Edge.due(x.walker(7, 1), 15);
        Edge.due(x.walker(0, 1), 0);
        Edge.due(x.walker(6, 0), 6);
        Edge.promise(10, "-2: there are none such");
        Edge.dueOfEach(-2, x.walker(8, 0), x.walker(-1, 0), x.walker(0, 2), x.walker(0, -1), bare.walker(0, 0));
    }

    private static void byHours() {
        ObligingPosts x = Edge.told(Edge.FULL);
        int[][] ways = {{0, 2, 4, 5, 13}, {1, 13}, {2, 3, 5, 6, 11}, {3, 4, 5, 5, 6, 11}, {4, 5, 6, 11},
            {5, 5, 5, 6, 11}, {6, 11}};
        Edge.promise(11, "The PLACE of a WALKER in an HOUR");
        for (int walker = 0; walker < ways.length; walker++) {
            for (int i = 0; i < ways[walker].length; i++) {
                Edge.due(x.at(walker, walker + i), ways[walker][i]);
            }
            Edge.due(x.at(walker, 16), ways[walker][ways[walker].length - 1]);
        }
        Edge.due(x.at(7, 15), 0);
        Edge.due(x.at(7, 16), 3);
        Edge.promise(11, "NONE: he has not come");
        Edge.dueOfEach(-1, x.at(1, 0), x.at(6, 5), x.at(7, 0), x.at(7, 14));
        Edge.promise(11, "-2: there are none such");
        Edge.dueOfEach(-2, x.at(8, 0), x.at(-1, 0), x.at(0, 17), x.at(0, -1), x.at(7, -1));

        Edge.promise(12, "The road at which an arm stands in an HOUR (ahead of arms turned by acts of it)");
        int[] last = {3, 0, 1, 1, 0, 1, 0};
        for (int post = 0; post < 7; post++) {
            Edge.due(x.arm(post, 0), x.told(post));
            Edge.due(x.arm(post, 16), last[post]);
        }
        Edge.due(x.twists(6, 15), 0);
        Edge.due(x.twists(0, 15), 0);
        Edge.due(x.arm(0, 15), 2);
        Edge.due(x.arm(0, 16), 0);
        Edge.due(x.undo(), 1);
        Edge.promise(12, "NONE: the POST has none");
        ObligingPosts bare = Edge.told(Edge.HEAD + "post;");
        Edge.dueOfEach(-1, bare.arm(0, 0), bare.arm(0, 3));
        Edge.promise(12, "-2: there are none such");
        Edge.dueOfEach(-2, x.arm(7, 0), x.arm(-1, 0), x.arm(0, 17), x.arm(0, -1), bare.arm(0, 4), bare.arm(1, 0));

        Edge.promise(13, "WALKERS at a PLACE in an HOUR, as bits");
        Edge.due(x.here(0, 15), 128);
        Edge.due(x.here(5, 5), 8 + 16 + 32);
        Edge.due(x.here(0, 1), 0);
        Edge.due(x.here(13, 16), 3);
        Edge.due(Edge.told(head(1, 0) + "post;" + "walker 0 at 0;".repeat(8)).here(0, 1), 255);
        Edge.promise(13, "-2: there are none such");
        Edge.dueOfEach(-2, x.here(7, 0), x.here(14, 0), x.here(-1, 0), x.here(0, 17), x.here(0, -1),
            bare.here(10, 0), bare.here(1, 0));

        Edge.promise(14, "WALKERS who are SENT from an HOUR ahead of the last (those whom an INN turned away, too), as "
            + "bits");
        Edge.due(x.sent(0), 1);
        Edge.due(x.sent(5), 4 + 8 + 16 + 32);
        Edge.due(x.sent(9), 0);
        Edge.due(x.sent(15), 128);
        Edge.due(Edge.told(head(1, 0)).sent(0), 0);
        Edge.promise(14, "-2: there is none such");
        Edge.dueOfEach(-2, x.sent(16), x.sent(17), x.sent(-1), new ObligingPosts().sent(0),
            Edge.told(head(1, 0)).sent(1));
    }

    private static void counts() {
        ObligingPosts x = Edge.told(Edge.FULL);
        ObligingPosts bare = Edge.told(Edge.HEAD + "post;");
        Edge.promise(15, "How often WALKERS are SENT by a POST in all");
        int[] sends = {2, 1, 2, 2, 3, 8, 5};
        for (int post = 0; post < 7; post++) {
            Edge.due(x.sends(post), sends[post]);
        }
        Edge.due(bare.sends(0), 0);
        // From HOURS 0 .. 15, not from the last one: 16 times 8 WALKERS.
        Edge.due(Edge.told(head(16, 0) + "inn room 0;" + INN_BESIDE + "walker 0 at 0;".repeat(8)).sends(0), 128);
        Edge.promise(15, "-2: there is none such");
        Edge.dueOfEach(-2, x.sends(7), x.sends(-1), bare.sends(1));
        Edge.promise(16, "How often by a road of it");
        Edge.due(x.used(5, 0), 4);
        Edge.due(x.used(5, 1), 4);
        Edge.due(x.used(0, 3), 0);
        Edge.due(x.used(0, 2), 1);
        Edge.promise(16, "NONE: it has none such");
        Edge.dueOfEach(-1, x.used(0, 4), x.used(6, 1), x.used(6, Edge.MAX), bare.used(0, 0));
        Edge.promise(16, "-2: there is none such, the road is below 0");
        Edge.dueOfEach(-2, x.used(0, -1), x.used(0, Edge.MIN), x.used(7, 0), x.used(-1, 0), bare.used(1, 0));
        Edge.promise(17, "How often a WALKER is SENT in all");
        int[] walks = {4, 1, 4, 5, 3, 4, 1, 1};
        for (int walker = 0; walker < 8; walker++) {
            Edge.due(x.walks(walker), walks[walker]);
        }
        Edge.due(Edge.told(TO_AND_FRO + "walker 0 at 4;").walks(0), 0);
        Edge.due(Edge.told(TO_AND_FRO + "walker 0 at 3;").walks(0), 1);
        Edge.promise(17, "-2: there is none such");
        Edge.dueOfEach(-2, x.walks(8), x.walks(-1), bare.walks(0));
    }

    private static void walkers() {
        ObligingPosts x = Edge.told(Edge.FULL);
        ObligingPosts bare = Edge.told(Edge.HEAD + "post;");
        Edge.promise(18, "The first HOUR in which a WALKER is in an INN");
        int[] homes = {4, 2, 6, 8, 7, 9, 7};
        for (int walker = 0; walker < 7; walker++) {
            Edge.due(x.home(walker), homes[walker]);
        }
        String inn = "inn room 1;" + INN_BESIDE;
        Edge.due(Edge.told(head(1, 0) + inn + "walker 0 at 0;").home(0), 1);
        Edge.due(Edge.told(head(16, 0) + inn + "walker 0 at 15;").home(0), 16);
        Edge.promise(18, "NONE: in none");
        Edge.due(x.home(7), -1);
        Edge.due(Edge.told(head(2, 0) + inn + "walker 0 at 2;").home(0), -1);
        Edge.due(Edge.told(head(2, 0) + inn + "walker 0 at 3;").home(0), -1);
        Edge.promise(18, "-2 likewise");
        Edge.dueOfEach(-2, x.home(8), x.home(-1), bare.home(0));

        Edge.promise(19, "The INN in which he is in the last HOUR");
        int[] taken = {3, 3, 1, 1, 1, 1, 1};
        for (int walker = 0; walker < 7; walker++) {
            Edge.due(x.inn(walker), taken[walker]);
        }
        Edge.due(Edge.told(head(1, 0) + inn + "walker 0 at 0;").inn(0), 0);
        Edge.promise(19, "NONE: in none");
        Edge.due(x.inn(7), -1);
        Edge.due(Edge.told(head(1, 0) + inn + "walker 0 at 2;").inn(0), -1);
        Edge.promise(19, "-2 likewise");
        Edge.dueOfEach(-2, x.inn(8), x.inn(-1), bare.inn(0));

        Edge.promise(20, "POSTS at which he ever is, as bits");
        int[] trails = {1 + 4 + 16 + 32, 2, 4 + 8 + 32 + 64, 8 + 16 + 32 + 64, 16 + 32 + 64, 32 + 64, 64, 1 + 8};
        for (int walker = 0; walker < 8; walker++) {
            Edge.due(x.trail(walker), trails[walker]);
        }
        Edge.due(Edge.told(TO_AND_FRO + "walker 0 at 4;").trail(0), 1);
        Edge.due(Edge.told(TO_AND_FRO + "walker 0 at 5;").trail(0), 0);
        Edge.due(Edge.told(head(3, 0) + inn + "walker 0 at 0;").trail(0), 1);
        Edge.promise(20, "-2 likewise");
        Edge.dueOfEach(-2, x.trail(8), x.trail(-1), bare.trail(0));
    }

    private static void ways() {
        ObligingPosts x = Edge.told(Edge.FULL);
        ObligingPosts bare = Edge.told(Edge.HEAD + "post;");
        Edge.promise(21, "How often he comes to a POST at which he was earlier, but not in the HOUR ahead");
        Edge.due(Edge.told(TO_AND_FRO + "walker 0 at 0;").again(0), 3);
        Edge.due(Edge.told(TO_AND_FRO + "walker 0 at 1;").again(0), 2);
        Edge.due(Edge.told(TO_AND_FRO + "walker 0 at 2;").again(0), 1);
        Edge.due(Edge.told(TO_AND_FRO + "walker 0 at 3;").again(0), 0);
        Edge.due(Edge.told(TO_AND_FRO + "walker 0 at 5;").again(0), 0);
        // HELD in HOUR 1 he is at 0 1 1 0 1.
        ObligingPosts held = Edge.told(TO_AND_FRO + "walker 0 at 0;");
        Edge.due(held.holds(0, 1), 1);
        Edge.due(held.again(0), 2);
        Edge.due(x.again(3), 0);
        Edge.due(x.again(5), 0);
        Edge.promise(21, "-2 likewise");
        Edge.dueOfEach(-2, x.again(8), x.again(-1), bare.again(0));

        Edge.promise(22, "In how many HOURS from 1 on a WALKER is at the POST at which he was in the HOUR ahead");
        Edge.due(Edge.told(head(3, 0) + "inn room 1;" + INN_BESIDE + "walker 0 at 0;").lingers(0), 0);
        Edge.due(x.lingers(3), 1);
        Edge.due(x.lingers(5), 2);
        Edge.due(x.lingers(0), 0);
        Edge.due(x.lingers(7), 0);
        Edge.due(held.lingers(0), 1);
        String end = head(3, 0) + "post;walker 0 at ";
        Edge.due(Edge.told(end + "0;").lingers(0), 3);
        Edge.due(Edge.told(end + "1;").lingers(0), 2);
        Edge.due(Edge.told(end + "2;").lingers(0), 1);
        Edge.due(Edge.told(end + "3;").lingers(0), 0);
        Edge.due(Edge.told(end + "4;").lingers(0), 0);
        Edge.promise(22, "-2: there is none such");
        Edge.dueOfEach(-2, x.lingers(8), x.lingers(-1), bare.lingers(0));

        Edge.promise(23, "INNS to which roads of a POST go, as bits");
        Edge.due(x.doors(0), 1);
        Edge.due(x.doors(1), 2 + 4 + 8);
        Edge.due(x.doors(2), 0);
        Edge.due(x.doors(6), 2);
        Edge.due(bare.doors(0), 0);
        // Neither the next POST's roads are its own, nor one that an earlier HEATH told.
        ObligingPosts next = Edge.told(Edge.HEAD + "inn room 1;post;post;road 0 to 1;road 0 to 1;road 0 to 1;road 0 to 1;"
            + "road 1 in 0;");
        Edge.due(next.doors(0), 0);
        Edge.due(next.doors(1), 1);
        Due.tape(next, Edge.HEAD + "inn room 1;post;post;road 0 in 0;road 0 to 1;");
        Edge.due(next.heath(), 6);
        Due.tape(next, Edge.HEAD + "post;post;");
        Edge.due(next.heath(), 3);
        Edge.due(next.doors(0), 0);
        Edge.due(Edge.told(Edge.HEAD + "inn room 1;post;" + "road 0 in 0;".repeat(4)).doors(0), 1);
        Edge.due(Edge.told(Edge.HEAD + "inn room 1;".repeat(4)
            + "post;road 0 in 3;road 0 in 2;road 0 in 1;road 0 in 0;").doors(0), 15);
        Edge.promise(23, "-2: there is none such");
        Edge.dueOfEach(-2, x.doors(7), x.doors(-1), bare.doors(1));
    }

    private static void inns() {
        ObligingPosts x = Edge.told(Edge.FULL);
        ObligingPosts bare = Edge.told(Edge.HEAD);
        Edge.promise(24, "How many are in an INN in an HOUR");
        Edge.due(x.guests(3, 1), 0);
        Edge.due(x.guests(3, 2), 1);
        Edge.due(x.guests(3, 4), 2);
        Edge.due(x.guests(1, 16), 5);
        Edge.due(x.guests(0, 0), 0);
        ObligingPosts eight = Edge.told(head(1, 0) + "inn room 8;" + INN_BESIDE + "walker 0 at 0;".repeat(8));
        Edge.due(eight.guests(0, 1), 8);
        Edge.promise(24, "-2: there are none such");
        Edge.dueOfEach(-2, x.guests(4, 0), x.guests(-1, 0), x.guests(0, 17), x.guests(0, -1), bare.guests(0, 0));

        Edge.promise(25, "The first HOUR in which as many are in an INN as it has room (room 0: HOUR 0)");
        Edge.due(x.full(0), 0);
        Edge.due(x.full(3), 4);
        Edge.due(eight.full(0), 1);
        Edge.due(Edge.told(head(16, 0) + "inn room 1;" + INN_BESIDE + "walker 0 at 15;").full(0), 16);
        Edge.promise(25, "NONE: in none");
        Edge.dueOfEach(-1, x.full(1), x.full(2));
        Edge.due(Edge.told(head(1, 0) + "inn room 9;" + INN_BESIDE + "walker 0 at 0;".repeat(8)).full(0), -1);
        Edge.promise(25, "-2: there is none such");
        Edge.dueOfEach(-2, x.full(4), x.full(-1), bare.full(0));

        Edge.promise(26, "How often an INN turns somebody away in all");
        int[] refusals = {0, 0, 0, 3};
        for (int inn = 0; inn < 4; inn++) {
            Edge.due(x.refuses(inn), refusals[inn]);
        }
        Edge.due(eight.refuses(0), 0);
        Edge.due(Edge.told(head(1, 0) + "inn room 7;" + INN_BESIDE + "walker 0 at 0;".repeat(8)).refuses(0), 1);
        Edge.due(Edge.told(head(16, 0) + "inn room 0;" + INN_BESIDE + "walker 0 at 0;".repeat(8)).refuses(0), 128);
        Edge.promise(26, "-2: there is none such");
        Edge.dueOfEach(-2, x.refuses(4), x.refuses(-1), bare.refuses(0));
    }

    private static void allInside() {
        ObligingPosts x = Edge.told(Edge.FULL);
        ObligingPosts bare = Edge.told(Edge.HEAD);
        ObligingPosts none = new ObligingPosts();
        Edge.promise(27, "WALKERS who are in INNS in an HOUR, as bits");
        Edge.due(x.inside(0), 0);
        Edge.due(x.inside(2), 2);
        Edge.due(x.inside(8), 1 + 2 + 4 + 8 + 16 + 64);
        Edge.due(x.inside(16), 127);
        Edge.due(bare.inside(3), 0);
        Edge.promise(27, "-2: there is none such, no HEATH");
        Edge.dueOfEach(-2, x.inside(17), x.inside(-1), bare.inside(4), none.inside(0));
        Edge.promise(28, "WALKERS who have come and are in no INN in an HOUR, as bits");
        Edge.due(x.outside(0), 1);
        Edge.due(x.outside(6), 8 + 16 + 32 + 64);
        Edge.due(x.outside(14), 0);
        Edge.due(x.outside(15), 128);
        Edge.due(x.outside(16), 128);
        Edge.due(bare.outside(0), 0);
        Edge.due(Edge.told(head(1, 0) + "inn room 1;" + INN_BESIDE + "walker 0 at 0;walker 0 at 0;").outside(1), 2);
        Edge.promise(28, "-2 likewise");
        Edge.dueOfEach(-2, x.outside(17), x.outside(-1), bare.outside(4), none.outside(0));

        Edge.promise(29, "The first HOUR in which all WALKERS (there is one) are in INNS");
        String inn = "inn room 9;" + INN_BESIDE;
        Edge.due(Edge.told(head(1, 0) + inn + "walker 0 at 0;").done(), 1);
        Edge.due(Edge.told(head(16, 0) + inn + "walker 0 at 0;walker 0 at 15;").done(), 16);
        Edge.due(Edge.told(head(16, 0) + inn + "walker 0 at 3;".repeat(8)).done(), 4);
        Edge.promise(29, "NONE: in none");
        Edge.due(bare.done(), -1);
        Edge.due(Edge.told(Edge.HEAD + inn).done(), -1);
        Edge.due(Edge.told(Edge.HEAD + inn + "walker 0 at 0;walker 0 at 3;").done(), -1);
        Edge.due(Edge.told(Edge.HEAD + inn + "walker 0 at 0;walker 0 at 4;").done(), -1);
        Edge.due(x.done(), -1);
        Edge.promise(29, "-2: there is no HEATH");
        Edge.due(none.done(), -2);

        Edge.promise(30, "The most WALKERS at one POST in an HOUR");
        Edge.due(x.crowd(0), 1);
        Edge.due(x.crowd(5), 3);
        Edge.due(x.crowd(9), 0);
        Edge.due(x.crowd(16), 1);
        Edge.due(bare.crowd(0), 0);
        Edge.due(Edge.told(head(1, 0) + inn + "walker 0 at 0;".repeat(8)).crowd(0), 8);
        Edge.due(Edge.told(head(1, 0) + inn + "walker 0 at 0;".repeat(8)).crowd(1), 0);
        Edge.promise(30, "-2: there is none such, no HEATH");
        Edge.dueOfEach(-2, x.crowd(17), x.crowd(-1), bare.crowd(4), none.crowd(0));
    }

    private static void posts() {
        ObligingPosts x = Edge.told(Edge.FULL);
        ObligingPosts bare = Edge.told(Edge.HEAD);
        ObligingPosts seven = Edge.told(Edge.HEAD + "post;".repeat(7));
        ObligingPosts none = new ObligingPosts();
        Edge.promise(31, "POSTS without roads, as bits");
        Edge.due(x.armless(), 0);
        Edge.due(bare.armless(), 0);
        Edge.due(seven.armless(), 127);
        Edge.promise(31, "-2: there is no HEATH");
        Edge.due(none.armless(), -2);

        Edge.promise(32, "The first HOUR in which two WALKERS are at one PLACE");
        Edge.due(x.meet(0, 1), 4);
        Edge.due(x.meet(3, 4), 4);
        Edge.due(x.meet(4, 6), 6);
        Edge.due(x.meet(5, 3), 5);
        Edge.due(x.meet(2, 6), 7);
        String end = head(2, 0) + "post;post;road 0 to 1;";
        Edge.due(Edge.told(end + "walker 0 at 0;walker 0 at 0;").meet(1, 0), 0);
        Edge.due(Edge.told(end + "walker 0 at 1;walker 1 at 0;").meet(0, 1), 2);
        Edge.promise(32, "NONE: in none");
        Edge.dueOfEach(-1, x.meet(0, 2), x.meet(0, 7), x.meet(7, 1));
        // Neither has come: that is no PLACE.
        Edge.due(Edge.told(end + "walker 0 at 3;walker 0 at 3;").meet(0, 1), -1);
        Edge.due(Edge.told(end + "walker 0 at 2;walker 1 at 2;").meet(0, 1), -1);
        Edge.promise(32, "-2: there are none such, one twice");
        Edge.dueOfEach(-2, x.meet(0, 0), x.meet(7, 7), x.meet(0, 8), x.meet(8, 0), x.meet(-1, 0), x.meet(0, -1),
            x.meet(8, 8), bare.meet(0, 1));

        Edge.promise(33, "The POST that SENDS most in all, the first of several");
        Edge.due(x.busy(), 5);
        Edge.due(seven.busy(), 0);
        String pair = head(1, 0) + "post;post;post;road 1 to 0;road 2 to 0;";
        Edge.due(Edge.told(pair + "walker 1 at 0;walker 2 at 0;").busy(), 1);
        Edge.due(Edge.told(pair + "walker 2 at 0;walker 1 at 0;walker 2 at 0;").busy(), 2);
        Edge.promise(33, "NONE: there are none");
        Edge.due(bare.busy(), -1);
        Edge.promise(33, "-2: there is no HEATH");
        Edge.due(none.busy(), -2);

        Edge.promise(34, "POSTS that never SEND anybody, as bits");
        Edge.due(x.idle(), 0);
        Edge.due(seven.idle(), 127);
        Edge.due(bare.idle(), 0);
        Edge.due(Edge.told(pair + "walker 2 at 0;walker 1 at 1;").idle(), 3);
        Edge.promise(34, "-2 likewise");
        Edge.due(none.idle(), -2);
    }

    private static void roads() {
        ObligingPosts x = Edge.told(Edge.FULL);
        ObligingPosts bare = Edge.told(Edge.HEAD);
        String chain = Edge.HEAD + "inn room 0;" + "post;".repeat(7) + "road 0 to 1;road 1 to 2;road 2 to 3;"
            + "road 3 to 4;road 4 to 5;road 5 to 6;road 6 in 0;";
        String back = Edge.HEAD + "inn room 0;" + "post;".repeat(7) + "road 6 to 5;road 5 to 4;road 4 to 3;"
            + "road 3 to 2;road 2 to 1;road 1 to 0;road 0 in 0;";
        Edge.promise(35, "PLACES to which one can come from a POST by roads at all (itself, too), POSTS as bits 0 .. 6, "
            + "INNS as bits 10 .. 13");
        Edge.due(x.reach(0), 127 + (15 << 10));
        Edge.due(x.reach(6), 64 + (2 << 10));
        Edge.due(x.reach(5), 32 + 64 + (2 << 10) + (8 << 10));
        Edge.due(Edge.told(chain).reach(0), 127 + (1 << 10));
        Edge.due(Edge.told(back).reach(6), 127 + (1 << 10));
        Edge.due(Edge.told(back).reach(0), 1 + (1 << 10));
        Edge.due(Edge.told(Edge.HEAD + "post;").reach(0), 1);
        Edge.promise(35, "-2: there is none such");
        Edge.dueOfEach(-2, x.reach(7), x.reach(-1), x.reach(10), bare.reach(0));
        Edge.promise(36, "How many roads one goes at least from a POST to a PLACE (0: it is the same)");
        Edge.due(x.far(0, 0), 0);
        Edge.due(x.far(6, 6), 0);
        Edge.due(x.far(0, 10), 1);
        Edge.due(x.far(0, 6), 3);
        Edge.due(x.far(0, 13), 2);
        Edge.due(Edge.told(chain).far(0, 6), 6);
        Edge.due(Edge.told(chain).far(0, 10), 7);
        Edge.due(Edge.told(back).far(6, 10), 7);
        Edge.promise(36, "NONE: by none");
        Edge.dueOfEach(-1, x.far(6, 0), x.far(6, 13), x.far(5, 10), Edge.told(chain).far(6, 0));
        Edge.promise(36, "-2: there are none such");
        Edge.dueOfEach(-2, x.far(7, 0), x.far(-1, 0), x.far(0, 7), x.far(0, 9), x.far(0, 14), x.far(0, -1),
            x.far(10, 10), x.far(0, Edge.MIN), x.far(0, Edge.MAX), bare.far(0, 0));
    }
}
