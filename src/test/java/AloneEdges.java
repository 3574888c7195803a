/** Term III and promises 37 to 48: SETTINGS, WALKERS who are SENT ALONE, TREES and rings of arms. */
final class AloneEdges {
    /**
     * Each POST's last road goes on, the others back to POST 0: POST 6 must be come to 3 times, POST 5 three times as
     * often, .. From POST 3, one of the ways back of POST 4 spared: 3 + 9 + 26 + 52 + 102 + 204 + 204 = 600.
     * From POST 2, one of its own spared, too: 3 + 9 + 26 + 52 + 103 + 204 + 204 = 601.
     */
    private static final String LONG_WAY = Edge.HEAD + "inn room 0;" + "post;".repeat(7) + "road 0 to 1;"
        + "road 1 to 0;road 1 to 2;road 2 to 0;road 2 to 3;road 3 to 0;road 3 to 4;"
        + "road 4 to 0;road 4 to 0;road 4 to 5;road 5 to 0;road 5 to 0;road 5 to 6;"
        + "road 6 to 0;road 6 to 0;road 6 in 0;arm 4 1;";
    /** 4 times 3 times 3 times 3 times 3 SETTINGS: no text can tell of more (16 roads, 4 of a POST). */
    private static final String MOST_SETTINGS = Edge.HEAD + "inn room 0;" + "post;".repeat(5)
        + "road 0 in 0;".repeat(4) + "road 1 in 0;".repeat(3) + "road 2 in 0;".repeat(3) + "road 3 in 0;".repeat(3)
        + "road 4 in 0;".repeat(3);
    /** INN 0 (without room), then POST 1, INN 1 beside it; one is SENT to 10, 11, 10, 11, .. by LAW 0. */
    private static final String TWO_INNS = "inn room 0;inn room 9;post;post;road 0 in 0;road 0 to 1;road 1 in 1;";

    private AloneEdges() {
    }

    static void run() {
        numbers();
        sameSetting();
        alone();
        longWay();
        inARow();
        rounds();
        houses();
        trees();
        rings();
        allTrees();
    }

    private static void numbers() {
        ObligingPosts x = Edge.told(Edge.FULL);
        ObligingPosts bare = Edge.told(Edge.HEAD);
        ObligingPosts none = new ObligingPosts();
        Edge.term("III", "SETTING: at which road each arm stands; its NUMBER: for each POST with roads the road at which "
            + "its arm stands, times as many SETTINGS as such POSTS ahead of it can have together (for the first one "
            + "1), all together");
        Edge.due(x.setting(0), 1 + 3 * 4 + 1 * 16 + 1 * 32 + 0 * 64 + 1 * 64 + 0 * 128);
        // A POST without roads ahead counts for nothing.
        Edge.due(Edge.told(Edge.HEAD + "post;post;post;road 1 to 0;road 1 to 2;road 1 to 0;road 2 to 0;road 2 to 1;"
            + "arm 1 2;arm 2 1;").setting(0), 2 + 3);
        Edge.promise(37, "The NUMBER (III) of the SETTING in an HOUR");
        Edge.due(x.setting(1), 2 + 3 * 4 + 16 + 32 + 64);
        Edge.due(x.setting(16), 3 + 0 * 4 + 16 + 32 + 64);
        Edge.due(bare.setting(0), 0);
        Edge.due(bare.setting(3), 0);
        Edge.due(Edge.told(MOST_SETTINGS).setting(0), 0);
        Edge.due(Edge.told(MOST_SETTINGS + "arm 0 3;arm 1 2;arm 2 2;arm 3 2;arm 4 2;").setting(3), 323);
        Edge.promise(37, "-2: there is none such, no HEATH");
        Edge.dueOfEach(-2, x.setting(17), x.setting(-1), bare.setting(4), none.setting(0));
        Edge.promise(38, "How many SETTINGS there are");
        Edge.due(x.settings(), 128);
        Edge.due(Edge.told(MOST_SETTINGS).settings(), 324);
        Edge.due(bare.settings(), 1);
        Edge.due(Edge.told(Edge.HEAD + "post;".repeat(7)).settings(), 1);
        Edge.promise(38, "-2: there is no HEATH");
        Edge.due(none.settings(), -2);
    }

    private static void sameSetting() {
        String ends = "post;post;road 0 to 1;road 0 to 1;road 0 to 1;";
        Edge.promise(39, "The first HOUR from 1 on in which the SETTING is as in HOUR 0");
        Edge.due(Edge.told(Edge.HEAD + ends).same(), 1);
        Edge.due(Edge.told(Edge.HEAD).same(), 1);
        Edge.due(Edge.told(Edge.HEAD + ends + "walker 0 at 0;walker 0 at 1;walker 0 at 2;").same(), 3);
        Edge.due(Edge.told(Edge.HEAD + ends + "walker 0 at 0;walker 0 at 0;walker 0 at 0;").same(), 1);
        Edge.promise(39, "NONE: in none");
        Edge.due(Edge.told(Edge.HEAD + ends + "walker 0 at 0;walker 0 at 1;walker 0 at 3;").same(), -1);
        Edge.due(Edge.told(Edge.HEAD + ends + "walker 0 at 0;").same(), -1);
        Edge.promise(39, "-2 likewise");
        Edge.due(new ObligingPosts().same(), -2);
    }

    private static void alone() {
        Edge.term("III", "ALONE: arms stand as told (acts aside); a WALKER is SENT from a POST till he is taken in, INNS "
            + "have room for ever (0, too), no FOG, nobody else");
        ObligingPosts x = Edge.told("heath hours 1 law 0 odds 10;" + TWO_INNS + "arm 0 1;walker 0 at 0;walker 1 at 0;");
        Edge.due(x.twists(0, 0), 1);
        Edge.due(x.holds(0, 0), 0);
        Edge.due(x.alone(0), 1);
        Edge.due(x.steps(0), 2);
        Edge.due(x.behind(0), 0);
        Edge.due(x.nth(0, 2), 0);
        Edge.due(x.round(0), 2);
        // Many HOURS' roads are walked though the night has one HOUR, and INN 0 has no room.
        Edge.due(x.houses(0, 20, 0), 10);
        Edge.term("III", "by LAW");
        int[] first = {0, 1, 0, 0};
        int[] second = {1, 0, 1, 0};
        for (int law = 0; law < 4; law++) {
            ObligingPosts y = Edge.told("heath hours 1 law " + law + " odds 0;" + TWO_INNS);
            Edge.due(y.alone(0), first[law]);
            Edge.due(y.nth(0, 2), second[law]);
        }
        Edge.promise(40, "ALONE (III): the INN that takes in a WALKER SENT from a POST");
        Edge.due(x.alone(1), 1);
        Edge.due(Edge.told(Edge.FULL).alone(0), 3);
        Edge.due(Edge.told(Edge.FULL).alone(6), 1);
        Edge.promise(40, "NONE: none does");
        String end = Edge.HEAD + "inn room 9;post;post;post;post;road 0 to 1;road 2 to 3;road 3 to 2;";
        ObligingPosts ending = Edge.told(end);
        Edge.dueOfEach(-1, ending.alone(0), ending.alone(1), ending.alone(2), ending.alone(3));
        Edge.promise(40, "-2: there is none such");
        ObligingPosts bare = Edge.told(Edge.HEAD);
        Edge.dueOfEach(-2, ending.alone(4), ending.alone(-1), ending.alone(10), bare.alone(0));
        Edge.promise(41, "How often he is SENT till then");
        Edge.due(x.steps(1), 1);
        Edge.due(Edge.told(Edge.FULL).steps(0), 4);
        Edge.promise(41, "NONE, -2 likewise");
        Edge.dueOfEach(-1, ending.steps(0), ending.steps(1), ending.steps(2));
        Edge.dueOfEach(-2, ending.steps(4), ending.steps(-1), bare.steps(0));
        Edge.promise(42, "The NUMBER of the SETTING behind him");
        Edge.due(x.behind(1), 1);
        // 0 2 4 5: arms 1 3 1 1 0 1 0 become 2 3 0 1 0 0 0.
        Edge.due(Edge.told(Edge.FULL).behind(0), 2 + 12 + 0 + 32);
        Edge.promise(42, "NONE, -2 likewise");
        Edge.dueOfEach(-1, ending.behind(0), ending.behind(1), ending.behind(2));
        Edge.dueOfEach(-2, ending.behind(4), ending.behind(-1), bare.behind(0));
    }

    private static void longWay() {
        Edge.term("III", "600 times at most (then nobody takes him in)");
        ObligingPosts last = Edge.told(LONG_WAY);
        Edge.due(last.alone(3), 0);
        Edge.due(last.steps(3), 600);
        Edge.due(last.behind(3), 0);
        Edge.due(last.nth(3, 1), 0);
        Edge.due(last.houses(3, 1, 0), 1);
        ObligingPosts beyond = Edge.told(LONG_WAY + "arm 2 1;");
        Edge.dueOfEach(-1, beyond.alone(2), beyond.steps(2), beyond.behind(2), beyond.nth(2, 1), beyond.round(2),
            beyond.houses(2, 1, 0));
        // 3 + 6 + 17 + 34 + 68 + 136 + 136; behind him all arms are at 0, so that from then on it is 423 (18 for 17).
        // Each of several may be SENT 600 times: they are not counted together.
        Edge.due(last.steps(6), 400);
        Edge.due(last.nth(6, 20), 0);
        Edge.due(last.houses(6, 20, 0), 20);
        // From POST 3 the second one would be SENT 623 times.
        Edge.due(last.nth(3, 2), -1);
        Edge.due(last.houses(3, 2, 0), -1);
    }

    private static void inARow() {
        ObligingPosts x = Edge.told(Edge.HEAD + TWO_INNS);
        ObligingPosts bare = Edge.told(Edge.HEAD);
        Edge.promise(43, "The INN that takes in the last one of n (1 .. 20) WALKERS so SENT from a POST, one behind the "
            + "other, each ALONE, arms as the one ahead left them");
        for (int n = 1; n <= 20; n++) {
            Edge.due(x.nth(0, n), (n + 1) % 2);
        }
        Edge.due(x.nth(1, 20), 1);
        Edge.promise(43, "NONE: one of them is never taken in");
        ObligingPosts third = Edge.told(Edge.HEAD + "inn room 0;post;post;road 0 in 0;road 0 in 0;road 0 to 1;");
        Edge.due(third.nth(0, 2), 0);
        Edge.due(third.nth(0, 3), -1);
        Edge.due(third.nth(0, 4), -1);
        Edge.due(third.nth(1, 1), -1);
        Edge.promise(43, "-2: there are none such");
        Edge.dueOfEach(-2, x.nth(0, 0), x.nth(0, 21), x.nth(0, -1), x.nth(0, Edge.MAX), x.nth(0, Edge.MIN),
            x.nth(2, 1), x.nth(-1, 1), bare.nth(0, 1));
    }

    private static void rounds() {
        ObligingPosts x = Edge.told(Edge.HEAD + TWO_INNS);
        Edge.promise(44, "ROUND: behind how many (1 .. 60) so SENT from a POST the SETTING is as told for the first "
            + "time");
        Edge.due(x.round(1), 1);
        Edge.due(x.round(0), 2);
        // Each 4th comes to POST 1; it and POST 2 (each by 1 of 4 roads to the other) come again behind
        // 4 * 4 - 1 = 15 of those: 60. The roads ahead of the arms make a TREE, so that the SETTING does come again.
        String pair = "inn room 0;post;post;post;road 0 in 0;road 0 in 0;road 0 in 0;road 0 to 1;"
            + "road 1 in 0;road 1 in 0;road 1 in 0;road 1 to 2;road 2 in 0;road 2 in 0;road 2 in 0;road 2 to 1;"
            + "arm 1 1;arm 2 1;";
        Edge.due(Edge.told(Edge.HEAD + pair).round(0), 60);
        Edge.due(Edge.told(Edge.HEAD + pair).round(1), 15);
        Edge.promise(44, "NONE: behind none, or one is never taken in");
        // 4 * 4 * 4 less 3 (roads of POST 0 to 1, of 1 to 2, of 2 to 0: 3 * 1 * 1): 61, a prime number.
        Edge.due(Edge.told(Edge.HEAD + "inn room 0;post;post;post;road 0 in 0;road 0 to 1;road 0 to 1;road 0 to 1;"
            + "road 1 in 0;road 1 in 0;road 1 in 0;road 1 to 2;road 2 in 0;road 2 in 0;road 2 in 0;road 2 to 0;"
            + "arm 0 1;arm 1 1;arm 2 1;").round(0), -1);
        // Arms are at 1 1 as told, behind the first at 0 1, then at 1 0, 0 0, 0 1, ..: never as told again.
        Edge.due(Edge.told(Edge.HEAD + "inn room 0;post;post;road 0 to 1;road 0 in 0;road 1 to 0;road 1 in 0;"
            + "arm 0 1;arm 1 1;").round(0), -1);
        ObligingPosts third = Edge.told(Edge.HEAD + "inn room 0;post;post;road 0 in 0;road 0 in 0;road 0 to 1;");
        Edge.dueOfEach(-1, third.round(0), third.round(1));
        Edge.promise(44, "-2: there is none such");
        Edge.dueOfEach(-2, x.round(2), x.round(-1), Edge.told(Edge.HEAD).round(0));
    }

    private static void houses() {
        ObligingPosts x = Edge.told(Edge.HEAD + TWO_INNS);
        ObligingPosts bare = Edge.told(Edge.HEAD);
        Edge.promise(45, "How many of n (1 .. 20) so SENT an INN takes in");
        Edge.due(x.houses(0, 1, 0), 1);
        Edge.due(x.houses(0, 1, 1), 0);
        Edge.due(x.houses(0, 19, 0), 10);
        Edge.due(x.houses(0, 20, 1), 10);
        Edge.due(x.houses(1, 20, 1), 20);
        Edge.promise(45, "NONE: one is never taken in");
        ObligingPosts third = Edge.told(Edge.HEAD + "inn room 0;post;post;road 0 in 0;road 0 in 0;road 0 to 1;");
        Edge.due(third.houses(0, 2, 0), 2);
        Edge.due(third.houses(0, 3, 0), -1);
        Edge.due(third.houses(1, 1, 0), -1);
        Edge.promise(45, "-2: there are none such");
        Edge.dueOfEach(-2, x.houses(0, 0, 0), x.houses(0, 21, 0), x.houses(0, -1, 0), x.houses(0, 1, 2),
            x.houses(0, 1, -1), x.houses(0, 1, 10), x.houses(2, 1, 0), x.houses(-1, 1, 0), bare.houses(0, 1, 0));
    }

    private static void trees() {
        ObligingPosts none = new ObligingPosts();
        ObligingPosts bare = Edge.told(Edge.HEAD);
        Edge.promise(46, "TREE: 1, if from each POST with roads one comes to an INN (whatever its room) by arms as they "
            + "stand in an HOUR alone, none turning, else 0 (1 without such POSTS)");
        Edge.due(bare.tree(0), 1);
        Edge.due(Edge.told(Edge.HEAD + "post;".repeat(7)).tree(3), 1);
        Edge.due(Edge.told(MOST_SETTINGS).tree(0), 1);
        String chain = Edge.HEAD + "inn room 0;" + "post;".repeat(7) + "road 0 to 1;road 1 to 2;road 2 to 3;"
            + "road 3 to 4;road 4 to 5;road 5 to 6;";
        Edge.due(Edge.told(chain + "road 6 in 0;").tree(0), 1);
        Edge.due(Edge.told(chain).tree(0), 0);
        Edge.due(Edge.told(chain + "road 6 to 5;road 6 in 0;").tree(0), 0);
        // The arm turns behind each: at INN, POST, INN, POST.
        ObligingPosts turning = Edge.told(Edge.HEAD + "inn room 0;post;post;road 0 in 0;road 0 to 1;walker 0 at 0;"
            + "walker 0 at 2;");
        Edge.due(turning.tree(0), 1);
        Edge.due(turning.tree(1), 0);
        Edge.due(turning.tree(2), 1);
        Edge.due(Edge.told(Edge.FULL).tree(16), 1);
        Edge.promise(46, "-2: there is none such, no HEATH");
        Edge.dueOfEach(-2, bare.tree(4), bare.tree(-1), Edge.told(Edge.FULL).tree(17), none.tree(0));
    }

    private static void rings() {
        ObligingPosts none = new ObligingPosts();
        ObligingPosts bare = Edge.told(Edge.HEAD);
        Edge.promise(47, "POSTS on a ring of such roads (one comes back to the very POST by arms alone), as bits");
        Edge.due(bare.ring(0), 0);
        String chain = Edge.HEAD + "inn room 0;" + "post;".repeat(7) + "road 0 to 1;road 1 to 2;road 2 to 3;"
            + "road 3 to 4;road 4 to 5;road 5 to 6;";
        Edge.due(Edge.told(chain).ring(0), 0);
        Edge.due(Edge.told(chain + "road 6 in 0;").ring(0), 0);
        Edge.due(Edge.told(chain + "road 6 to 0;").ring(0), 127);
        Edge.due(Edge.told(chain + "road 6 to 5;").ring(3), 32 + 64);
        Edge.due(Edge.told(chain + "road 6 to 1;").ring(3), 126);
        // The arm of POST 0 stands at the ring, behind him who is SENT not, and, when he has come back, again.
        ObligingPosts turning = Edge.told(Edge.HEAD + "inn room 2;post;post;road 0 to 1;road 0 in 0;road 1 to 0;"
            + "walker 0 at 0;");
        Edge.due(turning.ring(0), 3);
        Edge.due(turning.ring(1), 0);
        Edge.due(turning.ring(2), 0);
        Edge.due(turning.ring(3), 3);
        // Two rings at once.
        Edge.due(Edge.told(Edge.HEAD + "post;post;post;post;road 0 to 1;road 1 to 0;road 2 to 3;road 3 to 2;").ring(0), 15);
        Edge.promise(47, "-2 likewise");
        Edge.dueOfEach(-2, bare.ring(4), bare.ring(-1), Edge.told(Edge.FULL).ring(17), none.ring(0));
    }

    private static void allTrees() {
        Edge.promise(48, "How many SETTINGS are TREES so");
        Edge.due(Edge.told(MOST_SETTINGS).trees(), 324);
        Edge.due(Edge.told(Edge.HEAD).trees(), 1);
        Edge.due(Edge.told(Edge.HEAD + "post;".repeat(7)).trees(), 1);
        Edge.due(Edge.told(Edge.HEAD + "post;post;road 0 to 1;road 1 to 0;").trees(), 0);
        // Of the 4 of POSTS 0, 1 that go to each other or in, all but the ring.
        Edge.due(Edge.told(Edge.HEAD + "inn room 0;post;post;road 0 to 1;road 0 in 0;road 1 to 0;road 1 in 0;").trees(),
            3);
        // An arm of an earlier HEATH, left at its last road, does not matter.
        ObligingPosts later = Edge.told(Edge.FULL);
        Edge.due(later.alone(0), 3);
        Due.tape(later, Edge.HEAD + "inn room 0;post;road 0 in 0;");
        Edge.due(later.heath(), 4);
        Edge.due(later.trees(), 1);
        Edge.promise(48, "-2: there is no HEATH");
        Edge.due(new ObligingPosts().trees(), -2);
        Edge.promise(48, "-3: there are more than 4,096 SETTINGS");
        // No text tells of so many, so that this is never the answer.
        Edge.due(Edge.told(MOST_SETTINGS).settings(), 324);
        Edge.due(Edge.told(MOST_SETTINGS).trees(), 324);
    }
}
