/** Terms IV to VIII and promises 49 to 63, 68, 69: what would be if something were otherwise. */
final class OtherwiseEdges {
    /** Of POST 0 road 0 goes to an end, 1 by POST 1 in INN 0, 2 and 3 at once; INN 1 has no room. */
    private static final String POINTED = Edge.HEAD + "inn room 1;inn room 0;post;post;post;"
        + "road 0 to 2;road 0 to 1;road 0 in 0;road 0 in 0;road 1 in 0;road 1 in 1;";
    /** Only the arm of POST 6 matters, and only its last road goes in. */
    private static final String LAST_ROAD = "heath hours 1 law 0 odds 0;inn room 8;" + "post;".repeat(7)
        + "road 6 to 0;".repeat(3) + "road 6 in 0;walker 6 at 0;";
    /** WALKER 0 goes by the first road, 1 by the next: by arms 0, 1, 2 they are at 1 2, at 2 10, at 10 1 in HOUR 2. */
    private static final String SEEN = "heath hours 2 law 0 odds 0;inn room 1;post;post;post;"
        + "road 0 to 1;road 0 to 2;road 0 in 0;walker 0 at 0;walker 0 at 1;";
    /** By each arm WALKER 7 is elsewhere, and in the last HOUR alone. */
    private static final String LATE = "heath hours 16 law 0 odds 0;post;post;post;road 0 to 1;road 0 to 2;"
        + "walker 1 at 0;".repeat(7) + "walker 0 at 15;";
    /** By LAW 3 the arm stays at the INN. */
    private static final String STAYING = "heath hours 1 law 0 odds 0;inn room 9;post;post;road 0 in 0;road 0 to 1;"
        + "walker 0 at 0;walker 0 at 0;";

    private OtherwiseEdges() {
    }

    static void run() {
        point();
        best();
        crowds();
        may();
        ask();
        leaves();
        laws();
        byLaw();
        worth();
        share();
        shareOfMany();
        rests();
        gets();
        fog();
        chance();
        mean();
        drawn();
        luck();
    }

    private static void point() {
        Edge.term("IV", "POINT: one arm stands at first at some road of its POST");
        Edge.due(Edge.told(POINTED + "walker 0 at 0;").point(0, 0), 2);
        // By LAW 1 he goes by the road behind the one that is pointed at.
        Edge.due(Edge.told(POINTED.replace("law 0", "law 1") + "arm 0 3;walker 0 at 0;").point(0, 0), 1);
        Edge.promise(49, "POINT (IV): the POST and the road (10 times and) by which one WALKER comes to an INN soonest "
            + "(the first HOUR in which he is in it), if sooner than now, the first of several");
        Edge.due(Edge.told(LAST_ROAD).point(0, 0), 63);
        Edge.due(Edge.told(POINTED + "arm 0 1;walker 0 at 0;").point(0, 0), 2);
        Edge.due(Edge.told(POINTED + "walker 1 at 0;").point(0, 0), -1);
        Edge.due(Edge.told(POINTED + "arm 1 1;walker 1 at 0;").point(0, 0), 10);
        // To the INN that is asked for, whatever the other: now in HOUR 3, by POST 0's road 1 in HOUR 2.
        String second = Edge.HEAD + "inn room 1;inn room 1;post;post;post;road 0 to 1;road 0 to 2;road 0 in 0;"
            + "road 1 to 2;road 2 in 1;walker 0 at 0;";
        Edge.due(Edge.told(second).home(0), 3);
        Edge.due(Edge.told(second).point(0, 1), 1);
        Edge.due(Edge.told(second).point(0, 0), 2);
        Edge.due(Edge.told(second + "arm 0 1;").point(0, 1), -1);
        Edge.promise(49, "NONE: none");
        Edge.due(Edge.told(POINTED + "arm 0 2;walker 0 at 0;").point(0, 0), -1);
        Edge.due(Edge.told(POINTED + "arm 0 3;walker 0 at 0;").point(0, 0), -1);
        Edge.due(Edge.told(POINTED + "walker 0 at 0;").point(0, 1), -1);
        Edge.due(Edge.told(POINTED + "walker 0 at 3;").point(0, 0), -1);
        Edge.due(Edge.told(POINTED + "walker 0 at 2;").point(0, 0), 2);
        Edge.due(Edge.told(POINTED + "walker 0 at 15;").point(0, 0), -1);
        Edge.promise(49, "-2: there are none such");
        ObligingPosts x = Edge.told(POINTED + "walker 0 at 0;");
        Edge.dueOfEach(-2, x.point(1, 0), x.point(-1, 0), x.point(0, 2), x.point(0, -1), x.point(0, 10),
            Edge.told(Edge.HEAD).point(0, 0), Edge.told(Edge.HEAD + "post;walker 0 at 0;").point(0, 0));
    }

    private static void best() {
        Edge.promise(50, "The POST and the road by which most WALKERS are in INNS in the last HOUR, if more than now, "
            + "the first of several");
        Edge.due(Edge.told(POINTED + "walker 0 at 0;").best(), 1);
        Edge.due(Edge.told(LAST_ROAD).best(), 63);
        Edge.due(Edge.told("heath hours 1 law 0 odds 0;inn room 1;post;post;road 0 in 0;road 0 to 1;arm 0 1;"
            + "walker 0 at 0;").best(), 0);
        // From road 1 on one of two is in, from 0 none, from 2 both.
        Edge.due(Edge.told("heath hours 1 law 0 odds 0;inn room 2;post;post;road 0 to 1;road 0 to 1;road 0 in 0;"
            + "road 0 in 0;walker 0 at 0;walker 0 at 0;").best(), 2);
        Edge.promise(50, "NONE: none");
        Edge.due(Edge.told(POINTED + "arm 0 2;walker 0 at 0;").best(), -1);
        Edge.due(Edge.told(POINTED).best(), -1);
        Edge.due(Edge.told(Edge.HEAD).best(), -1);
        Edge.due(Edge.told(POINTED + "walker 0 at 3;").best(), -1);
        Edge.promise(50, "-2: there is no HEATH");
        Edge.due(new ObligingPosts().best(), -2);
    }

    private static void crowds() {
        Edge.promise(51, "The WALKER without whom most others are in INNS in the last HOUR, of those without whom (he "
            + "never comes, others keep their numbers) more of the others are than now, the first of several");
        // In, end, in, end: without 0, and without 2, two others are in, one more than now.
        Edge.due(Edge.told(STAYING + "walker 0 at 0;walker 0 at 0;").crowds(), 0);
        // Without 0 one other (2) is in; without 1 two are (0, and 3, to whom the hand points the way).
        ObligingPosts most = Edge.told(Edge.HEAD + "inn room 1;inn room 1;post;post;post;post;post;road 0 in 0;"
            + "road 1 to 4;road 1 to 3;road 4 to 3;road 4 in 1;walker 0 at 0;walker 1 at 0;walker 0 at 0;"
            + "walker 1 at 1;");
        Edge.due(most.crowds(), 0);
        Edge.due(most.twists(4, 2), 0);
        Edge.due(most.crowds(), 1);
        // From the last HOUR but one, too: he who never comes is not there then, either.
        Edge.due(Edge.told("heath hours 16 law 0 odds 0;inn room 1;post;road 0 in 0;walker 0 at 15;walker 0 at 15;")
            .crowds(), 0);
        // Six who have no road, and two for one room: 6 is in, 7 is not.
        Edge.due(Edge.told(Edge.HEAD + "inn room 1;post;post;road 0 in 0;" + "walker 1 at 0;".repeat(6)
            + "walker 0 at 0;walker 0 at 0;").crowds(), 6);
        Edge.promise(51, "NONE: none");
        Edge.due(Edge.told(Edge.HEAD + "inn room 2;post;road 0 in 0;walker 0 at 0;walker 0 at 0;").crowds(), -1);
        Edge.due(Edge.told(Edge.HEAD + "inn room 0;post;road 0 in 0;walker 0 at 0;walker 0 at 0;").crowds(), -1);
        Edge.due(Edge.told(Edge.HEAD + "inn room 1;post;road 0 in 0;walker 0 at 0;").crowds(), -1);
        Edge.due(Edge.told(Edge.HEAD).crowds(), -1);
        Edge.promise(51, "-2: there is no HEATH");
        Edge.due(new ObligingPosts().crowds(), -2);
    }

    /** A HEATH with a row of WIDTH 0 in SLOT 3. */
    private static ObligingPosts seen(String text, int... numbers) {
        ObligingPosts x = Edge.told(text);
        x.row(3, 0, numbers.length);
        for (int i = 0; i < numbers.length; i++) {
            x.write(3, i, numbers[i]);
        }
        return x;
    }

    private static int mayBySeen(int... numbers) {
        return seen(SEEN, numbers).may(3, 0);
    }

    private static void may() {
        Edge.term("V", "SEEN: a SLOT's row, three numbers each: a WALKER, an HOUR, his PLACE (-1: he has not come)");
        Edge.due(mayBySeen(0, 1, 1), 1);
        Edge.due(mayBySeen(0, 2, 2), 2);
        Edge.due(mayBySeen(0, 1, 10), 4);
        Edge.due(mayBySeen(1, 0, -1), 7);
        Edge.due(mayBySeen(1, 1, -1), 0);
        Edge.due(mayBySeen(0, 0, -1), 0);
        Edge.due(mayBySeen(0, 0, 0, 1, 1, 0, 1, 2, 10), 2);
        Edge.due(mayBySeen(0, 0, 0, 1, 1, 0, 0, 2, 10, 1, 2, 10), 0);
        Edge.term("V", "one POST's arm stood at first at any of its roads (that told, too)");
        Edge.due(seen(SEEN + "arm 0 2;").may(3, 0), 7);
        Edge.due(seen(SEEN + "arm 0 2;", 0, 1, 10).may(3, 0), 4);
        Edge.due(seen(SEEN + "arm 0 2;", 0, 1, 1).may(3, 0), 1);
        Edge.promise(52, "SEEN (V): roads at which a POST's arm can have stood at first by a SLOT's row, as bits");
        Edge.due(mayBySeen(), 7);
        Edge.due(seen(Edge.FULL).may(3, 0), 15);
        Edge.due(seen(Edge.FULL).may(3, 6), 1);
        Edge.due(seen(SEEN).may(3, 1), 0);
        // A row of 60: 20 times the same.
        int[] sixty = new int[60];
        for (int i = 0; i < 60; i += 3) {
            sixty[i + 1] = 1;
            sixty[i + 2] = 2;
        }
        Edge.due(mayBySeen(sixty), 2);
        sixty[59] = 1;
        Edge.due(mayBySeen(sixty), 0);
        Edge.promise(52, "-2: there is no such SLOT, POST, a number is none such (asked last), not three each");
        ObligingPosts x = seen(SEEN);
        Edge.dueOfEach(-2, x.may(4, 0), x.may(-1, 0), x.may(3, 3), x.may(3, -1), x.may(0, 3), x.may(0, -1));
        Edge.dueOfEach(-2, mayBySeen(0), mayBySeen(0, 0), mayBySeen(0, 0, 0, 0), mayBySeen(0, 0, 0, 0, 0),
            mayBySeen(new int[58]), mayBySeen(new int[59]));
        Edge.dueOfEach(-2, mayBySeen(2, 0, 0), mayBySeen(-1, 0, 0), mayBySeen(0, 3, 0), mayBySeen(0, -1, 0),
            mayBySeen(0, 0, -2), mayBySeen(0, 0, 3), mayBySeen(0, 0, 9), mayBySeen(0, 0, 11), mayBySeen(0, 0, 127));
        // The wrong one stands behind one that no road can have shown.
        Edge.due(mayBySeen(0, 0, -1, 0, 0, 3), -2);
        Edge.dueOfEach(-2, seen(Edge.HEAD).may(3, 0), new ObligingPosts().may(0, 0));
        Edge.promise(52, "-6: it has nothing");
        Edge.dueOfEach(-6, x.may(0, 0), x.may(1, 2), x.may(2, 0));
    }

    private static void ask() {
        String alike = "heath hours 1 law 0 odds 0;post;post;post;";
        Edge.promise(53, "The WALKER and the HOUR (100 times and) whose PLACE to know leaves fewest of these at worst, if "
            + "fewer than now, the first of several");
        Edge.due(seen(SEEN).ask(3, 0), 1);
        Edge.due(seen(LATE).ask(3, 0), 716);
        Edge.due(seen(alike + "road 0 to 1;road 0 to 1;road 0 to 1;road 0 to 2;walker 0 at 0;").ask(3, 0), 1);
        // By roads 0, 1, 2 WALKER 0 is at 1 1 2, then at 3 3 5, WALKER 1 at 1 2 1, then at 4 5 3.
        Edge.due(seen("heath hours 2 law 0 odds 0;" + "post;".repeat(6) + "road 0 to 1;road 0 to 1;road 0 to 2;"
            + "road 1 to 3;road 1 to 4;road 2 to 5;walker 0 at 0;walker 0 at 0;").ask(3, 0), 102);
        Edge.due(seen("heath hours 2 law 0 odds 0;post;post;post;post;road 0 to 1;road 0 to 2;road 0 to 3;road 0 to 3;"
            + "walker 3 at 0;walker 0 at 0;").ask(3, 0), 101);
        // Of roads 1 and 2, by which WALKER 0 is at POST 2, WALKER 1 tells; by road 0, which is out, he would be
        // where he is by road 1.
        String told = alike + "post;road 0 to 1;road 0 to 2;road 0 to 2;road 0 to 3;walker 0 at 0;walker 0 at 0;";
        Edge.due(seen(told, 0, 1, 2).may(3, 0), 2 + 4);
        Edge.due(seen(told, 0, 1, 2).ask(3, 0), 101);
        Edge.due(seen(told, 0, 1, 2).leaves(3, 0), 1);
        Edge.promise(53, "NONE: none");
        Edge.due(seen(SEEN, 0, 1, 1).ask(3, 0), -1);
        Edge.due(seen(SEEN, 0, 1, 2).ask(3, 0), -1);
        Edge.due(seen(SEEN, 0, 0, -1).ask(3, 0), -1);
        Edge.due(seen(SEEN).ask(3, 1), -1);
        Edge.due(seen(alike + "road 0 to 1;road 0 to 1;walker 0 at 0;").ask(3, 0), -1);
        Edge.due(seen(alike + "road 0 to 1;road 0 to 2;").ask(3, 0), -1);
        Edge.promise(53, "-2, -6 likewise");
        ObligingPosts x = seen(SEEN);
        Edge.dueOfEach(-2, x.ask(4, 0), x.ask(-1, 0), x.ask(3, 3), x.ask(0, 3), x.ask(3, -1), seen(SEEN, 0).ask(3, 0),
            seen(SEEN, 0, 0, 3).ask(3, 0), seen(SEEN, 0, 0, -1, 0, 3, 0).ask(3, 0), new ObligingPosts().ask(0, 0));
        Edge.dueOfEach(-6, x.ask(0, 0), x.ask(2, 1));
    }

    private static void leaves() {
        String alike = "heath hours 1 law 0 odds 0;post;post;post;";
        Edge.promise(54, "How many it leaves at worst (as now without)");
        Edge.due(seen(SEEN).leaves(3, 0), 1);
        Edge.due(seen(LATE).leaves(3, 0), 1);
        Edge.due(seen(alike + "road 0 to 1;road 0 to 1;road 0 to 1;road 0 to 2;walker 0 at 0;").leaves(3, 0), 3);
        Edge.due(seen(alike + "road 0 to 1;road 0 to 1;road 0 to 2;road 0 to 2;walker 0 at 0;").leaves(3, 0), 2);
        Edge.due(seen(SEEN, 0, 1, 1).leaves(3, 0), 1);
        Edge.due(seen(SEEN, 0, 1, 2).leaves(3, 0), 1);
        // Only WALKER 2 tells anything: 201.
        ObligingPosts third = seen(alike + "road 0 to 1;road 0 to 1;road 0 to 2;road 0 to 2;walker 1 at 0;walker 1 at 0;"
            + "walker 0 at 0;");
        Edge.due(third.ask(3, 0), 201);
        Edge.due(third.leaves(3, 0), 2);
        Edge.due(seen(SEEN, 0, 0, -1).leaves(3, 0), 0);
        Edge.due(seen(SEEN).leaves(3, 1), 0);
        Edge.due(seen(alike + "road 0 to 1;road 0 to 1;walker 0 at 0;").leaves(3, 0), 2);
        Edge.due(seen(alike + "road 0 to 1;road 0 to 2;road 0 to 1;road 0 to 2;").leaves(3, 0), 4);
        Edge.promise(54, "-2, -6 likewise");
        ObligingPosts x = seen(SEEN);
        Edge.dueOfEach(-2, x.leaves(4, 0), x.leaves(-1, 0), x.leaves(3, 3), x.leaves(0, 3), x.leaves(3, -1),
            seen(SEEN, 0).leaves(3, 0), seen(SEEN, 0, 0, 3).leaves(3, 0), new ObligingPosts().leaves(0, 0));
        Edge.dueOfEach(-6, x.leaves(0, 0), x.leaves(2, 1));
    }

    private static void laws() {
        Edge.promise(55, "LAWS (0 .. 3) by which it is as such a row tells, as bits");
        Edge.due(seen(SEEN).laws(3), 15);
        // WALKERS are, in HOURS 1 and 2, by LAWS 0 and 3 at 1 and 2, by 1 at 2 and 10, by 2 at 1 and 10.
        Edge.due(seen(SEEN, 0, 1, 1).laws(3), 1 + 4 + 8);
        Edge.due(seen(SEEN, 1, 2, 10).laws(3), 2 + 4);
        Edge.due(seen(SEEN, 0, 1, 1, 1, 2, 10).laws(3), 4);
        Edge.due(seen(SEEN, 0, 1, 10).laws(3), 0);
        Edge.due(seen(STAYING, 1, 1, 10, 0, 1, 10).laws(3), 8);
        Edge.due(seen(Edge.HEAD).laws(3), 15);
        Edge.promise(55, "-2 (POST aside; no HEATH), -6 likewise");
        ObligingPosts x = seen(SEEN);
        Edge.dueOfEach(-2, x.laws(4), x.laws(-1), seen(SEEN, 0).laws(3), seen(SEEN, 0, 0, 3).laws(3),
            seen(SEEN, 0, 3, 0).laws(3), seen(SEEN, 2, 0, 0).laws(3), seen(SEEN, 0, 0, -1, 2, 0, 0).laws(3),
            new ObligingPosts().laws(0), new ObligingPosts().laws(4));
        Edge.dueOfEach(-6, x.laws(0), x.laws(1), x.laws(2));
        ObligingPosts rowAlone = new ObligingPosts();
        Edge.due(rowAlone.row(0, 0, 0), 0);
        Edge.due(rowAlone.laws(0), -2);
    }

    private static void byLaw() {
        ObligingPosts x = Edge.told(STAYING);
        Edge.promise(56, "WALKERS in INNS in the last HOUR by a LAW in place of the one told, as bits");
        Edge.due(x.by(0), 1);
        Edge.due(x.by(1), 2);
        Edge.due(x.by(2), 1);
        Edge.due(x.by(3), 3);
        Edge.due(x.inside(1), 1);
        Edge.due(Edge.told(STAYING + "walker 0 at 0;".repeat(6)).by(3), 255);
        Edge.due(Edge.told(Edge.HEAD).by(3), 0);
        // By a set that was asked for, and by a NIGHT that was drawn, nothing else is otherwise behind it.
        Edge.due(x.worth(0), 2);
        Edge.due(x.by(0), 1);
        ObligingPosts thick = Edge.told(STAYING.replace("odds 0", "odds 10"));
        Edge.due(thick.drawn(0, 1), 0);
        Edge.due(thick.by(0), 1);
        Edge.due(thick.mean(0, 0), 0);
        Edge.due(thick.best(), -1);
        Edge.due(thick.worth(0), 2);
        Edge.promise(56, "-2: there is none such (0 .. 3), no HEATH");
        Edge.dueOfEach(-2, x.by(4), x.by(-1), x.by(Edge.MAX), x.by(Edge.MIN), new ObligingPosts().by(0));
        Edge.promise(57, "The LAW by which most are, the least of several");
        Edge.due(x.law(), 3);
        // One by LAW 1 goes to the end, by the others in; from the other road by LAW 1 alone in.
        String one = "heath hours 1 law 3 odds 0;inn room 9;post;post;road 0 in 0;road 0 to 1;walker 0 at 0;";
        Edge.due(Edge.told(one).law(), 0);
        Edge.due(Edge.told(one + "arm 0 1;").law(), 1);
        // Two by LAWS 0, 1 go by roads 0 1, 1 2: one of them is in; by LAW 2 by roads 0 2, as by LAW 3 both are.
        Edge.due(Edge.told("heath hours 1 law 0 odds 0;inn room 9;post;post;road 0 in 0;road 0 to 1;road 0 in 0;"
            + "walker 0 at 0;walker 0 at 0;").law(), 2);
        Edge.due(Edge.told(Edge.HEAD).law(), 0);
        Edge.promise(57, "-2: there is no HEATH");
        Edge.due(new ObligingPosts().law(), -2);
    }

    private static void worth() {
        Edge.term("VI", "STIFF: arms of POSTS that are not of a set do not turn when WALKERS are SENT (they are SENT by "
            + "the road at which it stands, whatever the LAW; by acts arms turn)");
        for (int law = 0; law < 4; law++) {
            ObligingPosts x = Edge.told(STAYING.replace("law 0", "law " + law));
            Edge.due(x.worth(0), 2);
            Edge.due(x.worth(2), 2);
            Edge.due(x.worth(1), law == 3 ? 2 : 1);
        }
        ObligingPosts turned = Edge.told(STAYING);
        Edge.due(turned.twists(0, 0), 1);
        Edge.due(turned.worth(0), 0);
        Edge.due(turned.twists(0, 0), 0);
        Edge.due(turned.worth(0), 2);
        Edge.term("VI", "The set is worth as many WALKERS as are in INNS in the last HOUR");
        Edge.due(Edge.told(STAYING + "walker 0 at 0;".repeat(6)).worth(0), 8);
        Edge.due(Edge.told(STAYING + "walker 0 at 1;").worth(0), 2);
        Edge.promise(58, "What a set of POSTS (bits) is worth (VI)");
        Edge.due(Edge.told(Edge.FULL).worth(127), 7);
        Edge.due(Edge.told(Edge.HEAD).worth(0), 0);
        Edge.due(Edge.told(LAST_ROAD).worth(0), 0);
        Edge.due(Edge.told(LAST_ROAD).worth(127), 0);
        Edge.due(Edge.told(LAST_ROAD + "walker 6 at 0;".repeat(3)).worth(64), 1);
        Edge.due(Edge.told(LAST_ROAD + "walker 6 at 0;".repeat(3)).worth(63), 0);
        Edge.promise(58, "-2: there is no such set, no HEATH");
        ObligingPosts seven = Edge.told(Edge.FULL);
        ObligingPosts two = Edge.told(STAYING);
        Edge.dueOfEach(-2, seven.worth(128), seven.worth(-1), seven.worth(Edge.MAX), seven.worth(Edge.MIN), two.worth(4),
            two.worth(7), Edge.told(Edge.HEAD).worth(1), new ObligingPosts().worth(0));
    }

    private static void share() {
        Edge.term("VI", "POSTS come in an order, each has what the set is worth more by it (below 0, too)");
        ObligingPosts less = Edge.told(STAYING);
        Edge.due(less.share(0, 0), -1);
        Edge.due(less.share(0, 1), 1);
        // Three come in, unless both turn: then one of them comes to the end.
        ObligingPosts half = Edge.told("heath hours 2 law 0 odds 0;inn room 9;post;post;post;road 0 in 0;road 0 to 1;"
            + "road 1 in 0;road 1 to 2;walker 0 at 0;walker 1 at 0;walker 0 at 0;");
        Edge.due(half.worth(0), 3);
        Edge.due(half.worth(1), 3);
        Edge.due(half.worth(2), 3);
        Edge.due(half.worth(3), 2);
        Edge.due(half.share(0, 0), -1);
        Edge.due(half.share(0, 1), 2);
        Edge.due(half.share(1, 0), -1);
        Edge.due(half.share(1, 1), 2);
        Edge.term("VI", "each order is as likely: the mean");
        // One comes in if POSTS 0, 1, 2 all turn: each is the last of them in a third of all orders.
        ObligingPosts third = Edge.told("heath hours 3 law 0 odds 0;inn room 9;post;post;post;post;road 0 to 3;"
            + "road 0 to 1;road 1 to 3;road 1 to 2;road 2 to 3;road 2 in 0;walker 0 at 0;walker 1 at 0;walker 2 at 0;"
            + "walker 0 at 0;");
        for (int post = 0; post < 3; post++) {
            Edge.due(third.share(post, 0), 1);
            Edge.due(third.share(post, 1), 3);
        }
        Edge.due(third.share(3, 0), 0);
        Edge.due(third.share(3, 1), 1);
    }

    private static void shareOfMany() {
        Edge.promise(59, "SHARE (VI) of a POST, above (what 0; below 0, too), below (1)");
        // All that may be told: six must turn, and a seventh has no roads.
        ObligingPosts sixth = Edge.told("heath hours 6 law 0 odds 0;inn room 9;" + "post;".repeat(7) + "road 0 to 6;"
            + "road 0 to 1;road 1 to 6;road 1 to 2;road 2 to 6;road 2 to 3;road 3 to 6;road 3 to 4;road 4 to 6;"
            + "road 4 to 5;road 5 to 6;road 5 in 0;walker 0 at 0;walker 1 at 0;walker 2 at 0;walker 3 at 0;"
            + "walker 4 at 0;walker 5 at 0;walker 0 at 0;");
        Edge.due(sixth.worth(63), 1);
        Edge.due(sixth.worth(62), 0);
        for (int post = 0; post < 6; post++) {
            Edge.due(sixth.share(post, 0), 1);
            Edge.due(sixth.share(post, 1), 6);
        }
        Edge.due(sixth.share(6, 0), 0);
        Edge.due(sixth.share(6, 1), 1);
        ObligingPosts alone = Edge.told("heath hours 1 law 0 odds 0;inn room 9;inn room 0;post;road 0 in 1;road 0 in 0;"
            + "walker 0 at 0;walker 0 at 0;");
        Edge.due(alone.share(0, 0), 1);
        Edge.due(alone.share(0, 1), 1);
        Edge.promise(59, "-1,000: there are none such");
        Edge.dueOfEach(-1000, sixth.share(7, 0), sixth.share(-1, 0), sixth.share(0, 2), sixth.share(0, -1),
            sixth.share(Edge.MAX, 0), sixth.share(0, Edge.MIN), Edge.told(Edge.HEAD).share(0, 0),
            new ObligingPosts().share(0, 0));
    }

    private static void rests() {
        Edge.term("VII", "REST: neither GETS more by the other choice alone");
        // By a hand in HOUR 1 one who waits comes in at once, in HOUR 2: 17; else in HOUR 3, by POSTS 1, 2: 17, too.
        String alike = "heath hours 6 law 0 odds 0;inn room 9;post;post;post;post;road 0 to 1;road 0 in 0;road 1 to 2;"
            + "road 2 in 0;road 3 to 1;road 3 in 0;walker 0 at 0;walker 3 at 0;";
        ObligingPosts x = Edge.told(alike);
        Edge.due(x.rests(0, 1), 1);
        Edge.due(x.twists(0, 1), 0);
        Edge.due(x.rests(0, 1), 1 + 2);
        Edge.due(x.rests(1, 0), 1 + 4);
        Edge.due(x.twists(3, 1), 0);
        Edge.due(x.rests(0, 1), 15);
        Edge.promise(60, "GAME (VII): pairs of choices of two WALKERS at REST, as bits: 1 neither waits, 2 the first one "
            + "does, 4 the other one, 8 both");
        // Who waits comes in at once by the hand (17), else he goes to and fro till HOUR 5 (15).
        ObligingPosts waits = Edge.told("heath hours 6 law 0 odds 0;inn room 9;post;post;post;post;road 0 to 1;"
            + "road 0 in 0;road 1 to 0;road 2 to 3;road 2 in 0;road 3 to 2;walker 0 at 0;walker 2 at 0;");
        Edge.due(waits.rests(0, 1), 1);
        Edge.due(waits.twists(0, 1), 0);
        Edge.due(waits.gets(0, 1, 0, 0), 15);
        Edge.due(waits.gets(0, 1, 1, 0), 17);
        Edge.due(waits.rests(0, 1), 2);
        Edge.due(waits.rests(1, 0), 4);
        Edge.due(waits.twists(2, 1), 0);
        Edge.due(waits.rests(0, 1), 8);
        // No pair at all: by 0 0 the first one would wait, by 1 0 then the other one, by 1 1 the first one not, ..
        ObligingPosts none = Edge.told("heath hours 3 law 0 odds 0;inn room 2;post;post;road 0 to 1;road 0 in 0;"
            + "walker 0 at 0;walker 0 at 0;");
        Edge.due(none.rests(0, 1), 0);
        Edge.promise(60, "-2: there are none such, one twice");
        Edge.dueOfEach(-2, none.rests(0, 0), none.rests(1, 1), none.rests(0, 2), none.rests(2, 0), none.rests(-1, 0),
            none.rests(0, -1), none.rests(2, 2), Edge.told(Edge.HEAD).rests(0, 1), new ObligingPosts().rests(0, 1));
    }

    private static void gets() {
        String inn = "heath hours 16 law 0 odds 0;inn room 9;post;post;road 0 in 0;";
        Edge.term("VII", "Each of two WALKERS comes an HOUR later (beyond the last: never), or not");
        ObligingPosts x = Edge.told(inn + "walker 0 at 0;walker 0 at 13;walker 0 at 14;walker 0 at 15;");
        Edge.due(x.gets(2, 0, 0, 0), 5);
        Edge.due(x.gets(2, 0, 1, 0), 3);
        Edge.due(x.gets(3, 0, 0, 0), 4);
        Edge.due(x.gets(3, 0, 1, 0), -1);
        Edge.due(x.gets(0, 3, 0, 1), 19);
        ObligingPosts last = Edge.told("heath hours 1 law 0 odds 0;inn room 1;post;road 0 in 0;walker 0 at 0;"
            + "walker 0 at 1;walker 0 at 2;walker 0 at 15;");
        Edge.due(last.gets(0, 1, 0, 0), 19);
        Edge.due(last.gets(0, 1, 1, 0), -1);
        Edge.due(last.gets(1, 0, 1, 0), -1);
        Edge.due(last.gets(2, 0, 1, 1), -1);
        Edge.due(last.gets(3, 0, 1, 1), -1);
        Edge.due(last.gets(3, 0, 0, 1), 0);
        Edge.term("VII", "He GETS 20 less the first HOUR in which he is in an INN (0, if in none), less 1, if he comes "
            + "later");
        Edge.due(x.gets(0, 1, 0, 0), 19);
        Edge.due(x.gets(0, 1, 1, 0), 17);
        Edge.due(x.gets(0, 1, 0, 1), 19);
        Edge.due(Edge.told(Edge.HEAD + "post;walker 0 at 0;walker 0 at 0;").gets(0, 1, 0, 0), 0);
        Edge.due(Edge.told(Edge.HEAD + "post;walker 0 at 0;walker 0 at 0;").gets(0, 1, 1, 0), -1);
        Edge.promise(61, "What the first of two GETS by the choices (1 he comes later, 0 not; below 0, too)");
        // One room: who comes ahead has it; of both in one HOUR the first by number.
        ObligingPosts narrow = Edge.told(Edge.HEAD + "inn room 1;post;road 0 in 0;walker 0 at 0;walker 0 at 0;");
        Edge.due(narrow.gets(0, 1, 0, 0), 19);
        Edge.due(narrow.gets(0, 1, 1, 0), -1);
        Edge.due(narrow.gets(0, 1, 0, 1), 19);
        Edge.due(narrow.gets(0, 1, 1, 1), 17);
        Edge.due(narrow.gets(1, 0, 0, 0), 0);
        Edge.due(narrow.gets(1, 0, 0, 1), 19);
        Edge.due(narrow.gets(1, 0, 1, 1), -1);
        // The other one comes in his HOUR, 1, or in 2, to the one room.
        ObligingPosts later = Edge.told(Edge.HEAD + "inn room 1;post;road 0 in 0;walker 0 at 1;walker 0 at 1;"
            + "walker 0 at 2;");
        Edge.due(later.gets(1, 0, 0, 0), 0);
        Edge.due(later.gets(1, 2, 0, 0), 0);
        Edge.due(later.holds(0, 1), 0);
        Edge.due(later.gets(2, 1, 0, 0), 0);
        Edge.due(later.gets(1, 2, 0, 0), 18);
        Edge.due(later.gets(2, 0, 0, 1), 0);
        Edge.due(later.undo(), 0);
        // What would be leaves what is.
        Edge.due(narrow.walker(0, 1), 0);
        Edge.due(narrow.home(0), 1);
        Edge.promise(61, "-1,000: there are none such, one twice");
        Edge.dueOfEach(-1000, narrow.gets(0, 0, 0, 0), narrow.gets(0, 2, 0, 0), narrow.gets(2, 0, 0, 0),
            narrow.gets(-1, 0, 0, 0), narrow.gets(0, -1, 0, 0), narrow.gets(0, 1, 2, 0), narrow.gets(0, 1, -1, 0),
            narrow.gets(0, 1, 0, 2), narrow.gets(0, 1, 0, -1), Edge.told(Edge.HEAD).gets(0, 1, 0, 0),
            new ObligingPosts().gets(0, 1, 0, 0));
    }

    private static String foggy(int hours, int odds) {
        return "heath hours " + hours + " law 0 odds " + odds + ";inn room 9;post;post;road 0 in 0;";
    }

    private static void dueFraction(ObligingPosts x, int walker, int hour, long above, long below) {
        Edge.due(x.chance(walker, hour, 0), above);
        Edge.due(x.chance(walker, hour, 1), below);
    }

    private static void fog() {
        Edge.term("II", "In FOG nobody is SENT (arms turned by acts turn)");
        // By the road to which the hand turned the arm in HOUR 0, in FOG or not, he comes in from HOUR 1 at the latest.
        ObligingPosts turned = Edge.told("heath hours 2 law 0 odds 3;inn room 1;post;post;road 0 to 1;road 0 in 0;"
            + "walker 0 at 0;");
        Edge.due(turned.twists(0, 0), 0);
        dueFraction(turned, 0, 0, 7, 10);
        dueFraction(turned, 0, 1, 91, 100);
        Edge.term("VIII", "FOG: from each HOUR to the next with odds in ten, by itself (else none is)");
        dueFraction(Edge.told(foggy(3, 0) + "walker 0 at 0;"), 0, 0, 1, 1);
        dueFraction(Edge.told(foggy(3, 1) + "walker 0 at 0;"), 0, 0, 9, 10);
        dueFraction(Edge.told(foggy(3, 1) + "walker 0 at 0;"), 0, 1, 99, 100);
        dueFraction(Edge.told(foggy(3, 9) + "walker 0 at 0;"), 0, 0, 1, 10);
        dueFraction(Edge.told(foggy(3, 9) + "walker 0 at 0;"), 0, 2, 271, 1000);
        dueFraction(Edge.told(foggy(3, 10) + "walker 0 at 0;"), 0, 2, 0, 1);
        // FOG does not keep one from coming.
        dueFraction(Edge.told(foggy(3, 3) + "walker 0 at 1;"), 0, 1, 7, 10);
        dueFraction(Edge.told(foggy(3, 3) + "walker 0 at 1;"), 0, 0, 0, 1);
        Edge.term("VIII", "FRACTIONS are told in lowest terms (0 / 1)");
        dueFraction(Edge.told(foggy(3, 5) + "walker 0 at 0;"), 0, 0, 1, 2);
        dueFraction(Edge.told(foggy(3, 5) + "walker 0 at 0;"), 0, 1, 3, 4);
        dueFraction(Edge.told(foggy(3, 4) + "walker 0 at 0;"), 0, 1, 21, 25);
        dueFraction(Edge.told(foggy(3, 4) + "walker 1 at 0;"), 0, 1, 0, 1);
    }

    private static void chance() {
        Edge.promise(62, "FOG (VIII) from HOURS 0 to one (0 .. 7, ahead of the last): the chance that a WALKER is in an "
            + "INN in the HOUR behind it, above, below");
        ObligingPosts sixteen = Edge.told(foggy(16, 3) + "walker 0 at 0;" + "walker 0 at 7;".repeat(7));
        dueFraction(sixteen, 0, 0, 7, 10);
        dueFraction(sixteen, 7, 7, 7, 10);
        dueFraction(sixteen, 7, 6, 0, 1);
        // 1 less 0.3 eight times with itself, and less 0.9.
        dueFraction(sixteen, 0, 7, 99993439, 100000000);
        dueFraction(Edge.told(foggy(8, 9) + "walker 0 at 0;"), 0, 7, 56953279, 100000000);
        ObligingPosts seven = Edge.told(foggy(7, 3) + "walker 0 at 0;");
        dueFraction(seven, 0, 6, 9997813, 10000000);
        dueFraction(Edge.told(foggy(1, 3) + "walker 0 at 0;"), 0, 0, 7, 10);
        Edge.promise(62, "-2: there are none such");
        Edge.dueOfEach(-2, sixteen.chance(0, 8, 0), sixteen.chance(0, -1, 0), sixteen.chance(8, 0, 0),
            sixteen.chance(-1, 0, 0), sixteen.chance(0, 0, 2), sixteen.chance(0, 0, -1), sixteen.chance(0, 16, 0),
            seven.chance(0, 7, 0), seven.chance(1, 0, 0), Edge.told(foggy(1, 3) + "walker 0 at 0;").chance(0, 1, 0),
            Edge.told(Edge.HEAD).chance(0, 0, 0), new ObligingPosts().chance(0, 0, 0));
    }

    private static void mean() {
        Edge.promise(63, "The mean number of WALKERS in INNS then, above, below");
        ObligingPosts eight = Edge.told(foggy(16, 3) + "walker 0 at 0;".repeat(8));
        Edge.due(eight.mean(0, 0), 28);
        Edge.due(eight.mean(0, 1), 5);
        // 8 * 99993439 / 100000000.
        Edge.due(eight.mean(7, 0), 99993439);
        Edge.due(eight.mean(7, 1), 12500000);
        ObligingPosts clear = Edge.told(foggy(1, 0) + "walker 0 at 0;".repeat(8));
        Edge.due(clear.mean(0, 0), 8);
        Edge.due(clear.mean(0, 1), 1);
        Edge.due(Edge.told(Edge.HEAD).mean(2, 0), 0);
        Edge.due(Edge.told(Edge.HEAD).mean(2, 1), 1);
        Edge.promise(63, "-2: there are none such");
        Edge.dueOfEach(-2, eight.mean(8, 0), eight.mean(-1, 0), eight.mean(0, 2), eight.mean(0, -1), clear.mean(1, 0),
            Edge.told(Edge.HEAD).mean(3, 0), new ObligingPosts().mean(0, 0));
    }

    private static int bitsBelow(int odds, int... draws) {
        int bits = 0;
        for (int hour = 0; hour < draws.length; hour++) {
            bits |= draws[hour] < odds ? 1 << hour : 0;
        }
        return bits;
    }

    private static void drawn() {
        // The draws were counted by another program, in another language.
        int[] fromZero = {0, 8, 8, 7, 8, 7, 5, 1, 2, 0, 1, 2, 9, 8, 7, 5};
        int[] fromLast = {4, 3, 1, 7, 6, 2, 7, 7, 5, 4, 7, 0, 4, 8, 1, 3};
        Edge.term("VIII", "DRAWS: x becomes (1103515245 x + 12345) modulo 2,147,483,648 (at first it is the seed); a draw: "
            + "x / 65536, cut, modulo 10");
        for (int odds = 0; odds <= 10; odds++) {
            ObligingPosts x = Edge.told(foggy(16, odds));
            Edge.due(x.drawn(0, 0), bitsBelow(odds, fromZero));
            Edge.due(x.drawn(2000000000, 0), bitsBelow(odds, fromLast));
        }
        Edge.term("VIII", "NIGHT drawn: HOUR by HOUR ahead of the last a draw: below odds there is FOG from it");
        Edge.due(Edge.told(foggy(1, 1)).drawn(0, 0), 1);
        Edge.due(Edge.told(foggy(1, 4)).drawn(2000000000, 0), 0);
        Edge.due(Edge.told(foggy(1, 5)).drawn(2000000000, 0), 1);
        Edge.promise(68, "NIGHT drawn (VIII) from a seed (0 .. 2,000,000,000), what 0: HOURS from which there is FOG, as "
            + "bits, 1: WALKERS in INNS in the last HOUR, as bits");
        Edge.due(Edge.told(foggy(16, 10) + "walker 0 at 0;").drawn(0, 0), 65535);
        Edge.due(Edge.told(foggy(16, 10) + "walker 0 at 0;").drawn(0, 1), 0);
        Edge.due(Edge.told(foggy(16, 0) + "walker 0 at 15;".repeat(8)).drawn(2000000000, 1), 255);
        // From 0 with odds 6 HOUR 15 has FOG (5), with odds 5 not.
        Edge.due(Edge.told(foggy(16, 6) + "walker 0 at 15;").drawn(0, 1), 0);
        Edge.due(Edge.told(foggy(16, 5) + "walker 0 at 15;").drawn(0, 1), 1);
        Edge.due(Edge.told(foggy(16, 6) + "walker 0 at 0;walker 0 at 15;walker 0 at 14;").drawn(0, 1), 1 + 4);
        Edge.promise(68, "-2: there are none such, no HEATH");
        ObligingPosts x = Edge.told(foggy(16, 6));
        Edge.dueOfEach(-2, x.drawn(-1, 0), x.drawn(2000000001, 0), x.drawn(Edge.MAX, 0), x.drawn(Edge.MIN, 0),
            x.drawn(0, 2), x.drawn(0, -1), new ObligingPosts().drawn(0, 0), new ObligingPosts().drawn(0, 1));
    }

    private static void luck() {
        // First draws from seeds 0, 1, .. : 0 8; WALKERS in one HOUR come in without FOG alone.
        ObligingPosts x = Edge.told(foggy(1, 5) + "walker 0 at 0;walker 1 at 0;");
        Edge.promise(69, "Of n (1 .. 20) such from seeds, the seed and 1, .., in how many a WALKER is in an INN in the "
            + "last HOUR");
        Edge.due(x.luck(0, 1, 0), 0);
        Edge.due(x.luck(0, 2, 0), 1);
        Edge.due(x.luck(1, 1, 0), 1);
        int lucky = 0;
        for (int i = 0; i < 20; i++) {
            lucky += x.drawn(i, 1);
        }
        Edge.due(x.luck(0, 20, 0), lucky);
        Edge.due(x.luck(0, 20, 1), 0);
        Edge.due(Edge.told(foggy(1, 0) + "walker 0 at 0;").luck(2000000000, 20, 0), 20);
        Edge.due(Edge.told(foggy(1, 10) + "walker 0 at 0;").luck(2000000000, 20, 0), 0);
        // The first draw from 2,000,000,000 is 4.
        Edge.due(Edge.told(foggy(1, 4) + "walker 0 at 0;").luck(2000000000, 1, 0), 1);
        Edge.due(Edge.told(foggy(1, 5) + "walker 0 at 0;").luck(2000000000, 1, 0), 0);
        Edge.promise(69, "-2: there are none such");
        Edge.dueOfEach(-2, x.luck(-1, 1, 0), x.luck(2000000001, 1, 0), x.luck(Edge.MAX, 20, 0), x.luck(0, 0, 0),
            x.luck(0, 21, 0), x.luck(0, -1, 0), x.luck(0, 1, 2), x.luck(0, 1, -1), Edge.told(Edge.HEAD).luck(0, 1, 0),
            new ObligingPosts().luck(0, 1, 0));
    }
}
