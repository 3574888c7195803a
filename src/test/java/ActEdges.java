/** Promises 64 to 67 and 70 to 73: acts, rooms, counts and IMAGES; which answer is asked ahead of which. */
final class ActEdges {
    /** Of POST 0 road 0 goes to an end, 1 in; POST 1 has no roads. */
    private static final String TURNED = Edge.HEAD + "inn room 2;post;post;road 0 to 1;road 0 in 0;walker 0 at 0;"
        + "walker 0 at 2;walker 0 at 15;";

    /** By a stiff arm two are in, by one that turns one is. */
    private static final String STIFF = "heath hours 1 law 0 odds 3;inn room 9;post;post;road 0 in 0;road 0 to 1;"
        + "walker 0 at 0;walker 0 at 0;";

    private ActEdges() {
    }

    static void run() {
        twists();
        holds();
        thirty();
        undo();
        anew();
        askedAhead();
        rate();
        count();
        image();
        back();
    }

    private static void twists() {
        Edge.promise(64, "An arm is turned by hand in an HOUR ahead of the last (II; of a POST without roads it is an act "
            + "all the same): the road at which it stands in the last HOUR then (NONE: the POST has none)");
        // Two are SENT: as told the arm stands at 0 1 1 0; turned in HOUR 2, 0 1 1 1; in HOURS 0 and 2, 0 0 0 0.
        ObligingPosts x = Edge.told(TURNED);
        Edge.due(x.arm(0, 3), 0);
        Edge.due(x.twists(0, 2), 1);
        Edge.due(x.at(1, 3), 1);
        Edge.due(x.twists(0, 0), 0);
        Edge.due(x.at(0, 1), 10);
        Edge.due(x.at(1, 3), 10);
        Edge.due(x.count(8), 2);
        Edge.due(x.twists(1, 0), -1);
        Edge.due(x.twists(1, 2), -1);
        Edge.due(x.count(8), 4);
        // What was asked for ahead of an act is otherwise behind it.
        ObligingPosts y = Edge.told("heath hours 1 law 0 odds 3;inn room 9;post;post;road 0 in 0;road 0 to 1;"
            + "walker 0 at 0;");
        Edge.due(y.chance(0, 0, 0), 7);
        Edge.due(y.mean(0, 0), 7);
        Edge.due(y.worth(0), 1);
        Edge.due(y.share(0, 0), 0);
        Edge.due(y.twists(0, 0), 0);
        Edge.due(y.chance(0, 0, 0), 0);
        Edge.due(y.mean(0, 0), 0);
        Edge.due(y.worth(0), 0);
        Edge.promise(64, "-2: there are none such");
        Edge.dueOfEach(-2, x.twists(0, 3), x.twists(0, 4), x.twists(0, -1), x.twists(2, 0), x.twists(-1, 0),
            x.twists(10, 0), x.twists(Edge.MAX, 0), x.twists(0, Edge.MIN));
        Edge.due(x.count(8), 4);
        ObligingPosts one = Edge.told("heath hours 1 law 0 odds 0;post;");
        Edge.due(one.twists(0, 1), -2);
        Edge.due(one.twists(0, 0), -1);
        Edge.dueOfEach(-2, Edge.told(Edge.HEAD).twists(0, 0), new ObligingPosts().twists(0, 0));
    }

    private static void holds() {
        Edge.promise(65, "A WALKER is HELD in an HOUR ahead of the last (whether he has come or not): his PLACE in the "
            + "last HOUR then (NONE: he has not come)");
        ObligingPosts x = Edge.told(TURNED);
        Edge.due(x.holds(0, 0), 1);
        Edge.due(x.at(0, 1), 0);
        Edge.due(x.at(0, 2), 1);
        Edge.due(x.holds(1, 0), 10);
        Edge.due(x.holds(1, 1), 10);
        Edge.due(x.holds(1, 2), 0);
        Edge.due(x.holds(2, 0), -1);
        Edge.due(x.holds(2, 2), -1);
        Edge.due(x.count(8), 6);
        // Held once more in the same HOUR he is held no longer; one of the two taken back, he still is.
        Edge.due(x.holds(0, 0), 1);
        Edge.due(x.at(0, 2), 1);
        Edge.due(x.undo(), 6);
        Edge.due(x.at(0, 1), 0);
        Edge.promise(65, "-2, -5 likewise");
        Edge.dueOfEach(-2, x.holds(0, 3), x.holds(0, 4), x.holds(0, -1), x.holds(3, 0), x.holds(-1, 0),
            x.holds(Edge.MAX, 0), x.holds(0, Edge.MIN), Edge.told(Edge.HEAD).holds(0, 0),
            new ObligingPosts().holds(0, 0));
        Edge.due(x.count(8), 6);
        for (int i = 6; i < 30; i++) {
            Edge.due(x.holds(0, 0), 1);
        }
        Edge.due(x.holds(0, 0), -5);
        Edge.due(x.holds(0, 1), -5);
        Edge.due(x.at(0, 2), 1);
        Edge.due(x.count(8), 30);
    }

    private static void thirty() {
        Edge.promise(64, "-5: there were 30 acts");
        ObligingPosts x = Edge.told(TURNED);
        for (int i = 1; i <= 30; i++) {
            Edge.due(x.twists(0, 2), i % 2);
            Edge.due(x.count(8), i);
        }
        Edge.due(x.twists(0, 2), -5);
        Edge.due(x.twists(1, 0), -5);
        Edge.due(x.arm(0, 3), 0);
        Edge.due(x.count(8), 30);
        Edge.due(x.undo(), 29);
        Edge.due(x.arm(0, 3), 1);
        Edge.due(x.twists(1, 0), -1);
        Edge.due(x.twists(0, 2), -5);
        // Others of other HEATHS do not count.
        Due.tape(x, TURNED);
        Edge.due(x.heath(), 9);
        Edge.due(x.twists(0, 2), 1);
    }

    private static void undo() {
        Edge.promise(66, "The latest act is taken back: how many there are");
        ObligingPosts x = Edge.told(TURNED);
        Edge.due(x.twists(0, 0), 1);
        Edge.due(x.holds(0, 0), 10);
        Edge.due(x.at(0, 1), 0);
        Edge.due(x.undo(), 1);
        Edge.due(x.at(0, 1), 10);
        Edge.due(x.undo(), 0);
        Edge.due(x.at(0, 1), 1);
        Edge.promise(66, "-5: there is none");
        Edge.due(x.undo(), -5);
        Edge.due(x.count(8), 0);
        Edge.due(Edge.told(Edge.HEAD).undo(), -5);
        Edge.promise(66, "-2: there is no HEATH");
        Edge.due(new ObligingPosts().undo(), -2);
    }

    private static void anew() {
        Edge.promise(67, "All are: how many there were");
        ObligingPosts x = Edge.told(TURNED);
        Edge.due(x.anew(), 0);
        for (int i = 0; i < 30; i++) {
            x.twists(0, 2);
        }
        Edge.due(x.holds(0, 0), -5);
        Edge.due(x.anew(), 30);
        Edge.due(x.count(8), 0);
        Edge.due(x.anew(), 0);
        Edge.due(x.undo(), -5);
        Edge.due(x.holds(0, 0), 1);
        Edge.due(x.anew(), 1);
        Edge.due(x.at(0, 1), 1);
        Edge.promise(67, "-2 likewise");
        Edge.due(new ObligingPosts().anew(), -2);
    }

    private static void askedAhead() {
        Edge.term("I", "-2 (-1,000) is asked ahead of -5, -6");
        ObligingPosts x = Edge.told(TURNED);
        for (int i = 0; i < 30; i++) {
            x.twists(0, 2);
        }
        Edge.dueOfEach(-2, x.twists(2, 0), x.twists(0, 3), x.holds(3, 0), x.holds(0, 3), x.rate(1, 0), x.rate(0, 10),
            x.rate(0, -1));
        Edge.dueOfEach(-5, x.twists(0, 0), x.holds(0, 0), x.rate(0, 0));
        Edge.dueOfEach(-2, x.may(0, 2), x.ask(0, 2), x.leaves(0, 2), x.may(4, 0), x.laws(4), x.write(4, 0, 0),
            x.paste(0, 0, 4, 0, 1), x.paste(4, 0, 0, 0, 1), x.back(3));
        Edge.dueOfEach(-6, x.may(0, 0), x.ask(0, 0), x.leaves(0, 0), x.laws(0), x.write(0, 0, 0), x.paste(0, 0, 1, 0, 1),
            x.back(2));
        ObligingPosts none = new ObligingPosts();
        Edge.dueOfEach(-2, none.undo(), none.laws(0), none.may(0, 0));
    }

    private static void rate() {
        Edge.promise(70, "room of an INN is n (0 .. 9) from now on: what it was");
        ObligingPosts x = Edge.told(Edge.HEAD + "inn room 2;inn room 3;inn room 4;inn room 5;post;road 0 in 0;"
            + "walker 0 at 0;walker 0 at 0;");
        Edge.due(x.inside(3), 3);
        Edge.due(x.mean(0, 0), 2);
        Edge.due(x.rate(0, 0), 2);
        Edge.due(x.mean(0, 0), 0);
        Edge.due(x.inside(3), 0);
        Edge.due(x.full(0), 0);
        Edge.due(x.rate(0, 1), 0);
        Edge.due(x.inside(3), 1);
        Edge.due(x.rate(0, 9), 1);
        Edge.due(x.room(0), 9);
        Edge.due(x.rate(3, 0), 5);
        Edge.due(x.room(3), 0);
        Edge.due(x.room(2), 4);
        // What was asked for ahead is otherwise behind it, and as it was behind another, an IMAGE and a text.
        ObligingPosts stiff = Edge.told(STIFF);
        Edge.due(stiff.image(0), 0);
        Edge.due(stiff.share(0, 0), -1);
        Edge.due(stiff.rate(0, 0), 9);
        Edge.due(stiff.share(0, 0), 0);
        Edge.due(stiff.rate(0, 2), 0);
        Edge.due(stiff.share(0, 0), -1);
        Edge.due(stiff.twists(0, 0), 1);
        Edge.due(stiff.share(0, 0), 1);
        Edge.due(stiff.undo(), 0);
        Edge.due(stiff.share(0, 0), -1);
        Edge.due(stiff.rate(0, 0), 2);
        Edge.due(stiff.share(0, 0), 0);
        Edge.due(stiff.back(0), 0);
        Edge.due(stiff.share(0, 0), -1);
        Due.tape(stiff, STIFF.replace("room 9", "room 1"));
        Edge.due(stiff.heath(), 8);
        Edge.due(stiff.share(0, 0), 0);
        Edge.promise(70, "-2: there are none such");
        Edge.dueOfEach(-2, x.rate(0, 10), x.rate(0, -1), x.rate(4, 0), x.rate(-1, 0), x.rate(10, 0), x.rate(0, Edge.MAX),
            Edge.told(Edge.HEAD).rate(0, 0), new ObligingPosts().rate(0, 0));
        Edge.due(x.room(0), 9);
        Edge.promise(70, "-5: there are acts that are not taken back");
        Edge.due(x.holds(0, 0), 10);
        Edge.due(x.rate(0, 0), -5);
        Edge.due(x.rate(0, 9), -5);
        Edge.due(x.room(0), 9);
        Edge.due(x.undo(), 0);
        Edge.due(x.rate(0, 8), 9);
        Edge.due(x.twists(0, 0), 0);
        Edge.due(x.rate(0, 0), -5);
        Edge.due(x.anew(), 1);
        Edge.due(x.rate(0, 0), 8);
    }

    private static void count() {
        Edge.promise(71, "0 hours, 1 LAW, 2 odds, 3 INNS, 4 POSTS, 5 ROADS, 6 arm LINES, 7 WALKERS, 8 acts, 9 LINES, 10 "
            + "bytes of the TAPE, 11 SLOTS that have a row");
        ObligingPosts x = Edge.told(Edge.FULL);
        x.twists(0, 0);
        x.holds(0, 0);
        x.holds(0, 1);
        x.row(0, 0, 0);
        x.row(3, 3, 60);
        x.row(3, 0, 1);
        x.feed(0, 0, 0, 0, 0);
        int[] counts = {16, 0, 10, 4, 7, 16, 8, 8, 3, 44, 20, 2};
        for (int what = 0; what < counts.length; what++) {
            Edge.due(x.count(what), counts[what]);
        }
        x.row(1, 0, 0);
        x.row(2, 0, 0);
        Edge.due(x.count(11), 4);
        ObligingPosts bare = Edge.told("heath hours 1 law 3 odds 9;");
        int[] few = {1, 3, 9, 0, 0, 0, 0, 0, 0, 1, 0, 0};
        for (int what = 0; what < few.length; what++) {
            Edge.due(bare.count(what), few[what]);
        }
        Edge.promise(71, "NONE for others");
        Edge.dueOfEach(-1, x.count(12), x.count(-1), x.count(Edge.MAX), x.count(Edge.MIN),
            new ObligingPosts().count(12));
    }

    private static void image() {
        Edge.promise(72, "IMAGE k (0 .. 2) keeps the HEATH, and acts: 0");
        ObligingPosts x = Edge.told(TURNED);
        Edge.due(x.image(0), 0);
        Edge.due(x.twists(0, 0), 1);
        Edge.due(x.image(1), 0);
        Edge.due(x.heath(), 0);
        Edge.due(x.image(2), 0);
        Edge.due(x.back(0), 0);
        Edge.due(x.count(8), 0);
        Edge.due(x.at(0, 1), 1);
        Edge.due(x.back(1), 0);
        Edge.due(x.count(8), 1);
        Edge.due(x.at(0, 1), 10);
        Edge.due(x.back(2), 0);
        Edge.due(x.armless(), -2);
        // The acts themselves are kept, and in their order: the latest is taken back first.
        ObligingPosts order = Edge.told(TURNED);
        Edge.due(order.twists(0, 0), 1);
        Edge.due(order.holds(0, 0), 10);
        Edge.due(order.image(0), 0);
        Edge.due(order.anew(), 2);
        Edge.due(order.holds(1, 2), 0);
        Edge.due(order.twists(1, 1), -1);
        Edge.due(order.back(0), 0);
        Edge.due(order.at(0, 1), 0);
        Edge.due(order.undo(), 1);
        Edge.due(order.at(0, 1), 10);
        Edge.due(order.undo(), 0);
        Edge.due(order.at(0, 1), 1);
        // What is done behind it is not kept, and another in its place is.
        Edge.due(x.back(0), 0);
        Edge.due(x.rate(0, 9), 2);
        Edge.due(x.holds(0, 0), 1);
        Edge.due(x.back(0), 0);
        Edge.due(x.room(0), 2);
        Edge.due(x.count(8), 0);
        Edge.due(x.rate(0, 9), 2);
        Edge.due(x.image(0), 0);
        Edge.due(x.rate(0, 3), 9);
        Edge.due(x.back(0), 0);
        Edge.due(x.room(0), 9);
        Edge.promise(72, "-2: no such k");
        Edge.dueOfEach(-2, x.image(3), x.image(-1), x.image(Edge.MAX), x.image(Edge.MIN));
    }

    private static void back() {
        Edge.promise(73, "It is as IMAGE k has it: 0");
        ObligingPosts x = Edge.told(TURNED);
        for (int i = 0; i < 30; i++) {
            x.holds(0, 0);
        }
        Edge.due(x.image(2), 0);
        Edge.due(x.anew(), 30);
        Due.tape(x, "hours");
        Edge.due(x.row(0, 0, 3), 0);
        Edge.due(x.heath(), -4);
        Edge.due(x.back(2), 0);
        Edge.due(x.count(8), 30);
        Edge.due(x.twists(0, 0), -5);
        Edge.due(x.undo(), 29);
        Edge.due(x.back(2), 0);
        Edge.due(x.count(8), 30);
        // The HEATH and acts are gone back to; TAPE, SLOTS and the FAULT are not of the IMAGE.
        Edge.due(x.count(10), 5);
        Edge.due(x.count(11), 1);
        Edge.due(x.fault(0), 1);
        Edge.promise(73, "-2: no such k");
        Edge.dueOfEach(-2, x.back(3), x.back(-1), x.back(Edge.MAX), x.back(Edge.MIN), new ObligingPosts().back(3));
        Edge.promise(73, "-6: it has nothing");
        Edge.dueOfEach(-6, x.back(0), x.back(1));
        Edge.due(x.count(8), 30);
        Edge.dueOfEach(-6, new ObligingPosts().back(0), new ObligingPosts().back(2));
    }
}
