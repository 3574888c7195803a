/** Term I and promises 1 to 5: the TAPE, the text, its bounds and FAULTS. */
final class TextEdges {
    /** Each kind of LINE, TOKENS with one blank between them. */
    private static final String EACH_LINE = "heath hours 2 law 1 odds 3 ; inn room 4 ; post ; post ; road 0 to 1 ; "
        + "road 1 in 0 ; arm 0 0 ; walker 1 at 2 ;";
    private static final String FOUR_ROADS_OF_FOUR = "post;".repeat(5) + "inn room 1;" + "road 0 in 0;".repeat(4)
        + "road 1 in 0;".repeat(4) + "road 2 in 0;".repeat(4) + "road 3 in 0;".repeat(4);

    private TextEdges() {
    }

    static void run() {
        newObject();
        feed();
        end();
        heath();
        fault();
        grammar();
        headLine();
        innLines();
        roadLines();
        armLines();
        walkerLines();
        mostOfEach();
        tokens();
        firstFault();
        faultsOfEachKind();
    }

    private static void newObject() {
        Edge.promise(1, "No HEATH.");
        ObligingPosts x = new ObligingPosts();
        Edge.dueOfEach(0, x.count(0), x.count(1), x.count(2), x.count(3), x.count(4), x.count(5), x.count(6),
            x.count(7), x.count(8), x.count(9), x.count(10), x.count(11));
        Edge.dueOfEach(-2, x.done(), x.armless(), x.busy(), x.idle(), x.settings(), x.same(), x.trees(), x.best(),
            x.crowds(), x.law(), x.undo(), x.anew());
        Edge.dueOfEach(-2, x.inside(0), x.outside(0), x.crowd(0), x.setting(0), x.tree(0), x.ring(0), x.by(0),
            x.worth(0), x.mean(0, 0), x.drawn(0, 0), x.sent(0));
        Edge.dueOfEach(-6, x.back(0), x.back(1), x.back(2), x.write(0, 0, 0), x.write(3, 0, 0));
    }

    private static void feed() {
        ObligingPosts x = new ObligingPosts();
        Edge.promise(2, "Twenty bytes come behind the TAPE, four of each number, the highest first");
        // "heath hours 1 law 0 ", "odds 0;post", then bytes 128, 255, 0, which are no TOKENS.
        x.feed(0x68656174, 0x6820686F, 0x75727320, 0x31206C61, 0x77203020);
        x.feed(0x6F646473, 0x20303B70, 0x6F737480, 0xFF000000, 0x80FF00FF);
        Edge.due(x.heath(), -4);
        Edge.due(x.fault(1), 31);
        Edge.due(x.end(31), 31);
        Edge.due(x.feed(0x3B706F73, 0x74FFFFFF, Edge.MIN, Edge.MAX, -1), 51);
        Edge.due(x.heath(), -4);
        Edge.due(x.fault(1), 36);
        Edge.due(x.end(36), 36);
        Edge.due(x.feed(0x3B202020, 0x0A0A0A0A, 0x20202020, 0x20202020, 0x20202020), 56);
        Edge.due(x.heath(), 3);
        Edge.due(x.count(4), 2);

        Edge.promise(2, "how many it has");
        ObligingPosts y = new ObligingPosts();
        for (int i = 1; i <= 39; i++) {
            Edge.due(y.feed(0, 0, 0, 0, 0), 20 * i);
        }
        Edge.due(y.count(10), 780);
        Edge.promise(2, "NONE, and none come, if it would have more than 800");
        Edge.due(y.feed(0, 0, 0, 0, 0), 800);
        Edge.due(y.feed(0, 0, 0, 0, 0), -1);
        Edge.due(y.count(10), 800);
        String long781 = Edge.HEAD + " ".repeat(781 - Edge.HEAD.length());
        Due.tape(y, long781);
        Edge.due(y.count(10), 781);
        Edge.due(y.feed(-1, -1, -1, -1, -1), -1);
        Edge.due(y.count(10), 781);
        Edge.due(y.heath(), 1);
    }

    private static void end() {
        ObligingPosts x = new ObligingPosts();
        Edge.promise(3, "The TAPE has its first n bytes alone");
        Due.tape(x, Edge.HEAD + "post;post;post");
        Edge.due(x.end(37), 37);
        Edge.due(x.heath(), 3);
        Edge.promise(3, "alone: n");
        Due.tape(x, Edge.HEAD);
        Edge.due(x.end(27), 27);
        Edge.due(x.end(1), 1);
        Edge.due(x.end(0), 0);
        Edge.due(x.end(0), 0);
        Edge.due(x.heath(), 0);
        Edge.promise(3, "NONE, and nothing happens, if it has not so many, or n is below 0");
        Edge.due(x.end(1), -1);
        Due.tape(x, Edge.HEAD);
        Edge.dueOfEach(-1, x.end(28), x.end(-1), x.end(800), x.end(801), x.end(Edge.MAX), x.end(Edge.MIN));
        Edge.due(x.count(10), 27);
        // Bytes cut off are gone, those of a TOKEN, too.
        ObligingPosts cut = new ObligingPosts();
        Due.tape(cut, Edge.HEAD + "inn room 99;");
        Edge.due(cut.end(37), 37);
        Edge.due(cut.heath(), -4);
        Edge.due(cut.fault(0), 1);
        Edge.due(cut.fault(1), 37);
        Due.tape(cut, Edge.HEAD + "posts;");
        Edge.due(cut.end(31), 31);
        Edge.due(cut.heath(), -4);
        Edge.due(cut.fault(1), 31);
        Due.tape(cut, Edge.HEAD + "post;;");
        Edge.due(cut.end(32), 32);
        Edge.due(cut.heath(), 2);
        // They do not come again.
        Edge.due(x.end(26), 26);
        Edge.due(x.end(27), -1);
        Edge.due(x.heath(), -4);
        Edge.due(x.fault(1), 26);
    }

    private static void heath() {
        Edge.promise(4, "The TAPE (empty then) is the HEATH (in place of another), nothing done");
        ObligingPosts x = Edge.told(Edge.FULL);
        Edge.due(x.count(10), 0);
        Edge.due(x.twists(0, 0), 0);
        Edge.due(x.row(2, 0, 3), 0);
        Edge.due(x.image(1), 0);
        Due.tape(x, "heath hours 1 law 2 odds 0;inn room 3;post;");
        Edge.due(x.heath(), 3);
        int[] counts = {1, 2, 0, 1, 1, 0, 0, 0, 0, 3, 0, 1};
        for (int what = 0; what < counts.length; what++) {
            Edge.due(x.count(what), counts[what]);
        }
        Edge.due(x.rate(0, 5), 3);
        Due.tape(x, "heath hours 1 law 2 odds 0;inn room 3;post;");
        Edge.due(x.heath(), 3);
        Edge.due(x.room(0), 3);
        Edge.due(x.back(1), 0);
        Edge.due(x.count(9), 44);
        Edge.due(x.count(8), 1);
        // Arms of another HEATH are forgotten, those of a text with a FAULT, too.
        String twoRoads = "heath hours 1 law 0 odds 0;inn room 3;post;road 0 in 0;road 0 in 0;";
        Due.tape(x, twoRoads + "arm 0 1;arm 0 2;");
        Edge.due(x.heath(), -4);
        Edge.due(x.told(0), 1);
        Due.tape(x, twoRoads + "arm 0 1;");
        Edge.due(x.heath(), 6);
        Edge.due(x.told(0), 1);
        Due.tape(x, twoRoads);
        Edge.due(x.heath(), 5);
        Edge.due(x.told(0), 0);

        Edge.promise(4, "how many LINES (0: there is none then)");
        Edge.fine(Edge.HEAD, 1);
        Edge.fine(Edge.FULL, 44);
        Edge.fine(Edge.FULL + " ".repeat(800 - Edge.FULL.length()), 44);
        Edge.fine("\n".repeat(800 - Edge.FULL.length()) + Edge.FULL, 44);
        Edge.fine("", 0);
        Edge.fine(" ", 0);
        Edge.fine(" \n".repeat(400), 0);
        Due.tape(x, "heath hours 9 law 3 odds 7;inn room 1;post;road 0 in 0;arm 0 0;walker 0 at 0;");
        Edge.due(x.heath(), 6);
        Edge.due(x.twists(0, 0), 0);
        Edge.due(x.heath(), 0);
        Edge.due(x.armless(), -2);
        for (int what = 0; what <= 10; what++) {
            Edge.due(x.count(what), 0);
        }
        Edge.due(x.heath(), 0);

        Edge.promise(4, "-4: a FAULT (all stays)");
        ObligingPosts y = Edge.told(Edge.FULL);
        Edge.due(y.holds(7, 15), 0);
        Edge.due(y.row(0, 0, 0), 0);
        Edge.due(y.image(0), 0);
        Due.tape(y, "heath hours 2 law 1 odds 0;post;inn room 10;");
        Edge.due(y.heath(), -4);
        int[] kept = {16, 0, 10, 4, 7, 16, 8, 8, 1, 44, 44, 1};
        for (int what = 0; what < kept.length; what++) {
            Edge.due(y.count(what), kept[what]);
        }
        Edge.due(y.room(1), 9);
        Edge.due(y.at(7, 16), 0);
        Edge.due(y.heath(), -4);
        Edge.due(y.undo(), 0);
        Edge.due(y.at(7, 16), 3);
        Edge.due(y.back(0), 0);
        Edge.due(y.at(7, 16), 0);
        // The TAPE stays, too: mended, it is read.
        Edge.due(y.end(32), 32);
        Edge.due(y.heath(), 2);
        Edge.due(y.count(0), 2);
    }

    private static void fault() {
        ObligingPosts x = new ObligingPosts();
        Edge.promise(5, "NONE for another what, and ahead of any (what 1)");
        Edge.dueOfEach(-1, x.fault(1), x.fault(2), x.fault(-1), x.fault(Edge.MIN), x.fault(Edge.MAX));
        Edge.promise(5, "its FAULT, 0 without");
        Edge.due(x.fault(0), 0);
        Due.tape(x, "road");
        Edge.due(x.fault(0), 0);
        Edge.due(x.heath(), -4);
        Edge.due(x.fault(0), 1);
        Edge.promise(5, "its place (NONE without)");
        Edge.due(x.fault(1), 0);
        Edge.dueOfEach(-1, x.fault(2), x.fault(-1));
        Edge.promise(5, "Of the latest heath()");
        Due.tape(x, "heath hours 0");
        Edge.due(x.fault(0), 1);
        Edge.due(x.heath(), -4);
        Edge.due(x.fault(0), 2);
        Edge.due(x.fault(1), 12);
        Due.tape(x, Edge.HEAD);
        Edge.due(x.fault(0), 2);
        Edge.due(x.heath(), 1);
        Edge.due(x.fault(0), 0);
        Edge.due(x.fault(1), -1);
        // The last byte, and the end of a TAPE that is full.
        Edge.faulty(Edge.HEAD + " ".repeat(772) + ";", 1, 799);
        Edge.faulty(Edge.HEAD + " ".repeat(769) + "post", 1, 800);
    }

    private static int place(String[] tokens, int token) {
        int place = 0;
        for (int i = 0; i < token; i++) {
            place += tokens[i].length() + 1;
        }
        return place;
    }

    private static String with(String[] tokens, int token, String other) {
        String[] changed = tokens.clone();
        changed[token] = other;
        return String.join(" ", changed);
    }

    private static void grammar() {
        Edge.term("I", "HEATH: {LINE ;}.");
        String[] tokens = EACH_LINE.split(" ");
        Edge.fine(EACH_LINE, 8);
        int lines = 0;
        for (int i = 0; i < tokens.length; i++) {
            int place = place(tokens, i);
            String ahead = EACH_LINE.substring(0, place);
            if (i == 0 || tokens[i - 1].equals(";")) {
                Edge.fine(ahead, lines);
            } else {
                Edge.faulty(ahead, 1, place);
                Edge.faulty(ahead.trim(), 1, place - 1);
            }
            lines += tokens[i].equals(";") ? 1 : 0;
        }
        Edge.term("I", "LINE: heath hours N law N odds N | inn room N | post | road P to P | road P in I | arm P N | "
            + "walker P at N.");
        for (int i = 0; i < tokens.length; i++) {
            int place = place(tokens, i);
            for (String other : new String[] {"zzz", "!", "-1", tokens[i] + "!", "z" + tokens[i]}) {
                boolean behind = other.equals(tokens[i] + "!");
                Edge.faulty(with(tokens, i, other), 1, behind ? place + tokens[i].length() : place);
            }
            if (!tokens[i].equals(";")) {
                Edge.faulty(with(tokens, i, ";"), 1, place);
            }
            for (int letter = 0; letter < tokens[i].length() && Character.isLetter(tokens[i].charAt(0)); letter++) {
                StringBuilder other = new StringBuilder(tokens[i]);
                other.setCharAt(letter, 'x');
                Edge.faulty(with(tokens, i, other.toString()), 1, place);
                other.deleteCharAt(letter);
                Edge.faulty(with(tokens, i, other.toString()), 1, other.length() == 0 ? place + 1 : place);
            }
            if (!Character.isDigit(tokens[i].charAt(0))) {
                Edge.faulty(with(tokens, i, "0"), 1, place);
            } else {
                Edge.faulty(with(tokens, i, "post"), 1, place);
                Edge.faulty(with(tokens, i, tokens[i] + " " + tokens[i] + " 0"), 1,
                    tokens[i - 1].equals("arm") ? place + 4 : place + 2);
            }
        }
    }

    private static String head(int hours, int law, int odds) {
        return "heath hours " + hours + " law " + law + " odds " + odds + ";";
    }

    private static void headLine() {
        Edge.term("I", "heath is the first LINE and no other");
        Edge.faultyBehindHead(Edge.HEAD, 1, 0);
        Edge.faultyBehindHead("post;heath", 1, 5);
        for (String first : new String[] {"inn room 1;", "post;", "road 0 to 1;", "arm 0 0;", "walker 0 at 0;", ";"}) {
            Edge.faulty(first + Edge.HEAD, 1, 0);
            Edge.faulty(" \n" + first + Edge.HEAD, 1, 2);
        }
        Edge.term("I", "hours 1 .. 16, law 0 .. 3, odds 0 .. 10");
        Edge.fine(head(1, 0, 0), 1);
        Edge.fine(head(16, 3, 10), 1);
        Edge.due(Edge.told(head(1, 0, 0)).count(0), 1);
        Edge.due(Edge.told(head(16, 3, 10)).count(0), 16);
        Edge.due(Edge.told(head(16, 3, 10)).count(1), 3);
        Edge.due(Edge.told(head(16, 3, 10)).count(2), 10);
        Edge.due(Edge.told(head(16, 0, 0)).count(1), 0);
        Edge.due(Edge.told(head(16, 0, 0)).count(2), 0);
        Edge.faulty(head(0, 0, 0), 2, 12);
        Edge.faulty(head(17, 0, 0), 2, 12);
        Edge.faulty(head(1, 4, 0), 2, 18);
        Edge.faulty(head(1, 0, 11), 2, 25);
    }

    private static void innLines() {
        Edge.term("I", "inn: room 0 .. 9");
        Edge.due(Edge.told(Edge.HEAD + "inn room 0;").room(0), 0);
        Edge.due(Edge.told(Edge.HEAD + "inn room 9;").room(0), 9);
        Edge.faultyBehindHead("inn room 10;", 2, 9);
        Edge.faultyBehindHead("inn room 99999999999999999999;", 2, 9);
        // By 32 and by 64 bits these would wrap around to 1.
        Edge.faultyBehindHead("inn room 4294967297;", 2, 9);
        Edge.faultyBehindHead("inn room 18446744073709551617;", 2, 9);
    }

    private static void roadLines() {
        Edge.term("I", "road: from a POST told ahead to another one (told ahead), or in an INN told ahead");
        Edge.fine(Edge.HEAD + "post;post;road 0 to 1;road 1 to 0;", 5);
        Edge.faultyBehindHead("road 0 to 1;", 2, 5);
        Edge.faultyBehindHead("post;post;road 2 to 0;post;", 2, 15);
        Edge.faultyBehindHead("post;post;road 0 to 2;post;", 2, 20);
        Edge.faultyBehindHead("post;post;road 0 to 0;", 2, 20);
        Edge.faultyBehindHead("post;post;road 1 to 1;", 2, 20);
        Edge.fine(Edge.HEAD + "post;inn room 1;inn room 1;road 0 in 0;road 0 in 1;", 6);
        Edge.faultyBehindHead("post;road 0 in 0;inn room 1;", 2, 15);
        Edge.faultyBehindHead("post;inn room 1;road 0 in 1;inn room 1;", 2, 26);
        Edge.term("I", "the same may be told twice");
        ObligingPosts x = Edge.told(Edge.HEAD + "inn room 1;post;post;road 0 to 1;road 0 to 1;road 0 in 0;road 0 in 0;");
        Edge.due(x.roads(0), 4);
        Edge.due(x.goes(0, 1), 1);
        Edge.due(x.goes(0, 3), 10);
    }

    private static void armLines() {
        String three = Edge.HEAD + "post;post;post;road 0 to 1;road 0 to 2;road 1 to 0;";
        Edge.term("I", "arm: a POST told ahead, N a road of it told ahead");
        Edge.due(Edge.told(three + "arm 0 1;").told(0), 1);
        Edge.due(Edge.told(three + "arm 1 0;").told(1), 0);
        Edge.faulty(three + "arm 0 2;", 2, three.length() + 6);
        Edge.faulty(three + "arm 1 1;", 2, three.length() + 6);
        Edge.faulty(three + "arm 2 0;", 2, three.length() + 6);
        Edge.faulty(three + "arm 3 0;", 2, three.length() + 4);
        Edge.faulty(three + "arm 0 2;road 0 to 1;", 2, three.length() + 6);
        Edge.faultyBehindHead("arm 0 0;", 2, 4);
        Edge.term("I", "(of an arm told again the last is it; not told: 0)");
        Edge.due(Edge.told(three + "arm 0 1;arm 1 0;arm 0 0;").told(0), 0);
        Edge.due(Edge.told(three + "arm 0 0;arm 0 1;").told(0), 1);
        Edge.due(Edge.told(three).told(0), 0);
        Edge.due(Edge.told(three + "arm 0 1;road 0 to 1;").told(0), 1);
    }

    private static void walkerLines() {
        Edge.term("I", "walker: a POST told ahead, at 0 .. 15");
        Edge.due(Edge.told(Edge.HEAD + "post;walker 0 at 0;").walker(0, 1), 0);
        Edge.due(Edge.told(Edge.HEAD + "post;walker 0 at 15;").walker(0, 1), 15);
        Edge.faultyBehindHead("post;walker 0 at 16;", 2, 17);
        Edge.faultyBehindHead("post;walker 1 at 0;post;", 2, 12);
        Edge.faultyBehindHead("walker 0 at 0;post;", 2, 7);
    }

    private static void mostOfEach() {
        Edge.term("I", "INNS 0 .. 3, POSTS 0 .. 6, ROADS 0 .. 15, WALKERS 0 .. 7 are numbered as they stand");
        ObligingPosts x = Edge.told(Edge.FULL);
        int[] counts = {16, 0, 10, 4, 7, 16, 8, 8, 0, 44};
        for (int what = 0; what < counts.length; what++) {
            Edge.due(x.count(what), counts[what]);
        }
        int[] rooms = {0, 9, 1, 2};
        for (int inn = 0; inn < 4; inn++) {
            Edge.due(x.room(inn), rooms[inn]);
        }
        for (int walker = 0; walker < 7; walker++) {
            Edge.due(x.walker(walker, 0), walker);
            Edge.due(x.walker(walker, 1), walker);
        }
        Edge.due(x.walker(7, 0), 0);
        Edge.due(x.walker(7, 1), 15);
        Edge.term("I", "roads of a POST by themselves from 0 on, 4 at most");
        int[][] goals = {{1, 2, 3, 10}, {2, 11, 12, 13}, {3, 4}, {4, 5}, {5}, {6, 13}, {11}};
        for (int post = 0; post < 7; post++) {
            Edge.due(x.roads(post), goals[post].length);
            for (int road = 0; road < goals[post].length; road++) {
                Edge.due(x.goes(post, road), goals[post][road]);
            }
        }
        // Told in turns, each POST numbers its own.
        ObligingPosts mixed = Edge.told(Edge.HEAD + "post;post;post;road 1 to 0;road 0 to 1;road 1 to 2;road 0 to 2;");
        Edge.due(mixed.goes(0, 0), 1);
        Edge.due(mixed.goes(0, 1), 2);
        Edge.due(mixed.goes(1, 0), 0);
        Edge.due(mixed.goes(1, 1), 2);
        Edge.term("I", "arm LINES are 8 at most");
        String arms = Edge.HEAD + "post;post;road 0 to 1;";
        Edge.fine(arms + "arm 0 0;".repeat(8), 12);
        Edge.faulty(arms + "arm 0 0;".repeat(9), 3, arms.length() + 64);
        Edge.term("I", "HOURS 0 .. hours");
        Edge.due(x.inside(0), 0);
        Edge.due(x.inside(16), 127);
        Edge.dueOfEach(-2, x.inside(-1), x.inside(17));
        ObligingPosts one = Edge.told(head(1, 0, 0));
        Edge.dueOfEach(0, one.inside(0), one.inside(1));
        Edge.dueOfEach(-2, one.inside(-1), one.inside(2));
    }

    private static void tokens() {
        Edge.term("I", "TOKENS, blanks (32, 10) aside, the longest: words (a .. z), numbers (digits), the sign ;");
        Edge.fine("heath\nhours  2law1\n\nodds3;", 1);
        Edge.fine("heath hours2law1odds3;post;post;inn room4;road0to1;road1in0;arm0 0;walker1at2;", 8);
        Edge.fine("\n heath hours 0000000000000016 law 000 odds 010 ;\n\n post\n;\n", 2);
        Edge.fine(Edge.HEAD + "inn room " + "0".repeat(700) + "9;", 2);
        // Blanks part TOKENS, and none is needed between a word and a number.
        Edge.faultyBehindHead("po st;", 1, 0);
        Edge.faultyBehindHead("postpost;", 1, 0);
        Edge.faultyBehindHead("inn room 0 9;", 1, 11);
        Edge.faultyBehindHead("pos;", 1, 0);
        Edge.faultyBehindHead("inn room9 post;", 1, 10);
        for (int sign = 0; sign < 256; sign++) {
            eachByte((char) sign);
        }
    }

    private static void eachByte(char sign) {
        boolean blank = sign == 32 || sign == 10;
        boolean letter = sign >= 97 && sign <= 122;
        boolean digit = sign >= 48 && sign <= 57;
        if (blank) {
            Edge.fine(Edge.HEAD + "post" + sign + ";" + sign, 2);
            Edge.faultyBehindHead("inn" + sign + "room 9" + sign + "9;", 1, 11);
            return;
        }
        // Behind a word: letters make it longer; others are TOKENS of their own, or none. (; is one too many.)
        Edge.faultyBehindHead("post" + sign + ";", 1, letter ? 0 : sign == ';' ? 5 : 4);
        Edge.faultyBehindHead("post " + sign + ";", 1, sign == ';' ? 6 : 5);
        Edge.faultyBehindHead("inn room 9" + sign + ";", digit ? 2 : 1, digit ? 9 : sign == ';' ? 11 : 10);
        Edge.faulty(sign + Edge.HEAD, 1, 0);
    }

    private static void firstFault() {
        Edge.term("I", "FAULTS, the first by its place (a TOKEN's first byte");
        Edge.faulty("heath hours 17 law zzz odds 11", 2, 12);
        Edge.faulty("heath zzz 17 law 4 odds 11", 1, 6);
        Edge.faultyBehindHead("   inn room 10;!", 2, 12);
        Edge.faultyBehindHead("   inn room 9!;inn room 10;", 1, 13);
        Edge.faultyBehindHead("inn room 1;".repeat(4) + "inn zzz 99", 3, 44);
        Edge.faultyBehindHead("inn room 1;".repeat(3) + "inn zzz;inn;", 1, 37);
        Edge.term("I", "the end's)");
        Edge.faulty("heath", 1, 5);
        Edge.faulty("heath \n ", 1, 8);
        Edge.faultyBehindHead("post", 1, 4);
        Edge.faultyBehindHead("walker", 1, 6);
        Edge.term("I", "of one place the least");
        // A word one too many stands ahead of the numbers that are wrong behind it.
        Edge.faultyBehindHead(FOUR_ROADS_OF_FOUR + "road 0 in 0;", 3, 36 + 16 * 12);
        Edge.faultyBehindHead(FOUR_ROADS_OF_FOUR + "road 5 in 0;", 3, 36 + 16 * 12);
        Edge.faultyBehindHead("post;road 1 to 1;", 2, 10);
    }

    private static void faultsOfEachKind() {
        Edge.term("I", "1 a TOKEN that is none, or can't stand there (heath behind the first LINE, another word ahead "
            + "of it)");
        Edge.faultyBehindHead("post;heath hours 1 law 0 odds 0;", 1, 5);
        Edge.faulty("post;", 1, 0);
        Edge.faulty("hours 1;", 1, 0);
        Edge.faulty("1", 1, 0);
        Edge.faultyBehindHead("hours 1;", 1, 0);
        Edge.faultyBehindHead("law;", 1, 0);
        Edge.faultyBehindHead("Post;", 1, 0);
        Edge.faultyBehindHead("post,", 1, 4);
        Edge.term("I", "2 a number out of its bounds, not as said");
        Edge.faultyBehindHead("inn room 10;", 2, 9);
        Edge.faultyBehindHead("post;post;road 1 to 1;", 2, 20);
        Edge.term("I", "3 a 5th inn, 8th post, 17th road, 9th arm, 9th walker, at its word");
        Edge.fine(Edge.HEAD + "inn room 1;".repeat(4), 5);
        Edge.faultyBehindHead("inn room 1;".repeat(5), 3, 44);
        Edge.faultyBehindHead("inn room 1;".repeat(4) + "inn", 3, 44);
        Edge.fine(Edge.HEAD + "post;".repeat(7), 8);
        Edge.faultyBehindHead("post;".repeat(8), 3, 35);
        Edge.faultyBehindHead("post;".repeat(7) + "post", 3, 35);
        Edge.fine(Edge.HEAD + FOUR_ROADS_OF_FOUR, 23);
        Edge.faultyBehindHead(FOUR_ROADS_OF_FOUR + "road 4 in 0;", 3, 36 + 16 * 12);
        Edge.faultyBehindHead(FOUR_ROADS_OF_FOUR + "arm 3 3;".repeat(8) + "arm", 3, 36 + 16 * 12 + 64);
        Edge.fine(Edge.HEAD + "post;" + "walker 0 at 15;".repeat(8), 10);
        Edge.faultyBehindHead("post;" + "walker 0 at 15;".repeat(9), 3, 5 + 8 * 15);
        Edge.faultyBehindHead("post;" + "walker 0 at 15;".repeat(8) + "walker", 3, 5 + 8 * 15);
        Edge.term("I", "a 5th road of a POST, at the number of that POST");
        String four = "post;post;inn room 1;" + "road 1 to 0;road 1 in 0;road 1 to 0;road 1 in 0;";
        Edge.fine(Edge.HEAD + four + "road 0 to 1;", 9);
        Edge.faultyBehindHead(four + "road 1 to 0;", 3, 69 + 5);
        Edge.faultyBehindHead(four + "road 1 in 0;", 3, 69 + 5);
        Edge.faultyBehindHead(four + "road  1", 3, 69 + 6);
        Edge.faultyBehindHead(four + "road 01 zzz", 3, 69 + 5);
    }
}
