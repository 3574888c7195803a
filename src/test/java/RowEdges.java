/** Promises 74 to 76: SLOTS and their rows. What a row tells is seen by may(). */
final class RowEdges {
    /** By roads 0, 1, 2 of POST 0 WALKER 0 is at 1, 2, 10 in HOUR 1; WALKER 1 has not come in HOUR 0. */
    private static final String SEEN = "heath hours 2 law 0 odds 0;inn room 1;post;post;post;"
        + "road 0 to 1;road 0 to 2;road 0 in 0;walker 0 at 0;walker 0 at 1;";

    private RowEdges() {
    }

    static void run() {
        slots();
        row();
        rowRefused();
        write();
        paste();
        pasteToItself();
        pasteRefused();
    }

    private static ObligingPosts withRow(int slot, int width, long... numbers) {
        ObligingPosts x = Edge.told(SEEN);
        Edge.due(x.row(slot, width, numbers.length), 0);
        for (int i = 0; i < numbers.length; i++) {
            Edge.due(x.write(slot, i, numbers[i]), 0);
        }
        return x;
    }

    private static int may(int width, long... numbers) {
        return withRow(0, width, numbers).may(0, 0);
    }

    private static void slots() {
        Edge.term("I", "SLOTS 0 .. 3 have rows of numbers of 1, 2, 4 or 8 bytes (WIDTH 0 .. 3), at most 60, or nothing");
        for (int slot = 0; slot < 4; slot++) {
            for (int width = 0; width < 4; width++) {
                Edge.due(withRow(slot, width, 0, 1, 10).may(slot, 0), 4);
            }
        }
        for (int width = 0; width < 4; width++) {
            int bits = 8 << width;
            long whole = bits == 64 ? 0 : 1L << bits;
            long half = 1L << bits - 1;
            Edge.due(may(width, 0, 1, whole + 2), 2);
            Edge.due(may(width, 0, 1, half + 2), -2);
            Edge.due(may(width, 0, 1, half - 1), -2);
            Edge.due(may(width, 0, 1, half), -2);
            Edge.due(may(width, 1, 0, whole - 1), 7);
            Edge.due(may(width, 1, 0, -1), 7);
            Edge.due(may(width, 1, 0, -2), -2);
            Edge.due(may(width, whole, whole + 1, 2 - whole), 2);
        }
        Edge.due(may(1, 0, 1, 256 + 2), -2);
        Edge.due(may(2, 0, 1, 65536 + 2), -2);
        Edge.due(may(3, 0, 1, 4294967296L + 2), -2);
        Edge.due(may(3, 0, 1, Long.MAX_VALUE), -2);
        Edge.due(may(3, 0, 1, Long.MIN_VALUE), -2);
        Edge.due(may(0, 0, Long.MIN_VALUE + 1, Long.MAX_VALUE), 0);
    }

    private static void row() {
        Edge.promise(74, "A SLOT (0 .. 3) has a row of n numbers of a WIDTH, all 0 (in place of another one): 0");
        ObligingPosts x = withRow(2, 0, 1, 1, 2);
        Edge.due(x.may(2, 0), 0);
        Edge.due(x.row(2, 0, 3), 0);
        // 0 0 0: WALKER 0 is at POST 0 in HOUR 0.
        Edge.due(x.may(2, 0), 7);
        Edge.due(x.count(11), 1);
        Edge.due(x.row(2, 3, 60), 0);
        Edge.due(x.may(2, 0), 7);
        Edge.due(x.write(2, 59, 3), 0);
        Edge.due(x.may(2, 0), -2);
        Edge.due(x.write(2, 60, 0), -7);
        Edge.due(x.row(2, 0, 60), 0);
        Edge.due(x.may(2, 0), 7);
        // A longer row in place of a shorter one has no number of an earlier one.
        Edge.due(x.write(2, 59, 3), 0);
        Edge.due(x.row(2, 0, 3), 0);
        Edge.due(x.row(2, 0, 60), 0);
        Edge.due(x.may(2, 0), 7);
        // A row of none is a row.
        Edge.due(x.row(3, 0, 0), 0);
        Edge.due(x.count(11), 2);
        Edge.due(x.may(3, 0), 7);
        Edge.due(x.write(3, 0, 0), -7);
        Edge.due(x.may(1, 0), -6);
    }

    private static void rowRefused() {
        Edge.promise(74, "-2: there is no such SLOT or WIDTH (0 .. 3), or n is above 60");
        ObligingPosts x = withRow(1, 0, 0, 1, 2);
        Edge.dueOfEach(-2, x.row(4, 0, 1), x.row(-1, 0, 1), x.row(1, 4, 1), x.row(1, -1, 1), x.row(1, 0, 61),
            x.row(1, 0, Edge.MAX), x.row(Edge.MAX, 0, 1), x.row(1, Edge.MIN, 1), x.row(0, 0, 61), x.row(0, 4, 0));
        Edge.due(x.may(1, 0), 2);
        Edge.due(x.may(0, 0), -6);
        Edge.due(x.count(11), 1);
        Edge.promise(74, "-3, and the SLOT stays: n is below 0");
        Edge.dueOfEach(-3, x.row(1, 0, -1), x.row(1, 3, -1), x.row(1, 0, Edge.MIN), x.row(0, 0, -1));
        Edge.due(x.may(1, 0), 2);
        Edge.due(x.may(0, 0), -6);
        Edge.due(x.count(11), 1);
    }

    private static void write() {
        Edge.promise(75, "Number i of the SLOT's row is v, cut to its WIDTH: 0");
        ObligingPosts x = Edge.told(SEEN);
        Edge.due(x.row(3, 0, 3), 0);
        Edge.due(x.write(3, 1, 1), 0);
        Edge.due(x.write(3, 2, 266), 0);
        Edge.due(x.may(3, 0), 4);
        Edge.due(x.write(3, 2, 2), 0);
        Edge.due(x.may(3, 0), 2);
        Edge.due(x.write(3, 0, -256), 0);
        Edge.due(x.may(3, 0), 2);
        Edge.promise(75, "-2: there is no such SLOT");
        Edge.dueOfEach(-2, x.write(4, 0, 0), x.write(-1, 0, 0), x.write(Edge.MAX, 0, 0), x.write(4, -1, 0));
        Edge.promise(75, "-6: it has nothing");
        Edge.dueOfEach(-6, x.write(0, 0, 0), x.write(2, 0, 0), x.write(2, -1, 0), x.write(2, 60, 0));
        Edge.promise(75, "-7: there is no such number");
        Edge.dueOfEach(-7, x.write(3, 3, 1), x.write(3, -1, 1), x.write(3, 59, 1), x.write(3, 60, 1),
            x.write(3, Edge.MAX, 1), x.write(3, Edge.MIN, 1));
        Edge.due(x.may(3, 0), 2);
        Edge.due(x.count(11), 1);
    }

    private static void paste() {
        Edge.promise(76, "So many numbers of a SLOT's row, from one on, are put to another one's (or its own), from one "
            + "on, as they were: 0");
        for (int width = 0; width < 4; width++) {
            ObligingPosts x = withRow(0, width, 0, 0, 0, 0, 1, 10);
            Edge.due(x.row(3, width, 3), 0);
            Edge.due(x.paste(0, 3, 3, 0, 3), 0);
            Edge.due(x.may(3, 0), 4);
            Edge.due(x.may(0, 0), 4);
            // One number alone, the last of each.
            Edge.due(x.write(0, 5, 2), 0);
            Edge.due(x.may(3, 0), 4);
            Edge.due(x.paste(0, 5, 3, 2, 1), 0);
            Edge.due(x.may(3, 0), 2);
            // None at all, the end of each being as far as one can go.
            Edge.due(x.paste(0, 0, 3, 0, 0), 0);
            Edge.due(x.paste(0, 6, 3, 3, 0), 0);
            Edge.due(x.may(3, 0), 2);
        }
        ObligingPosts sixty = Edge.told(SEEN);
        Edge.due(sixty.row(1, 3, 60), 0);
        Edge.due(sixty.row(2, 3, 60), 0);
        Edge.due(sixty.write(1, 58, 1), 0);
        Edge.due(sixty.write(1, 59, 2), 0);
        Edge.due(sixty.may(2, 0), 7);
        Edge.due(sixty.paste(1, 0, 2, 0, 60), 0);
        Edge.due(sixty.may(2, 0), 2);
        Edge.due(sixty.paste(1, 0, 2, 59, 1), 0);
        Edge.due(sixty.may(2, 0), 0);
    }

    private static void pasteToItself() {
        Edge.promise(76, "(or its own), from one on, as they were");
        // 0 1 2 0 0 0 from 0 to 3: twice 0 1 2.
        ObligingPosts x = withRow(1, 0, 0, 1, 2, 0, 2, 10);
        Edge.due(x.may(1, 0), 0);
        Edge.due(x.paste(1, 0, 1, 3, 3), 0);
        Edge.due(x.may(1, 0), 2);
        // One on: 0 0 1 2 0 1 tells of a WALKER 2; were each read behind the one that was put, it would be 0 0 0 0 0 0.
        Edge.due(x.paste(1, 0, 1, 1, 5), 0);
        Edge.due(x.may(1, 0), -2);
        // One back: 0 1 2 0 1 1.
        Edge.due(x.paste(1, 1, 1, 0, 5), 0);
        Edge.due(x.write(1, 5, 2), 0);
        Edge.due(x.may(1, 0), 2);
        Edge.due(x.paste(1, 0, 1, 0, 6), 0);
        Edge.due(x.may(1, 0), 2);
    }

    private static void pasteRefused() {
        ObligingPosts x = withRow(0, 1, 0, 1, 2, 0, 1, 10);
        Edge.promise(76, "-2: there is no such SLOT");
        Edge.due(x.row(1, 1, 3), 0);
        Edge.due(x.row(2, 2, 3), 0);
        Edge.dueOfEach(-2, x.paste(4, 0, 0, 0, 1), x.paste(-1, 0, 0, 0, 1), x.paste(0, 0, 4, 0, 1),
            x.paste(0, 0, -1, 0, 1), x.paste(4, 0, 4, 0, 0), x.paste(4, 0, 3, 0, 0), x.paste(3, 0, 4, 0, 0));
        Edge.promise(76, "-6: one has nothing");
        Edge.dueOfEach(-6, x.paste(3, 0, 0, 0, 1), x.paste(0, 0, 3, 0, 1), x.paste(3, 0, 3, 0, 0),
            x.paste(0, -1, 3, 0, 1));
        Edge.promise(76, "-8: they are not of one WIDTH");
        Edge.dueOfEach(-8, x.paste(0, 0, 2, 0, 1), x.paste(2, 0, 0, 0, 1), x.paste(2, 0, 1, 0, 0));
        Edge.promise(76, "-7, and nothing happens: some are beyond their rows, or a place or n is below 0");
        Edge.dueOfEach(-7, x.paste(0, 0, 1, 0, 4), x.paste(0, 4, 1, 0, 3), x.paste(0, 3, 1, 1, 3), x.paste(0, 6, 1, 0, 1),
            x.paste(0, 0, 1, 3, 1), x.paste(0, -1, 1, 0, 1), x.paste(0, 0, 1, -1, 1), x.paste(0, 0, 1, 0, -1));
        Edge.dueOfEach(-7, x.paste(0, Edge.MAX, 1, 0, 1), x.paste(0, 0, 1, Edge.MAX, 1), x.paste(0, 1, 1, 1, Edge.MAX),
            x.paste(0, Edge.MAX, 1, Edge.MAX, Edge.MAX), x.paste(0, Edge.MIN, 1, 0, Edge.MIN),
            x.paste(0, 1, 0, 2, 5), x.paste(0, 2, 0, 1, 5));
        // SLOT 1 still tells 0 0 0, and SLOT 0 contradicts itself.
        Edge.due(x.may(1, 0), 7);
        Edge.due(x.may(0, 0), 0);
        Edge.due(x.count(11), 3);
    }
}
