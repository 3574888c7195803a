import java.util.Random;

/** Texts of heaths by chance (from a seed): most of them without a FAULT. */
final class Texts {
    private final Random random;
    private int inns;
    private int[] roads;
    private int posts;

    Texts(Random random) {
        this.random = random;
    }

    String heath() {
        StringBuilder text = new StringBuilder();
        inns = 0;
        posts = 0;
        roads = new int[9];
        int hours = random.nextInt(4) == 0 ? 16 : 1 + random.nextInt(16);
        line(text, "heath hours " + hours + " law " + random.nextInt(4) + " odds " + random.nextInt(11));
        boolean big = random.nextInt(3) > 0;
        int innsWanted = random.nextInt(5);
        for (int i = 0; i < innsWanted; i++) {
            line(text, "inn room " + (random.nextBoolean() ? random.nextInt(3) : random.nextInt(10)));
            inns++;
        }
        int postsWanted = big ? 4 + random.nextInt(4) : random.nextInt(5);
        for (int i = 0; i < postsWanted; i++) {
            line(text, "post");
            posts++;
        }
        int roadsWanted = big ? 8 + random.nextInt(9) : random.nextInt(12);
        for (int i = 0; i < roadsWanted && posts > 0; i++) {
            road(text);
        }
        for (int i = random.nextInt(9); i > 0 && posts > 0; i--) {
            int post = random.nextInt(posts);
            if (roads[post] > 0) {
                line(text, "arm " + post + " " + random.nextInt(roads[post]));
            }
        }
        int walkers = big ? 3 + random.nextInt(6) : random.nextInt(9);
        for (int i = 0; i < walkers && posts > 0; i++) {
            int at = random.nextInt(3) > 0 ? random.nextInt(3) : random.nextInt(16);
            line(text, "walker " + random.nextInt(posts) + " at " + at);
        }
        return text.toString();
    }

    private void road(StringBuilder text) {
        int post = random.nextInt(posts);
        if (roads[post] == 4) {
            return;
        }
        if (inns > 0 && random.nextInt(3) == 0) {
            line(text, "road " + post + " in " + random.nextInt(inns));
        } else if (posts > 1) {
            line(text, "road " + post + " to " + (post + 1 + random.nextInt(posts - 1)) % posts);
        } else {
            return;
        }
        roads[post]++;
    }

    private void line(StringBuilder text, String line) {
        text.append(line).append(random.nextInt(10) == 0 ? " ;\n" : ";");
    }

    /** The same with a few bytes, tokens or LINES otherwise. */
    String spoilt(String text) {
        StringBuilder spoilt = new StringBuilder(text);
        for (int i = random.nextInt(3); i >= 0 && spoilt.length() > 0; i--) {
            int place = random.nextInt(spoilt.length());
            switch (random.nextInt(7)) {
                case 0: spoilt.setCharAt(place, (char) random.nextInt(256)); break;
                case 1: spoilt.deleteCharAt(place); break;
                case 2: spoilt.insert(place, ' '); break;
                case 3: spoilt.insert(place, random.nextInt(20)); break;
                case 4: spoilt.setLength(place); break;
                case 5: insertLine(spoilt); break;
                default: doubleLine(spoilt, place); break;
            }
        }
        spoilt.setLength(Math.min(800, spoilt.length()));
        return spoilt.toString();
    }

    private void insertLine(StringBuilder text) {
        String[] lines = {"inn room 1;", "post;", "arm 0 0;", "walker 0 at 0;", "road 0 to 1;", "road 1 in 0;",
            "heath hours 3 law 1 odds 2;", "post post;", "road 0 at 1;", ";", "inn room 10;", "walker 0 at 16;",
            "road 0 to 0;", "arm 0 4;", "inn room 00009;", "post;post;post;post;post;post;post;"};
        int place = text.indexOf(";", random.nextInt(text.length()));
        if (place >= 0) {
            text.insert(place + 1, lines[random.nextInt(lines.length)]);
        }
    }

    private void doubleLine(StringBuilder text, int place) {
        int from = text.lastIndexOf(";", place) + 1;
        int to = text.indexOf(";", place) + 1;
        if (to > from) {
            text.insert(to, text.substring(from, to).repeat(1 + random.nextInt(6)));
        }
    }
}
