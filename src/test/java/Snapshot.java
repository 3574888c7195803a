/** What an object answers, all that it holds being asked for: by two of them one sees whether a call changed anything. */
final class Snapshot {
    private Snapshot() {
    }

    /** Some 160 calls: the HEATH, its night, acts, the FAULT, rows; the TAPE's length alone, IMAGES not. */
    static String of(ObligingPosts x) {
        StringBuilder all = new StringBuilder();
        for (int what = 0; what < 12; what++) {
            put(all, x.count(what));
        }
        put(all, x.fault(0));
        put(all, x.fault(1));
        for (int inn = 0; inn < 4; inn++) {
            put(all, x.room(inn));
            put(all, x.refuses(inn));
        }
        for (int post = 0; post < 7; post++) {
            put(all, x.told(post));
            put(all, x.arm(post, x.count(0)));
            for (int road = 0; road < 4; road++) {
                put(all, x.goes(post, road));
            }
        }
        for (int walker = 0; walker < 8; walker++) {
            put(all, x.walker(walker, 0));
            put(all, x.walker(walker, 1));
            put(all, x.trail(walker));
            put(all, x.home(walker));
            put(all, x.at(walker, x.count(0)));
        }
        for (int hour = 0; hour < 16; hour++) {
            put(all, x.sent(hour));
            put(all, x.setting(hour));
        }
        for (int slot = 0; slot < 4; slot++) {
            put(all, x.may(slot, 0));
            put(all, x.laws(slot));
            put(all, x.ask(slot, 0));
        }
        return all.toString();
    }

    private static void put(StringBuilder all, long answer) {
        all.append(answer).append(' ');
    }
}
