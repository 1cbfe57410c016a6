import java.util.ArrayList;
import java.util.List;

/**
 * What can be seen of an object, in parts of some 150 calls: those that change something come last
 * in their part, and each part has an object of its own.
 */
final class Look {
    static final int PARTS = 8;

    private final ParishUnion x;
    private final int now;
    private final List<Long> seen = new ArrayList<>();

    private Look(ParishUnion x) {
        this.x = x;
        now = x.count(5);
    }

    static List<Long> at(ParishUnion x, int part) {
        Look l = new Look(x);
        switch (part) {
            case 0: l.persons(0, 5); break;
            case 1: l.persons(6, 10); break;
            case 2: l.rights(); break;
            case 3: l.land(); break;
            case 4: l.acts(); break;
            case 5: l.past(); break;
            case 6: l.winter(); break;
            default: l.image(); break;
        }
        return l.seen;
    }

    private void see(int answer) {
        seen.add((long) answer);
    }

    private void persons(int from, int to) {
        for (int what = 0; what < 14; what++) {
            see(x.count(what));
        }
        for (int p = 0; p < 16; p++) {
            for (int what = from; what <= to; what++) {
                see(x.about(p, what));
            }
        }
        for (int p = 0; p < 16; p++) {
            see(x.told(p, 1));
        }
    }

    private void rights() {
        for (int r = 0; r < 40; r++) {
            for (int what = 2; what <= 5; what += 3) {
                see(x.right(r, what));
            }
        }
        for (int p = 0; p < 16; p++) {
            see(x.settle(p, 0, 300, -1));
            see(x.settle(p, 1, 300, -1));
            see(x.maybe(p, 300, -1, 0));
        }
        see(x.unlike(-1));
        see(x.unlike(3));
        for (int o = 0; o < 20; o++) {
            see(x.carry(o));
        }
    }

    private void land() {
        for (int a = 0; a < 6; a++) {
            for (int b = a + 1; b < 6; b++) {
                see(x.far(a, b));
            }
            see(x.heard(a, now));
            see(x.heard(a, 300));
        }
        for (int a = 0; a < 6; a++) {
            see(x.parish(a, 1));
        }
        for (int k = 0; k < 5; k++) {
            see(x.house(k, 1));
            see(x.master(k, 9));
        }
        see(x.price(1));
        for (int week = 0; week < 20; week++) {
            see(x.frost(Math.min(300, now + week), 1));
        }
        see(x.frost(300, 1));
    }

    private void acts() {
        int[] weeks = {0, now, 300};
        for (int week : weeks) {
            for (int what = 0; what < 20; what++) {
                see(x.force(week, what));
            }
        }
        for (int p = 0; p < 16; p++) {
            see(x.offer(p, 0));
            see(x.offer(p, 1));
        }
        see(x.count(6));
        see(x.text(300));
        see(x.force(300, 5));
        see(x.count(6));
    }

    private void past() {
        for (int week = Math.max(0, now - 5); week < now; week++) {
            for (int what = 0; what < 7; what++) {
                see(x.gone(week, what));
            }
            see(x.check(week));
            see(x.share(2, week, -1));
            for (int p = 0; p < 16; p++) {
                see(x.was(p, week, 0));
            }
        }
        see(x.sink(0, now - 1, -1));
        see(x.owed(2, 0, now - 1, -1));
    }

    private void winter() {
        see(x.plan(0));
        see(x.plan(1));
        for (int name = 0; name < 8; name++) {
            see(x.one(1 << name));
        }
        see(x.greatest());
        see(x.count(10));
        for (int row = 0; row < 3; row++) {
            x.tried(row, 0);
            Due.feed(x, "give 9 f>4;give 1 f<5");
            see(x.tried(row, 2));
        }
        // What was chosen, by what it does: the row's WEEKS are seen in the plan.
        see(x.choice(0, 1, 1));
        see(x.plan(1));
    }

    private void image() {
        see(x.undo());
        for (int what = 0; what < 14; what++) {
            see(x.count(what));
        }
        for (int p = 0; p < 16; p++) {
            see(x.about(p, 5));
            see(x.about(p, 6));
        }
    }
}
