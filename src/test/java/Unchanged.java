/**
 * Whether a call leaves all as it was: of two objects that went the same way one is called, and both are looked at,
 * now and behind what may come next.
 */
final class Unchanged {
    interface Way {
        void go(CountedMissing x);
    }

    interface Call {
        long on(CountedMissing x);
    }

    private static final String[] LATER_NAMES = {"now", "behind undo", "behind all undone", "behind again 0",
        "behind again 1", "behind census", "behind a YEAR", "behind ways", "behind more TEXT"};
    private static final Way[] LATER = {
        x -> { },
        CountedMissing::undo,
        Unchanged::undoAll,
        x -> x.again(0),
        x -> x.again(1),
        CountedMissing::census,
        CountedMissing::year,
        Unchanged::goOn,
        x -> x.write(3, Due.bytes("A21"))};

    private final Due due;
    private final Way way;

    Unchanged(Due due, Way way) {
        this.due = due;
        this.way = way;
    }

    /** This call answers that, and nothing is changed by it. */
    void by(String name, Call call, long want) {
        for (int k = 0; k < LATER.length; k++) {
            CountedMissing called = new CountedMissing();
            CountedMissing other = new CountedMissing();
            way.go(called);
            way.go(other);
            due.due(name, call.on(called), want);
            LATER[k].go(called);
            LATER[k].go(other);
            same(name + ", " + LATER_NAMES[k] + ", ", called, other);
        }
    }

    private static void undoAll(CountedMissing x) {
        for (int k = 0; k < 17; k++) {
            x.undo();
        }
    }

    private static void goOn(CountedMissing x) {
        x.go(0, 1);
        x.go(0, 2);
        x.die(0);
        x.keep(1);
        x.undo();
        x.again(1);
    }

    private void same(String when, CountedMissing called, CountedMissing other) {
        for (int what = 0; what <= 8; what++) {
            due.due(when + "about " + what, called.about(what), other.about(what));
        }
        for (int person = 0; person < 8; person++) {
            for (int what = 0; what <= 7; what++) {
                due.due(when + "person " + person + " " + what,
                        called.person(person, what), other.person(person, what));
            }
            due.due(when + "forgotten " + person, called.forgotten(person), other.forgotten(person));
        }
        for (int town = 0; town < 4; town++) {
            for (int what = 0; what <= 5; what++) {
                due.due(when + "town " + town + " " + what, called.town(town, what), other.town(town, what));
            }
        }
        due.due(when + "fault", called.fault(), other.fault());
        due.due(when + "undo", called.undo(), other.undo());
        due.due(when + "wipe", called.wipe(), other.wipe());
    }
}
