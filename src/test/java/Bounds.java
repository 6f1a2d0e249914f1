import java.util.ArrayList;
import java.util.List;

/** Calls at the ends of what is allowed, each on an object of its own that a maker has brought to the state asked for. */
final class Bounds {
    interface Maker {
        Koebehall made();
    }

    interface Asked {
        Object answer(Koebehall x);
    }

    // Both lists of answers and the calls of the maker are to stay below the 512 that an object is good for.
    private static final int MOST_ASKED = 240;

    private Bounds() {
    }

    static Koebehall fresh() {
        return new Koebehall();
    }

    static void due(String what, Object want, Maker maker, Asked asked) {
        String got = answerOf(maker.made(), asked);
        Check.holds(what + " answered " + got + ", due is " + want + ":", () -> String.valueOf(want).equals(got));
    }

    static void noIndex(String what, Maker maker, Asked asked) {
        refused(what, IndexOutOfBoundsException.class, maker, asked);
    }

    static void noArgument(String what, Maker maker, Asked asked) {
        refused(what, IllegalArgumentException.class, maker, asked);
    }

    static void noState(String what, Maker maker, Asked asked) {
        refused(what, IllegalStateException.class, maker, asked);
    }

    private static void refused(String what, Class<? extends RuntimeException> kind, Maker maker, Asked asked) {
        Koebehall x = maker.made();
        List<String> before = allAnswers(x);
        Check.refused(what, kind, () -> {
            asked.answer(x);
            return 0;
        });
        same(what, before, allAnswers(x));
    }

    static void changesNothing(String what, Maker maker, Asked asked) {
        Koebehall x = maker.made();
        List<String> before = allAnswers(x);
        answerOf(x, asked);
        same(what, before, allAnswers(x));
    }

    private static void same(String what, List<String> before, List<String> after) {
        Check.holds(what + ": what is asked stays below 512 calls", () -> before.size() <= MOST_ASKED);
        Check.dueLong(what + ": as many can be asked as before", before.size(), after.size());
        for (int at = 0; at < before.size() && at < after.size(); at++) {
            String was = before.get(at);
            String is = after.get(at);
            Check.holds(what + ": was " + was + ", is " + is + ":", () -> was.equals(is));
        }
    }

    /** All that can be asked of the net, the disks, the gaskets, the word and the network. */
    static List<String> allAnswers(Koebehall x) {
        List<String> seen = new ArrayList<>();
        askNet(seen, x);
        askDisks(seen, x);
        askGaskets(seen, x);
        askWord(seen, x);
        askNetwork(seen, x);
        return seen;
    }

    private static void askNet(List<String> seen, Koebehall x) {
        for (int what = 0; what <= 4; what++) {
            int at = what;
            note(seen, "net(" + at + ")", x, y -> y.net(at));
        }
        for (int face = 0; face < x.net(2); face++) {
            int row = face;
            for (int place = 0; place < 3; place++) {
                int at = place;
                note(seen, "corner(" + row + ", " + at + ")", x, y -> y.corner(row, at));
            }
        }
        for (int corner = 0; corner < x.net(0); corner++) {
            int at = corner;
            String got = "";
            for (int place = 0; place < 16 && !got.equals("-1"); place++) {
                int next = place;
                got = note(seen, "around(" + at + ", " + next + ")", x, y -> y.around(at, next));
            }
        }
    }

    private static void askDisks(List<String> seen, Koebehall x) {
        int pairs = 0;
        for (int how = 0; how < 3; how++) {
            int at = how;
            pairs += Integer.parseInt(note(seen, "pairs(" + at + ")", x, y -> y.pairs(at)));
        }
        // The first of none is no such disk, the first alone is the same as itself.
        note(seen, "lie(0, 0)", x, y -> y.lie(0, 0));
        note(seen, "draws()", x, y -> y.draws());
        for (int other = 1; other * (other - 1) / 2 < pairs; other++) {
            for (int disk = 0; disk < other; disk++) {
                int a = disk;
                int b = other;
                note(seen, "lie(" + a + ", " + b + ")", x, y -> y.lie(a, b));
            }
        }
    }

    private static void askGaskets(List<String> seen, Koebehall x) {
        for (int gasket = 0; gasket <= 8; gasket++) {
            int at = gasket;
            if (note(seen, "count(" + at + ", 40)", x, y -> y.count(at, 40)).contains("IndexOutOf")) {
                return;
            }
            note(seen, "remainders(" + at + ", 8)", x, y -> y.remainders(at, 8));
            for (int place = 0; place < 4; place++) {
                int next = place;
                note(seen, "curvature(" + at + ", " + next + ")", x, y -> y.curvature(at, next));
                note(seen, "root(" + at + ", " + next + ")", x, y -> y.root(at, next));
            }
        }
    }

    private static void askWord(List<String> seen, Koebehall x) {
        for (int what = 0; what <= 4; what++) {
            int at = what;
            note(seen, "word(" + at + ")", x, y -> y.word(at));
        }
        note(seen, "image(2, 3, true)", x, y -> y.image(2, 3, true));
        note(seen, "image(2, 3, false)", x, y -> y.image(2, 3, false));
    }

    private static void askNetwork(List<String> seen, Koebehall x) {
        note(seen, "trees()", x, y -> y.trees());
        note(seen, "treesAnew()", x, y -> y.treesAnew());
        for (int node = 1; node < 7; node++) {
            int at = node;
            note(seen, "side(" + at + ", 0, NONE)", x, y -> y.side(at, 0, Koebehall.NONE));
        }
        for (int wire = 0; wire < 11; wire++) {
            int at = wire;
            note(seen, "side(0, 1, " + at + ")", x, y -> y.side(0, 1, at));
        }
    }

    private static String note(List<String> seen, String what, Koebehall x, Asked asked) {
        String got = answerOf(x, asked);
        seen.add(what + " " + got);
        return got;
    }

    private static String answerOf(Koebehall x, Asked asked) {
        try {
            return String.valueOf(asked.answer(x));
        } catch (RuntimeException thrown) {
            return "throws " + thrown.getClass().getName();
        }
    }
}
