import java.util.ArrayList;
import java.util.List;

/** Promises 1 to 6: a new object, split, flip, corner, around, net. */
public final class NetTest {
    public static void main(String[] args) {
        newObject();
        splitByHand();
        flipByHand();
        flipNamesTheFormerFace();
        cornersAreAtMostSixteen();
        flipRefuses();
        askingRefuses();
        for (int run = 0; run < 60; run++) {
            runAtWill(run);
        }
        Check.end();
    }

    private static void newObject() {
        Koebehall x = new Koebehall();
        new Model().compare("a new net", x);
        Check.due("corners", 4, () -> x.net(0));
        Check.due("edges", 6, () -> x.net(1));
        Check.due("faces", 4, () -> x.net(2));
        Check.due("edges to flip", 0, () -> x.net(3));
        Check.due("most neighbours", 3, () -> x.net(4));
        Check.due("pairs", 0, () -> x.pairs(Koebehall.APART) + x.pairs(Koebehall.TOUCH) + x.pairs(Koebehall.OVERLAP));
        Check.noIndex("no disk", () -> x.move(0, 0, 0, 1));
        Check.noIndex("no gasket", () -> x.curvature(0, 0));
        Check.noIndex("no move", () -> x.append(0, false));
        Check.due("word a", 1, () -> x.word(0));
        Check.due("word b", 0, () -> x.word(1));
        Check.due("word c", 0, () -> x.word(2));
        Check.due("word d", 1, () -> x.word(3));
        Check.noIndex("no wire", () -> x.side(0, 1, 0));
        Check.due("trees", 0, () -> x.trees());
        Check.due("nodes", 2, () -> x.nodes(2));
        Koebehall y = new Koebehall();
        y.split(0);
        new Model().compare("objects are apart", x);
    }

    private static void face(Koebehall x, int face, int a, int b, int c) {
        Check.due("corner(" + face + ", 0)", a, () -> x.corner(face, 0));
        Check.due("corner(" + face + ", 1)", b, () -> x.corner(face, 1));
        Check.due("corner(" + face + ", 2)", c, () -> x.corner(face, 2));
    }

    private static void splitByHand() {
        Koebehall x = new Koebehall();
        Check.due("split(2)", 4, () -> x.split(2));
        face(x, 0, 0, 1, 2);
        face(x, 1, 0, 3, 1);
        face(x, 2, 1, 3, 4);
        face(x, 3, 0, 2, 3);
        face(x, 4, 2, 4, 3);
        face(x, 5, 1, 4, 2);
        Check.due("split(4)", 5, () -> x.split(4));
        face(x, 4, 2, 4, 5);
        face(x, 6, 3, 5, 4);
        face(x, 7, 2, 5, 3);
        Check.due("corners", 6, () -> x.net(0));
        Check.due("edges", 12, () -> x.net(1));
        Check.due("faces", 8, () -> x.net(2));
        Check.due("most neighbours", 5, () -> x.net(4));
    }

    private static void flipByHand() {
        Koebehall x = new Koebehall();
        x.split(0);
        Check.due("flip(0, 1)", 304, () -> x.flip(0, 1));
        face(x, 0, 0, 3, 4);
        face(x, 1, 1, 4, 3);
        Check.noState("0 and 1 are no neighbours now", () -> x.flip(0, 1));
        Check.noState("1 and 0 are no neighbours now", () -> x.flip(1, 0));
        Check.due("flip(3, 4)", 1, () -> x.flip(3, 4));
        Check.due("flip(2, 0)", 304, () -> x.flip(2, 0));
        Check.due("around 0", 1, () -> x.around(0, 0));
        Check.due("around 0", 4, () -> x.around(0, 1));
        Check.due("around 0", 3, () -> x.around(0, 2));
        Check.due("around 0", Koebehall.NONE, () -> x.around(0, 3));
    }

    /** The faces are told by which one b is behind a in; from either end the edge is flipped to the same. */
    private static void flipNamesTheFormerFace() {
        for (int end = 0; end < 2; end++) {
            Koebehall x = new Koebehall();
            x.split(0);
            x.split(0);
            int a = end;
            Check.due("flip of 0 and 1", 305, () -> x.flip(a, 1 - a));
            face(x, 0, 0, 3, 5);
            face(x, 1, 1, 5, 3);
            face(x, 6, 1, 4, 5);
            Check.due("flip of 1 and 5", 304, () -> x.flip(a == 0 ? 1 : 5, a == 0 ? 5 : 1));
            face(x, 1, 1, 4, 3);
            face(x, 6, 3, 4, 5);
        }
    }

    private static void cornersAreAtMostSixteen() {
        Koebehall x = new Koebehall();
        Model model = new Model();
        for (int corner = 4; corner < 16; corner++) {
            int due = corner;
            Check.due("split", due, () -> x.split(due - 4));
            model.split(due - 4);
        }
        Check.noState("split(0)", () -> x.split(0));
        Check.noState("split(27)", () -> x.split(27));
        Check.noIndex("split(28) is told first", () -> x.split(28));
        Check.noIndex("split(-1) is told first", () -> x.split(-1));
        Check.noIndex("split(most)", () -> x.split(Integer.MAX_VALUE));
        Check.noIndex("split(least)", () -> x.split(Integer.MIN_VALUE));
        Check.due("corners", 16, () -> x.net(0));
        Check.due("edges", 42, () -> x.net(1));
        Check.due("faces", 28, () -> x.net(2));
        model.compare("a full net", x);
        Check.noIndex("corner 16", () -> x.around(16, 0));
        Check.noIndex("face 28", () -> x.corner(28, 0));
        Check.noIndex("flip(16, 0)", () -> x.flip(16, 0));
        Check.noIndex("flip(0, 16)", () -> x.flip(0, 16));
        Koebehall y = new Koebehall();
        for (int corner = 4; corner < 16; corner++) {
            y.split(0);
        }
        Check.due("neighbours of 0", 15, () -> y.net(4));
        Check.due("the last one around 0", 3, () -> y.around(0, 14));
        Check.due("none behind it", Koebehall.NONE, () -> y.around(0, 15));
    }

    private static void flipRefuses() {
        Koebehall x = new Koebehall();
        Check.noState("c and d are neighbours", () -> x.flip(0, 1));
        Check.noState("one and the same", () -> x.flip(2, 2));
        Check.noIndex("flip(-1, 0)", () -> x.flip(-1, 0));
        Check.noIndex("flip(0, -1)", () -> x.flip(0, -1));
        Check.noIndex("flip(4, 0)", () -> x.flip(4, 0));
        Check.noIndex("flip(0, 4)", () -> x.flip(0, 4));
        Check.noIndex("flip(4, 4)", () -> x.flip(4, 4));
        Check.noIndex("flip(most, least)", () -> x.flip(Integer.MAX_VALUE, Integer.MIN_VALUE));
        new Model().compare("a refused flip", x);
        Model model = new Model();
        x.split(0);
        model.split(0);
        Check.noState("3 and 4 are no neighbours", () -> x.flip(3, 4));
        Check.noState("an edge of 4", () -> x.flip(4, 0));
        Check.noIndex("flip(5, 0)", () -> x.flip(5, 0));
        Check.noIndex("split(6)", () -> x.split(6));
        model.compare("a refused flip", x);
    }

    private static void askingRefuses() {
        Koebehall x = new Koebehall();
        Check.noIndex("corner(-1, 0)", () -> x.corner(-1, 0));
        Check.noIndex("corner(4, 0)", () -> x.corner(4, 0));
        Check.noIndex("corner(0, -1)", () -> x.corner(0, -1));
        Check.noIndex("corner(0, 3)", () -> x.corner(0, 3));
        Check.noIndex("corner(3, 3)", () -> x.corner(3, 3));
        Check.noIndex("corner(most, 0)", () -> x.corner(Integer.MAX_VALUE, 0));
        Check.noIndex("around(-1, 0)", () -> x.around(-1, 0));
        Check.noIndex("around(4, 0)", () -> x.around(4, 0));
        Check.noIndex("around(0, -1)", () -> x.around(0, -1));
        Check.noIndex("around(0, least)", () -> x.around(0, Integer.MIN_VALUE));
        Check.due("around(0, most)", Koebehall.NONE, () -> x.around(0, Integer.MAX_VALUE));
        Check.due("around(0, 4)", Koebehall.NONE, () -> x.around(0, 4));
        Check.due("around(3, 6)", Koebehall.NONE, () -> x.around(3, 6));
        Check.noIndex("net(-1)", () -> x.net(-1));
        Check.noIndex("net(5)", () -> x.net(5));
        Check.noIndex("net(most)", () -> x.net(Integer.MAX_VALUE));
        new Model().compare("refused asking", x);
    }

    private static void runAtWill(int run) {
        Koebehall x = new Koebehall();
        Model model = new Model();
        int splits = run % 13;
        for (int step = 0; step < 60; step++) {
            if (splits > 0 && Check.pick(4) == 0) {
                int face = Check.pick(model.faces.size());
                Check.dueLong("run " + run + " split(" + face + ")", model.split(face), x.split(face));
                splits--;
            } else {
                int a = Check.pick(model.corners);
                int b = model.around(a, Check.pick(model.degree(a)));
                String what = "run " + run + " flip(" + a + ", " + b + ")";
                if (model.canFlip(a, b)) {
                    Check.dueLong(what, model.flip(a, b), x.flip(a, b));
                } else {
                    Check.noState(what, () -> x.flip(a, b));
                }
            }
            Check.dueLong("run " + run + " net(3)", model.flippable(), x.net(3));
            Check.dueLong("run " + run + " net(4)", model.most(), x.net(4));
        }
        model.compare("run " + run, x);
    }

    /** The net as the document tells it, found anew from its faces at each question. */
    private static final class Model {
        final List<int[]> faces = new ArrayList<>();
        int corners = 4;

        Model() {
            faces.add(new int[] {0, 1, 2});
            faces.add(new int[] {0, 3, 1});
            faces.add(new int[] {1, 3, 2});
            faces.add(new int[] {0, 2, 3});
        }

        int[] fromLowest(int face) {
            int[] f = faces.get(face);
            int low = Math.min(f[0], Math.min(f[1], f[2]));
            int at = f[0] == low ? 0 : f[1] == low ? 1 : 2;
            return new int[] {f[at], f[(at + 1) % 3], f[(at + 2) % 3]};
        }

        int split(int face) {
            int[] f = fromLowest(face);
            int n = corners++;
            faces.set(face, new int[] {f[0], f[1], n});
            faces.add(new int[] {f[1], f[2], n});
            faces.add(new int[] {f[2], f[0], n});
            return n;
        }

        int faceOf(int a, int b) {
            for (int face = 0; face < faces.size(); face++) {
                int[] f = faces.get(face);
                for (int at = 0; at < 3; at++) {
                    if (f[at] == a && f[(at + 1) % 3] == b) {
                        return face;
                    }
                }
            }
            return -1;
        }

        int third(int a, int b) {
            int[] f = faces.get(faceOf(a, b));
            return f[0] + f[1] + f[2] - a - b;
        }

        boolean near(int a, int b) {
            return a != b && faceOf(a, b) >= 0;
        }

        boolean canFlip(int a, int b) {
            return near(a, b) && !near(third(a, b), third(b, a));
        }

        int flip(int a, int b) {
            int former = faceOf(a, b);
            int other = faceOf(b, a);
            int c = third(a, b);
            int d = third(b, a);
            faces.set(former, new int[] {a, d, c});
            faces.set(other, new int[] {d, b, c});
            return c < d ? 100 * c + d : 100 * d + c;
        }

        int degree(int a) {
            int found = 0;
            for (int b = 0; b < corners; b++) {
                found += near(a, b) ? 1 : 0;
            }
            return found;
        }

        int around(int a, int place) {
            if (place >= degree(a)) {
                return -1;
            }
            int at = 0;
            while (!near(a, at)) {
                at++;
            }
            for (int step = 0; step < place; step++) {
                at = third(a, at);
            }
            return at;
        }

        int edges() {
            int found = 0;
            for (int a = 0; a < corners; a++) {
                found += degree(a);
            }
            return found / 2;
        }

        int flippable() {
            int found = 0;
            for (int a = 0; a < corners; a++) {
                for (int b = 0; b < a; b++) {
                    found += canFlip(a, b) ? 1 : 0;
                }
            }
            return found;
        }

        int most() {
            int found = 0;
            for (int a = 0; a < corners; a++) {
                found = Math.max(found, degree(a));
            }
            return found;
        }

        void compare(String when, Koebehall x) {
            Check.dueLong(when + ": corners", corners, x.net(0));
            Check.dueLong(when + ": edges", edges(), x.net(1));
            Check.dueLong(when + ": faces", faces.size(), x.net(2));
            Check.dueLong(when + ": edges to flip", flippable(), x.net(3));
            Check.dueLong(when + ": most neighbours", most(), x.net(4));
            for (int face = 0; face < faces.size(); face++) {
                int[] f = fromLowest(face);
                for (int place = 0; place < 3; place++) {
                    Check.dueLong(when + ": corner(" + face + ", " + place + ")", f[place], x.corner(face, place));
                }
            }
            for (int a = 0; a < corners; a++) {
                for (int place = 0; place <= degree(a); place++) {
                    Check.dueLong(when + ": around(" + a + ", " + place + ")", around(a, place), x.around(a, place));
                }
            }
            int face = faces.size();
            Check.noIndex(when + ": no such face", () -> x.corner(face, 0));
            Check.noIndex(when + ": no such corner", () -> x.around(corners, 0));
        }
    }
}
