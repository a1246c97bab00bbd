/** The boundaries of promises 37 to 41. */
public final class EdgesOfImages extends Edges {
    private static void same(String name, SeeSawHearts x, SeeSawHearts want) {
        for (int what = 0; what <= 6; what++) {
            due(name + ": now(" + what + ")", x.now(what), want.now(what));
        }
        due(name + ": people", x.count(0), want.count(0));
        due(name + ": hung", x.count(3), want.count(3));
        for (int end = 0; end <= 1; end++) {
            due(name + ": load(" + end + ")", x.load(end), want.load(end));
            due(name + ": at(" + end + ")", x.at(end), want.at(end));
        }
        for (int p = 0; p < want.count(0); p++) {
            for (int what = 0; what <= 4; what++) {
                due(name + ": of(" + p + ", " + what + ")", x.of(p, what), want.of(p, what));
            }
        }
    }

    /** Other than it was, in all that section 1 tells. */
    private static void upset(SeeSawHearts x) {
        for (int p = 0; p < x.count(0); p++) {
            x.turn(p, (x.of(p, 0) + 1) % 6);
            x.set(p, 1, 98 - x.of(p, 1) / 2);
            x.set(p, 2, 97 - x.of(p, 2) / 2);
            x.set(p, 3, x.of(p, 3) == 1 ? OFF : x.of(p, 3) + 1);
        }
        one(x, ORPHAN, 96, 95, 1);
        x.take(0);
        x.bag(17);
        x.hang(1);
        x.hang(1);
        x.minutes(41);
    }

    private static void kept(String name, Scene scene, int people) {
        SeeSawHearts x = scene.made();
        due(name + ": image", x.image(), 1);
        upset(x);
        due(name + ": undo", x.undo(), people);
        same(name, x, scene.made());
        upset(x);
        due(name + ": it stays kept", x.undo(), people);
        same(name, x, scene.made());
    }

    private static void image() {
        promise(37);
        kept("nobody", Edges::empty, 0);
        kept("six", Edges::busy, 6);
        kept("eight", Edges::full, 8);
        SeeSawHearts x = empty();
        due("the first", x.image(), 1);
        x.person(MAN);
        due("the second", x.image(), 1);
        x.person(MAN);
        due("the latest counts", x.undo(), 1);
        x.minutes(100);
        x.image();
        x.minutes(100);
        x.undo();
        due("minute", x.now(0), 100);
        SeeSawHearts y = busy();
        y.image();
        due("the tape is left", y.count(1), 32);
        due("no finding", y.status(-1), busy().status(-1));
    }

    private static void undo() {
        promise(38);
        refused("nothing is kept at first", Edges::empty, x -> x.undo(), NONE);
        refused("nothing is kept once it is torn", EdgesOfImages::torn, x -> x.undo(), NONE);
        SeeSawHearts x = empty();
        x.image();
        one(x, WIDOW, 9, 9, 0);
        due("to nobody", x.undo(), 0);
        due("nobody is there", x.heart(0), BEYOND);
        for (int n = 0; n <= 8; n++) {
            due("from eight to " + n, eightSince(n).undo(), n);
        }
        notInTheImage();
        findingsStay();
    }

    private static SeeSawHearts torn() {
        SeeSawHearts x = busy();
        x.tear();
        return x;
    }

    /** An image of so many, and eight there since. */
    private static SeeSawHearts eightSince(int n) {
        SeeSawHearts x = empty();
        for (int p = 0; p < n; p++) {
            x.person(MAN);
        }
        x.image();
        for (int p = n; p < 8; p++) {
            x.person(WIDOW);
        }
        return x;
    }

    /** THE TAPE and sheets are as they are, whatever was when the image was kept. */
    private static void notInTheImage() {
        SeeSawHearts x = empty();
        tape(x, "bag 3");
        x.sheet(0, 8, 2);
        x.write(0, 1, 5);
        x.sheet(1, 8, 1);
        x.image();
        tape(x, ";man");
        x.write(0, 1, 6);
        x.sheet(1, 0, 0);
        x.sheet(2, 64, 1);
        due("undo", x.undo(), 0);
        due("the tape has what it has", x.count(1), 9);
        due("a number is what it is", x.write(0, 1, 0), 6);
        due("a sheet stays missing", x.write(1, 0, 0), MISSING);
        due("a sheet stays there", x.write(2, 0, 0), 0);
        due("the text is whole", x.park(), 2);
        x.undo();
        due("the tape stays empty", x.count(1), 0);
    }

    private static void findingsStay() {
        SeeSawHearts x = empty();
        x.image();
        x.heart(0);
        x.seats();
        x.undo();
        due("all findings stay counted", x.status(-1), 2);
        due("beyond", x.status(0), 1);
        due("size", x.status(6), 1);
    }

    private static void tear() {
        promise(39);
        told("nothing is kept", Edges::empty, SeeSawHearts::tear, 0);
        SeeSawHearts x = busy();
        due("something is", x.tear(), 1);
        due("nothing is then", x.tear(), 0);
        due("to undo", x.undo(), NONE);
        same("all that is there stays", x, busy());
        x.image();
        x.image();
        due("however often it was kept", x.tear(), 1);
        due("nothing is then", x.tear(), 0);
        x.image();
        due("kept anew", x.undo(), 6);
        due("undo leaves it kept", x.tear(), 1);
        SeeSawHearts nobody = empty();
        nobody.image();
        due("an image of nobody is something", nobody.tear(), 1);
    }

    private static void count() {
        promise(40);
        int[] most = {8, 120, 8, 4};
        for (int w = 0; w <= 3; w++) {
            int what = w;
            told("what " + w + ", none", Edges::empty, x -> x.count(what), 0);
            told("what " + w + ", the most", Edges::full, x -> x.count(what), most[what]);
        }
        told("those that sit, not those that are off", Edges::busy, x -> x.count(2), 4);
        told("of both ends", Edges::busy, x -> x.count(3), 3);
        SeeSawHearts few = empty();
        one(few, MAN, 0, 0, 0);
        due("one sits at end 0", few.count(2), 1);
        few.set(0, 3, 1);
        due("one sits at end 1", few.count(2), 1);
        few.set(0, 3, OFF);
        due("nobody sits", few.count(2), 0);
        SeeSawHearts x = empty();
        for (int k = 0; k < 41; k++) {
            x.bag(20);
            x.hang(k % 2);
        }
        due("more than a bag has", x.count(3), 41);
        beyond("what", Edges::busy, SeeSawHearts::count, -1, 4, LOW, HIGH);
        beyond("what", Edges::empty, SeeSawHearts::count, -1, 4, LOW, HIGH);
    }

    /** One finding of each kind, the first one once, the second twice, and so on. */
    private static SeeSawHearts found() {
        SeeSawHearts x = full();
        x.set(0, 3, OFF);
        x.heart(8);
        for (int k = 0; k < 2; k++) {
            x.person(0);
        }
        for (int k = 0; k < 3; k++) {
            x.as(0, WIDOW);
        }
        for (int k = 0; k < 4; k++) {
            x.fewest(0);
        }
        for (int k = 0; k < 5; k++) {
            x.delay(1, 0, 1);
        }
        x.sheet(3, 0, 0);
        for (int k = 0; k < 6; k++) {
            x.write(3, 0, 0);
        }
        for (int k = 0; k < 7; k++) {
            x.sheet(0, 0, -1);
        }
        return x;
    }

    private static void status() {
        promise(41);
        for (int w = 0; w <= 6; w++) {
            int which = w;
            told("which " + w + ", none", Edges::empty, x -> x.status(which), 0);
            told("which " + w, EdgesOfImages::found, x -> x.status(which), which + 1);
        }
        told("all, none", Edges::empty, x -> x.status(-1), 0);
        told("all", EdgesOfImages::found, x -> x.status(-1), 28);
        beyond("which", Edges::empty, SeeSawHearts::status, -2, 7, LOW, HIGH);
        beyond("which", EdgesOfImages::found, SeeSawHearts::status, -2, 7, LOW, HIGH);
        SeeSawHearts x = found();
        due("another which", x.status(7), BEYOND);
        due("is counted from then on", x.status(0), 2);
        due("another which", x.status(-2), BEYOND);
        due("is counted among all", x.status(-1), 30);
        due("status counts nothing else", x.status(-1), 30);
        x.undo();
        due("undo takes none back", x.status(-1), 30);
        x.tear();
        x.undo();
        due("what undo finds is counted", x.status(3), 5);
        x.wipe();
        due("a fault", x.park(), -1);
        due("is no finding", x.status(-1), 31);
        x.write(3, 0, 0);
        due("a finding in longs is counted", x.status(5), 7);
    }

    public static void main(String[] args) {
        image();
        undo();
        tear();
        count();
        status();
        end();
    }
}
