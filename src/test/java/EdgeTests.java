/**
 * The terms of the document, each sentence that names a boundary: the last number on this side and the first one on
 * the other, what is empty and what is full, and what goes round. What is due is reckoned by hand.
 */
public final class EdgeTests extends Checks {
    /** A line whose two sorts differ in what is asked; the place 0 needs the sort 0, reel 0 says it, and is real. */
    private static Feederbank lying(int size, int height, int real) {
        Feederbank x = new Feederbank();
        x.sort(1, 1, 2, 100, 300, 0);
        x.sort(size, height, 2, 100, 300, 0);
        x.product();
        x.place(0, 0, 0, 0, 0);
        x.machine(7);
        x.reel(0, real, 5, 200);
        x.load(0, 0, 0);
        return x;
    }

    /** A line of one place whose sort has a life, nothing loaded yet. */
    private static Feederbank aging(int life) {
        Feederbank x = new Feederbank();
        x.sort(1, 1, 2, 100, 300, life);
        x.product();
        x.place(0, 0, 0, 0, 0);
        x.machine(7);
        for (int i = 0; i < 4; i++) {
            x.reel(0, 0, 0, 9);
        }
        return x;
    }

    private static void lists() {
        sentence("a change: from a serial number on", () -> {
            Feederbank x = line();
            x.sort(1, 1, 1, 100, 300, 0);
            x.change(0, 0, 1, 50);
            is("the one ahead", x.needed(0, 0, 49), 0);
            is("just there", x.needed(0, 0, 50), 1);
            is("the last one", x.needed(0, 0, 99), 1);
        });
        sentence("a change: from the serial number 0, and from 99", () -> {
            Feederbank x = line();
            x.sort(1, 1, 1, 100, 300, 0);
            x.sort(1, 1, 1, 100, 300, 0);
            x.change(0, 0, 1, 0);
            x.change(0, 0, 2, 99);
            is("0", x.needed(0, 0, 0), 1);
            is("98", x.needed(0, 0, 98), 1);
            is("99", x.needed(0, 0, 99), 2);
        });
        sentence("a change: the latest told one counts of those for the same serial number", () -> {
            Feederbank x = line();
            x.sort(1, 1, 1, 100, 300, 0);
            x.sort(1, 1, 1, 100, 300, 0);
            x.change(0, 0, 2, 7);
            x.change(0, 0, 1, 7);
            is("the latest", x.needed(0, 0, 7), 1);
            x.change(0, 0, 0, 7);
            is("its own sort again", x.needed(0, 0, 8), 0);
        });
        sentence("a change: the one with the greatest serial number, told early or late", () -> {
            Feederbank x = line();
            x.sort(1, 1, 1, 100, 300, 0);
            x.sort(1, 1, 1, 100, 300, 0);
            x.change(0, 0, 1, 8);
            x.change(0, 0, 2, 7);
            is("7", x.needed(0, 0, 7), 2);
            is("8", x.needed(0, 0, 8), 1);
        });
        sentence("a change of boards that wait: the first one, and all 40", () -> {
            Feederbank x = line();
            x.sort(2, 1, 2, 100, 300, 0);
            x.load(0, 1, x.reel(1, 1, 0, 50));
            for (int i = 0; i < 4; i++) {
                x.order(0, 9, 0);
            }
            x.order(0, 4, 0);
            x.change(0, 0, 1, 0);
            x.change(0, 0, 0, 1);
            x.change(0, 0, 1, 39);
            x.tick(5);
            is("the first one", x.at(0, 0, 'v') * 10 + x.at(0, 0, 'r'), 2001);
            is("the next one", x.at(1, 0, 'v'), 149);
            ticks(x, 200);
            is("the last one", x.at(39, 0, 'v'), 200 - 39);
        });
        sentence("an alternate: from a serial number on", () -> {
            Feederbank x = lying(1, 1, 0);
            x.load(0, 0, x.reel(1, 1, 0, 200));
            x.alternate(0, 0, 1, 1);
            x.order(0, 2, 0);
            x.tick(3);
            is("the one ahead waits", x.stateOf(0), 'w');
            Feederbank y = lying(1, 1, 0);
            y.order(0, 2, 0);
            y.tick(1);
            y.alternate(0, 0, 1, 1);
            y.load(0, 0, y.reel(1, 1, 0, 200));
            y.tick(30);
            is("the one ahead has no part", y.at(0, 0, 'r'), -1);
            is("just there", y.at(1, 0, 'r'), 1);
        });
        sentence("an alternate: for that product alone", () -> {
            Feederbank x = lying(1, 1, 0);
            x.load(0, 0, x.reel(1, 1, 0, 200));
            x.product();
            x.place(1, 0, 0, 0, 0);
            x.alternate(1, 0, 1, 0);
            x.order(0, 1, 0);
            x.tick(5);
            is("of the other product", x.stateOf(0), 'w');
            Feederbank y = lying(1, 1, 0);
            y.load(0, 0, y.reel(1, 1, 0, 200));
            y.product();
            y.place(1, 0, 0, 0, 0);
            y.alternate(1, 0, 1, 0);
            y.order(1, 1, 0);
            y.tick(1);
            is("of that product", y.stateOf(0), 'l');
        });
        sentence("an alternate: it stands for the other one, not the other way round", () -> {
            Feederbank x = lying(1, 1, 0);
            x.product();
            x.place(1, 0, 0, 0, 1);
            x.alternate(1, 0, 1, 0);
            x.order(1, 1, 0);
            x.tick(5);
            is("it waits", x.stateOf(0), 'w');
        });
        sentence("serial numbers from 0 for each product", () -> {
            Feederbank x = line();
            x.sort(2, 1, 1, 100, 300, 0);
            x.reel(1, 1, 0, 50);
            x.load(0, 1, 1);
            x.product();
            x.place(1, 0, 0, 0, 0);
            x.change(0, 0, 1, 2);
            x.order(0, 2, 0);
            is("first of the other product", x.order(1, 3, 0), 2);
            is("the third one", x.order(0, 1, 0), 5);
            x.tick(40);
            is("its serial number is 1", x.at(1, 0, 'v') < 160, true);
            is("of the other product", x.at(4, 0, 'v') < 160, true);
            is("its serial number is 2", x.at(5, 0, 'v') > 160, true);
        });
        sentence("with the side 0 first, if the product has places on it, then with the side 1 likewise", () -> {
            Feederbank x = line();
            x.place(0, 0, 0, 1, 0);
            x.order(0, 1, 0);
            x.tick(15);
            is("side 0 alone", x.at(0, 0, 'v') * 1000 + x.at(0, 1, 'v'), 149999);
            is("in the eye", x.stationOf(0), 3);
            x.tick(1);
            is("in the printer in the same tick", x.stationOf(0), 0);
            is("side 1", x.at(0, 1, 'v'), 150 - 1 - 8);
            x.tick(14);
            is("not ready", x.stateOf(0), 'l');
            is("ready", x.tick(1), 1);
            Feederbank y = new Feederbank();
            y.sort(1, 1, 2, 100, 300, 0);
            y.product();
            y.place(0, 0, 0, 1, 0);
            y.machine(7);
            y.load(0, 0, y.reel(0, 0, 5, 9));
            y.order(0, 1, 0);
            is("side 1 alone", y.tick(16), 1);
        });
    }

    private static void lives() {
        for (int life : new int[] {10, 999}) {
            sentence("a life of " + life + " is over as the present tick is so many behind", () -> {
                Feederbank x = aging(life);
                x.tick(7);
                x.load(0, 0, 0);
                is("all of it", x.lifeLeft(0), life);
                ticks(x, life - 1);
                is("one left", x.lifeLeft(0), 1);
                is("fit", x.isFit(0), true);
                x.tick(1);
                is("over", x.lifeLeft(0), 0);
                is("not fit", x.isFit(0), false);
                x.tick(200);
                is("long over", x.lifeLeft(0), 0);
            });
        }
        sentence("a life that is over serves no board, in the tick in which it is so", () -> {
            Feederbank x = aging(10);
            x.load(0, 0, 0);
            x.tick(9);
            x.order(0, 1, 0);
            x.tick(1);
            is("in the tick 10 it serves", x.stateOf(0), 'l');
            x.tick(9);
            is("but is over as the machine begins", x.at(0, 0, 'r'), -1);
            Feederbank y = aging(10);
            y.load(0, 0, 0);
            y.tick(10);
            y.order(0, 1, 0);
            y.tick(1);
            is("in the tick 11 it does not", y.stateOf(0), 'w');
        });
        sentence("the life ends between printing and placing, the last tick of it", () -> {
            Feederbank x = aging(10);
            x.load(0, 0, 0);
            x.tick(5);
            x.order(0, 1, 0);
            x.tick(5);
            is("begun by the machine in the tick 10", x.at(0, 0, 'r'), 0);
            Feederbank y = aging(10);
            y.load(0, 0, 0);
            y.tick(6);
            y.order(0, 1, 0);
            y.tick(5);
            is("begun by the machine in the tick 11", y.at(0, 0, 'r'), -1);
            is("without a try", y.seed(1), 1);
        });
        sentence("a life runs from the first loading on; unloading lets it run on", () -> {
            Feederbank x = aging(10);
            x.load(0, 0, 0);
            x.tick(3);
            x.load(0, 0, 1);
            x.tick(3);
            is("unloaded", x.lifeLeft(0), 4);
            is("the other one", x.lifeLeft(1), 7);
            x.load(0, 1, 0);
            x.tick(3);
            is("loaded again", x.lifeLeft(0), 1);
            x.tick(1);
            is("over", x.isFit(0), false);
        });
        sentence("1000 if it has none to run, or was not loaded yet", () -> {
            Feederbank x = aging(10);
            x.load(0, 0, 0);
            x.splice(0, 1);
            x.tick(50);
            is("not loaded", x.lifeLeft(2), 1000);
            is("spliced, not loaded", x.lifeLeft(1), 1000);
            is("over", x.lifeLeft(0), 0);
            Feederbank y = line();
            y.tick(200);
            is("none to run", y.lifeLeft(0), 1000);
            is("fit", y.isFit(0), true);
        });
        sentence("to bake makes the life run anew from its next loading on; till then as if never loaded", () -> {
            Feederbank x = aging(10);
            x.load(0, 0, 0);
            x.tick(9);
            x.load(0, 0, 1);
            is("one left", x.bake(0), 1);
            is("as if never loaded", x.lifeLeft(0), 1000);
            x.tick(100);
            is("still", x.lifeLeft(0), 1000);
            is("fit", x.isFit(0), true);
            x.load(0, 0, 0);
            is("anew", x.lifeLeft(0), 10);
            x.tick(10);
            is("over", x.isFit(0), false);
            x.load(0, 0, 2);
            refuses(UNSUPPORTED, x, y -> y.bake(0));
        });
        sentence("to bake one whose life is over, or that was never loaded", () -> {
            Feederbank x = aging(10);
            x.load(0, 0, 0);
            x.tick(10);
            x.load(0, 0, 1);
            is("over", x.bake(0), 0);
            is("never loaded", x.bake(3), 1000);
            x.load(0, 0, 3);
            is("it begins", x.lifeLeft(3), 10);
            is("without a life", line().reel(0, 0, 0, 1), 1);
        });
        sentence("a reel is fit if it has parts: the last one, and none", () -> {
            Feederbank x = line();
            x.reel(0, 0, 0, 1);
            is("the last part", x.isFit(1), true);
            x.load(0, 0, 1);
            x.order(0, 1, 0);
            x.tick(5);
            is("none", x.parts(1), 0);
            is("not fit", x.isFit(1), false);
            is("it stays loaded", x.loaded(0, 0), 1);
        });
    }

    private static void splices() {
        sentence("as the loaded one has no parts, the other one is in its place at once, as if loaded then", () -> {
            Feederbank x = aging(30);
            x.reel(0, 0, 0, 1);
            x.load(0, 0, 4);
            x.splice(4, 0);
            x.order(0, 1, 0);
            x.tick(4);
            is("it has one", x.loaded(0, 0), 4);
            x.tick(1);
            is("it has none", x.loaded(0, 0), 0);
            is("loaded in the tick before", x.lifeLeft(0), 29);
            is("it is not loaded any more", x.bake(4), 25);
        });
        sentence("or if it has none already, at once", () -> {
            Feederbank x = aging(30);
            x.load(0, 0, x.reel(0, 0, 0, 1));
            x.order(0, 1, 0);
            x.tick(5);
            is("empty", x.loaded(0, 0), 4);
            is("both have", x.splice(4, 1), 9);
            is("in its place", x.loaded(0, 0), 1);
            is("as if loaded then", x.lifeLeft(1), 30);
            is("the empty one can be loaded", x.load(0, 1, 4), -1);
            is("one can be spliced behind the new one", x.splice(1, 2), 18);
        });
        sentence("one that is spliced and has none: it is in its place, and empty", () -> {
            Feederbank x = bench();
            int front = x.reel(0, 0, 0, 1);
            int rear = x.reel(0, 0, 0, 1);
            x.load(0, 0, front);
            x.splice(front, rear);
            is("its last part is put", x.mend(0, 0, rear), 'r');
            is("the loaded one stays", x.loaded(0, 0), front);
            x.order(0, 1, 0);
            x.tick(5);
            is("the empty one follows", x.loaded(0, 0), rear);
            is("a part was put", x.at(1, 0, 'r'), front);
        });
        sentence("both are empty", () -> {
            Feederbank x = line();
            x.load(0, 0, x.reel(0, 0, 0, 1));
            x.load(0, 1, x.reel(0, 0, 0, 1));
            x.order(0, 2, 0);
            x.tick(10);
            is("none left", x.parts(1) + x.parts(2), 0);
            x.load(0, 1, 0);
            is("none and none", x.splice(1, 2), 0);
            is("in its place at once", x.loaded(0, 0), 2);
        });
        sentence("a loaded one that mending empties", () -> {
            Feederbank x = bench();
            x.reel(0, 0, 0, 1);
            x.reel(0, 0, 0, 1);
            x.load(0, 0, 1);
            x.splice(1, 2);
            is("by its last part", x.mend(0, 0, 1), 'r');
            is("the other one is in its place", x.loaded(0, 0), 2);
        });
        sentence("of one board, the last part of the first reel and the first one of the other", () -> {
            Feederbank x = line(1, 100, 300, 3);
            x.reel(0, 0, 0, 1);
            x.reel(0, 0, 0, 2);
            x.load(0, 0, 1);
            x.splice(1, 2);
            x.order(0, 1, 0);
            x.tick(5);
            is("reels", x.at(0, 0, 'r') * 100 + x.at(0, 1, 'r') * 10 + x.at(0, 2, 'r'), 122);
            is("the last one is empty", x.parts(2), 0);
            is("and stays", x.loaded(0, 0), 2);
        });
    }

    private static void machines() {
        sentence("each with 6 slots: the last one serves", () -> {
            Feederbank x = line();
            x.reel(0, 0, 0, 9);
            x.load(0, 5, 1);
            x.setAside(0);
            x.order(0, 1, 0);
            x.tick(5);
            is("from the slot 5", x.at(0, 0, 'r'), 1);
        });
        sentence("from the needed sort in the lowest slot", () -> {
            Feederbank x = line();
            for (int i = 1; i < 6; i++) {
                x.reel(0, 0, 0, 9);
                x.load(0, 6 - i, i);
            }
            x.order(0, 2, 0);
            x.tick(5);
            is("slot 0", x.at(0, 0, 'r'), 0);
            x.setAside(0);
            x.tick(3);
            is("slot 1 has reel 5", x.at(1, 0, 'r'), 5);
        });
        sentence("otherwise from an alternate, those told earlier first, in the lowest slot", () -> {
            Feederbank x = line();
            x.sort(1, 1, 2, 100, 300, 0);
            x.sort(1, 1, 2, 100, 300, 0);
            for (int i = 1; i <= 4; i++) {
                x.reel(i < 3 ? 1 : 2, 0, 0, 9);
                x.load(0, 5 - i, i);
            }
            x.alternate(0, 0, 1, 0);
            x.alternate(0, 0, 2, 0);
            x.order(0, 4, 0);
            x.tick(5);
            is("the needed one", x.at(0, 0, 'r'), 0);
            x.setAside(0);
            x.tick(3);
            is("told first, slot 3", x.at(1, 0, 'r'), 2);
            x.setAside(2);
            x.tick(3);
            is("told first, slot 4", x.at(2, 0, 'r'), 1);
            x.setAside(1);
            x.tick(3);
            is("told last, slot 1", x.at(3, 0, 'r'), 4);
        });
        sentence("it has a nozzle of its size: each of the three bits", () -> {
            for (int size = 1; size <= 3; size++) {
                for (int bits = 1; bits <= 7; bits++) {
                    Feederbank x = new Feederbank();
                    x.sort(size, 1, 2, 100, 300, 0);
                    x.product();
                    x.place(0, 0, 0, 0, 0);
                    x.machine(bits);
                    x.load(0, 0, x.reel(0, 0, 0, 9));
                    x.order(0, 1, 0);
                    x.tick(1);
                    is("size " + size + " by " + bits, x.stateOf(0), (bits & 1 << size - 1) != 0 ? 'l' : 'w');
                }
            }
        });
        sentence("no machine serves anything, with none there", () -> {
            Feederbank x = new Feederbank();
            x.sort(1, 1, 2, 100, 300, 0);
            x.product();
            x.place(0, 0, 0, 0, 0);
            x.reel(0, 0, 0, 9);
            x.order(0, 1, 0);
            x.tick(9);
            is("it waits", x.stationOf(0), -1);
            is("the printer is starved", x.idle(0, false), 9);
            is("three stations", x.idle(1, false) + x.idle(2, false), 18);
        });
        sentence("the fewest of this board and side, of several the lowest one: 12 places of 3 machines", () -> {
            Feederbank x = line(1, 100, 300, 12);
            x.machine(7);
            x.machine(7);
            for (int i = 1; i < 3; i++) {
                x.load(i, 0, x.reel(0, 0, 0, 50));
            }
            x.order(0, 2, 0);
            x.tick(4);
            for (int i = 0; i < 12; i++) {
                is("place " + i, x.at(0, i, 'd'), i % 3);
                is("place " + i + " of the next board", x.at(1, i, 'd'), i % 3);
            }
        });
        sentence("it can be begun if some machine serves each place: all but one, and that one too", () -> {
            Feederbank x = line(1, 100, 300, 2);
            x.sort(2, 1, 2, 100, 300, 0);
            x.place(0, 9, 9, 0, 1);
            x.order(0, 1, 0);
            x.tick(2);
            is("all but one", x.stateOf(0), 'w');
            x.load(0, 1, x.reel(1, 1, 0, 1));
            x.tick(1);
            is("that one too", x.stateOf(0), 'l');
        });
    }

    private static void belts() {
        sentence("ahead of the printer boards wait in a row without end", () -> {
            Feederbank x = line();
            x.limit(true, 0);
            for (int i = 0; i < 4; i++) {
                x.order(0, 9, 0);
            }
            x.order(0, 4, 0);
            is("all 40", x.waiting(0), 40);
            x.tick(1);
            is("39", x.waiting(0), 39);
            ticks(x, 260);
            is("all are through", x.tick(1), 40);
        });
        sentence("a belt for 2 boards: one has room, two are full, and the station is blocked, once more each tick", () -> {
            // At the speed 1 the oven needs 13 ticks: it takes 0 in the tick 8, and 1 in the tick 21.
            Feederbank x = line();
            x.speed(1);
            x.order(0, 9, 0);
            x.tick(12);
            is("1 waits ahead of the oven", x.waiting(2), 1);
            x.tick(1);
            is("2 too", x.waiting(2), 2);
            x.tick(2);
            is("3 is placed still", x.stationOf(3) * 10 + x.idle(1, true), 10);
            x.tick(1);
            is("blocked", x.idle(1, true), 1);
            x.tick(4);
            is("in each tick", x.idle(1, true), 5);
            x.tick(1);
            is("there is room again", x.idle(1, true), 5);
            is("1 is in the oven", x.stationOf(1), 2);
            is("3 waits behind 2", x.stationOf(3) * 10 + x.waiting(2), -28);
            is("4 is placed", x.stationOf(4), 1);
            x.tick(12);
            is("the machine is blocked from 16 to 20 and from 23 to 33", x.idle(1, true), 16);
            is("the printer from 25 to 33", x.idle(0, true), 9);
            is("7 is in the printer", x.stationOf(7), 0);
            is("nothing starves it", x.idle(0, false), 0);
            x.tick(1);
            is("all go on", x.idle(1, true) * 100 + x.idle(0, true), 1609);
            is("7 waits", x.stationOf(7), -2);
            is("the oven is not blocked", x.idle(2, true), 0);
        });
        sentence("if there is none, it is starved, once more", () -> {
            Feederbank x = line();
            x.speed(1);
            x.order(0, 9, 0);
            x.tick(7);
            is("the oven till 7", x.idle(2, false), 7);
            x.tick(1);
            is("not in 8", x.idle(2, false), 7);
            x.tick(13);
            is("the eye till 21", x.idle(3, false), 21);
            x.tick(2);
            is("not in 22 and 23", x.idle(3, false), 21);
            x.tick(1);
            is("in 24", x.idle(3, false), 22);
        });
        sentence("or it cannot be begun, it is starved, once more", () -> {
            Feederbank x = line();
            x.setAside(0);
            x.order(0, 1, 0);
            x.tick(5);
            is("starved", x.idle(0, false), 5);
            x.load(0, 0, x.reel(0, 0, 0, 9));
            x.tick(1);
            is("not starved", x.idle(0, false), 5);
        });
        sentence("it takes the first board alone: one behind it that could be begun waits", () -> {
            Feederbank x = line();
            x.sort(1, 1, 2, 100, 300, 0);
            x.product();
            x.place(1, 0, 0, 0, 1);
            x.order(1, 1, 0);
            x.order(0, 1, 0);
            x.tick(5);
            is("both wait", x.waiting(0), 2);
        });
        sentence("the first tick of it is the next tick: 3, 2, 5 and 2 ticks", () -> {
            int[] gone = {4, 7, 13, 16};
            for (int i = 0; i < 4; i++) {
                Feederbank x = line();
                x.order(0, 1, 0);
                x.tick(gone[i] - 1);
                is("still there", x.stationOf(0), i);
                x.tick(1);
                is("gone on", x.stateOf(0) == 'r' ? -5 : x.stationOf(0), i == 3 ? -5 : -2 - i);
            }
        });
        sentence("a board is taken in the same tick in which the last one goes on", () -> {
            Feederbank x = line();
            x.order(0, 2, 0);
            x.tick(3);
            is("0 is in the printer", x.stationOf(0) * 10 + x.stationOf(1), -1);
            x.tick(1);
            is("1 is", x.stationOf(0) * 10 + x.stationOf(1), -20);
        });
    }

    private static void stencils() {
        sentence("the ticks divided by 10, cut, at most 5", () -> {
            int[][] told = {{0, 0}, {9, 0}, {10, 1}, {19, 1}, {20, 2}, {49, 4}, {50, 5}, {59, 5}, {60, 5}, {600, 5}};
            for (int[] t : told) {
                Feederbank x = line();
                ticks(x, t[0]);
                is("dryness behind " + t[0], x.wipe(0), t[1]);
                is("wiped", x.wipe(0), 0);
                Feederbank y = line();
                ticks(y, t[0]);
                y.order(0, 1, 0);
                y.tick(1);
                is("volume behind " + t[0], y.at(0, 0, 'v'), 150 - 8 * t[1]);
            }
        });
        sentence("since it was printed last", () -> {
            Feederbank x = line();
            x.tick(30);
            x.order(0, 1, 0);
            x.tick(10);
            is("printed in the tick 31, by 9 ticks", x.wipe(0), 1);
            Feederbank y = line();
            y.tick(30);
            y.order(0, 1, 0);
            y.tick(9);
            is("by 9 ticks", y.wipe(0), 0);
        });
        sentence("since it was wiped last", () -> {
            Feederbank x = line();
            x.tick(30);
            x.wipe(0);
            x.tick(9);
            is("by 9 ticks", x.wipe(0), 0);
            x.tick(10);
            is("by 10 ticks", x.wipe(0), 1);
        });
        sentence("since the product was told", () -> {
            Feederbank x = line();
            x.tick(5);
            x.product();
            x.tick(9);
            is("by 14 ticks", x.wipe(0), 1);
            is("by 9 ticks", x.wipe(1), 0);
        });
        sentence("for both sides", () -> {
            Feederbank x = line();
            x.place(0, 0, 0, 1, 0);
            x.order(0, 1, 0);
            x.tick(16);
            is("both sides were begun", x.wear(0), 2);
        });
        sentence("the volume, at least 0", () -> {
            // A dry stencil is washed, and each wear of it too, from the tick 11 on each three ticks.
            Feederbank x = line();
            x.limit(false, 100);
            x.tick(10);
            x.order(0, 1, 0);
            ticks(x, 448);
            is("wear 149", x.at(0, 0, 'v'), 1);
            x.tick(3);
            is("wear 150", x.at(0, 0, 'v'), 0);
            x.tick(3);
            is("wear 151", x.at(0, 0, 'v'), 0);
            is("wear", x.wear(0), 152);
            is("washes", x.washes(), 151);
            x.limit(false, 1);
            x.tick(3);
            is("0 is below one hundredth", x.washes(), 152);
            x.limit(false, 0);
            x.tick(3);
            is("0 is not below 0", x.washes(), 152);
            is("it goes on", x.stationOf(0), -2);
        });
        sentence("below the limit of paste in hundredths: just at it, and above", () -> {
            // 200 - 40 is 80 hundredths of 200, 250 - 40 is 84 of 250, and 110 is 73 and 1 / 3 of 150.
            int[][] told = {{2, 80, 0}, {2, 81, 1}, {3, 84, 0}, {3, 85, 1}, {1, 73, 0}, {1, 74, 1}, {1, 0, 0}, {1, 100, 1}};
            for (int[] t : told) {
                Feederbank x = line(t[0], 100, 300, 1);
                x.tick(50);
                x.limit(false, t[1]);
                x.order(0, 1, 0);
                x.tick(4);
                is("size " + t[0] + " at " + t[1], x.washes(), t[2]);
            }
        });
        sentence("a volume of all of it is not below 100 hundredths", () -> {
            Feederbank x = line();
            x.limit(false, 100);
            x.order(0, 1, 0);
            x.tick(4);
            is("washes", x.washes(), 0);
        });
        sentence("60 at first: 90 of 150 goes on, 89 is washed", () -> {
            for (int boards = 20; boards <= 21; boards++) {
                Feederbank x = line();
                wear(x, boards);
                x.order(0, 1, 0);
                x.tick(1);
                is("volume", x.at(boards, 0, 'v'), 110 - boards);
                x.tick(3);
                is("washes of " + boards, x.washes(), boards - 20);
            }
        });
        sentence("the limit of paste by then, as it would go on", () -> {
            Feederbank x = line();
            x.tick(50);
            x.limit(false, 100);
            x.order(0, 1, 0);
            x.tick(3);
            x.limit(false, 73);
            x.tick(1);
            is("not washed", x.washes(), 0);
            Feederbank y = line();
            y.tick(50);
            y.order(0, 1, 0);
            y.tick(3);
            y.limit(false, 74);
            y.tick(1);
            is("washed", y.washes(), 1);
        });
        sentence("the stencil is wiped, which makes the dryness 0, from the tick of washing on", () -> {
            Feederbank x = line();
            x.tick(50);
            x.limit(false, 74);
            x.order(0, 1, 0);
            x.tick(1);
            x.setAside(0);
            x.tick(3);
            is("washed, and not begun again", x.washes() * 100 - x.stationOf(0), 101);
            x.tick(8);
            is("12 ticks since it was printed, 9 since it was wiped", x.wipe(0), 0);
        });
        sentence("it goes back to the end of the row, and is taken at once if it is alone there", () -> {
            Feederbank x = line();
            x.tick(50);
            x.limit(false, 74);
            x.order(0, 3, 0);
            x.tick(4);
            is("1 is taken", x.stationOf(1), 0);
            x.tick(3);
            is("2 is taken", x.stationOf(2), 0);
            x.tick(3);
            is("0 is taken last", x.stationOf(0), 0);
            Feederbank y = line();
            y.tick(50);
            y.limit(false, 74);
            y.order(0, 1, 0);
            y.tick(4);
            is("washed and taken", y.stationOf(0) * 10 + y.washes(), 1);
            is("printed anew", y.at(0, 0, 'v'), 149);
        });
        sentence("one place of several below the limit", () -> {
            // 110 of 150 is below 74 hundredths, 160 of 200 is not.
            Feederbank x = line(2, 100, 300, 2);
            x.sort(1, 1, 2, 100, 300, 0);
            x.place(0, 9, 9, 0, 1);
            x.load(0, 1, x.reel(1, 1, 0, 99));
            x.tick(50);
            x.limit(false, 74);
            x.order(0, 1, 0);
            x.tick(4);
            is("washed", x.washes(), 1);
        });
        sentence("of the side: a place of the other side is not looked at", () -> {
            Feederbank x = line(2, 100, 300, 1);
            x.sort(1, 1, 2, 100, 300, 0);
            x.place(0, 9, 9, 1, 1);
            x.load(0, 1, x.reel(1, 1, 0, 99));
            x.tick(50);
            x.limit(false, 74);
            x.order(0, 1, 0);
            x.tick(20);
            is("not washed", x.washes(), 0);
            is("the other side is printed", x.at(0, 1, 'v') > 0, true);
        });
    }

    private static void placing() {
        sentence("1 tick, 1 more for the place, and the way to it divided by 8, cut", () -> {
            int[][] told = {{0, 0, 2}, {7, 0, 2}, {0, 8, 3}, {8, 7, 3}, {8, 8, 4}, {19, 4, 4}, {19, 5, 5}, {19, 12, 5}, {19, 13, 6}, {19, 19, 6}};
            for (int[] t : told) {
                Feederbank x = new Feederbank();
                x.sort(1, 1, 2, 100, 300, 0);
                x.product();
                x.place(0, t[0], t[1], 0, 0);
                x.machine(7);
                x.load(0, 0, x.reel(0, 0, 0, 9));
                x.order(0, 1, 0);
                x.tick(4 + t[2]);
                is("placed still at " + t[0] + ", " + t[1], x.stationOf(0), 1);
                x.tick(1);
                is("placed at " + t[0] + ", " + t[1], x.stationOf(0), -3);
            }
        });
        sentence("each way is cut for itself, from the place ahead", () -> {
            // Ways 7, 7 and 7: 1 + 3 ticks, not 2 more for 21.
            Feederbank x = line(1, 100, 300, 0);
            x.place(0, 7, 0, 0, 0);
            x.place(0, 14, 0, 0, 0);
            x.place(0, 14, 7, 0, 0);
            x.order(0, 1, 0);
            x.tick(8);
            is("placed still", x.stationOf(0), 1);
            x.tick(1);
            is("placed", x.stationOf(0), -3);
        });
        sentence("ways of y alone are cut for themselves, too", () -> {
            // Ways 9 and 9: 1 + 2 ticks, and 1 more for each.
            Feederbank x = line(1, 100, 300, 0);
            x.place(0, 0, 9, 0, 0);
            x.place(0, 0, 18, 0, 0);
            x.order(0, 1, 0);
            x.tick(9);
            is("placed still", x.stationOf(0), 1);
            x.tick(1);
            is("placed", x.stationOf(0), -3);
        });
        sentence("a machine without places of the board needs 1 tick", () -> {
            Feederbank x = line();
            x.machine(7);
            x.order(0, 1, 0);
            x.tick(7);
            is("in the second machine", x.stationOf(0), -3);
            x.tick(1);
            is("in the second machine", x.stationOf(0), 2);
            x.tick(1);
            is("behind it", x.stationOf(0), -4);
        });
        sentence("a place that it does not serve by then is missing, and needs its ticks", () -> {
            Feederbank x = line(1, 100, 300, 12);
            x.order(0, 1, 0);
            x.tick(4);
            x.setAside(0);
            x.tick(13);
            is("1 + 12 ticks and no way of 8", x.stationOf(0), 1);
            x.tick(1);
            is("placed", x.stationOf(0), -3);
            is("no part", x.at(0, 11, 'r'), -1);
            is("no try", x.seed(1), 1);
        });
        sentence("by rising heights; those alike by the nearest first; of like ones by rising places", () -> {
            // Each reel has one part, so that the order of the reels tells that of the places.
            Feederbank x = new Feederbank();
            x.sort(1, 9, 2, 100, 300, 0);
            x.sort(1, 8, 2, 100, 300, 0);
            x.product();
            x.place(0, 0, 0, 0, 0);
            x.place(0, 3, 1, 0, 1);
            x.place(0, 1, 3, 0, 1);
            x.place(0, 2, 1, 0, 1);
            x.machine(7);
            x.alternate(0, 1, 0, 0);
            for (int i = 0; i < 4; i++) {
                x.load(0, i, x.reel(0, 0, 0, 1));
            }
            x.order(0, 1, 0);
            x.tick(5);
            is("from 0, 0 the place 3, by 3", x.at(0, 3, 'r'), 0);
            is("from there the place 1, by 1", x.at(0, 1, 'r'), 1);
            is("then the place 2", x.at(0, 2, 'r'), 2);
            is("the highest last, as near as it is", x.at(0, 0, 'r'), 3);
            Feederbank y = line(1, 100, 300, 0);
            y.place(0, 0, 5, 0, 0);
            y.place(0, 5, 0, 0, 0);
            y.load(0, 0, y.reel(0, 0, 0, 1));
            y.load(0, 1, y.reel(0, 0, 0, 1));
            y.order(0, 1, 0);
            y.tick(5);
            is("of like ones the lower place", y.at(0, 0, 'r') * 10 + y.at(0, 1, 'r'), 12);
        });
        sentence("z times 48271 modulo 2147483647, without going round", () -> {
            Feederbank x = line();
            x.seed(2147483646);
            x.order(0, 1, 0);
            x.tick(5);
            is("of the greatest z", x.seed(1), 2147483647 - 48271);
            Feederbank y = line();
            y.order(0, 1, 0);
            y.tick(4);
            is("no try as it is printed", y.seed(1), 1);
            y.tick(1);
            is("of the least z", y.seed(1), 48271);
            Feederbank z = line();
            z.seed(44488);
            z.order(0, 1, 0);
            z.tick(5);
            is("2147480248 is below the modulus", z.seed(44489), 2147480248);
            z.order(0, 1, 0);
            z.tick(20);
            is("2147528519 is not", z.seed(1), 44872);
        });
        sentence("if it can be divided by 40, the part is lost, and another one is taken, at most 3 tries", () -> {
            for (int lost = 0; lost <= 3; lost++) {
                Feederbank x = line();
                x.seed(losing(lost));
                x.order(0, 1, 0);
                x.tick(5);
                is("lost", x.lost(), lost);
                is("taken", 200 - x.parts(0), lost < 3 ? lost + 1 : 3);
                is("put", x.at(0, 0, 'r'), lost < 3 ? 0 : -1);
                is("sound", x.isSound(), true);
            }
        });
        sentence("three tries are those of one place: the next place has its own", () -> {
            Feederbank x = line(1, 100, 300, 2);
            x.seed(losing(3));
            x.order(0, 1, 0);
            x.tick(5);
            is("the first is missing", x.at(0, 0, 'r'), -1);
            is("the second is not", x.at(0, 1, 'r'), 0);
            is("lost", x.lost(), 3);
        });
        sentence("a lost one is the last of a reel: another one is taken from the next", () -> {
            Feederbank x = line();
            x.load(0, 0, x.reel(0, 0, 0, 1));
            x.load(0, 1, x.reel(0, 0, 0, 1));
            x.seed(losing(1));
            x.order(0, 1, 0);
            x.tick(5);
            is("from the next", x.at(0, 0, 'r'), 2);
            is("both are empty", x.parts(1) + x.parts(2), 0);
        });
    }

    private static int bits(float heat) {
        return Float.floatToIntBits(heat);
    }

    /** The heat behind the zones 20, 20 and 400 of a board with two parts of these masses. */
    private static Feederbank heated(int speed, int mass, int other) {
        Feederbank x = new Feederbank();
        x.sort(1, 1, mass, 100, 300, 0);
        x.sort(1, 1, other, 100, 300, 0);
        x.product();
        x.place(0, 0, 0, 0, 0);
        x.place(0, 1, 0, 0, 1);
        x.machine(7);
        x.load(0, 0, x.reel(0, 0, 0, 9));
        x.load(0, 1, x.reel(1, 1, 0, 9));
        x.speed(speed);
        x.zone(0, 20);
        x.zone(1, 20);
        x.zone(2, 400);
        x.order(0, 1, 0);
        x.tick(12);
        return x;
    }

    private static void oven() {
        sentence("12 ticks divided by the speed, cut, and 1", () -> {
            int[] ticks = {13, 7, 5, 4, 3, 3, 2, 2, 2};
            for (int i = 0; i < 9; i++) {
                Feederbank x = line();
                x.speed(i + 1);
                x.order(0, 1, 0);
                x.tick(7 + ticks[i]);
                is("in the oven at the speed " + (i + 1), x.stationOf(0), 2);
                x.tick(1);
                is("behind it", x.stationOf(0), -4);
            }
        });
        sentence("a share of at most 1: a sum of 90, 91, and less", () -> {
            is("10 + 20 + 10 and 50", heated(5, 20, 10).heatBits(0, 0), bits(400f));
            is("10 + 20 + 1 and 60", heated(6, 20, 1).heatBits(0, 0), bits(20f + 380f * (90f / 91f)));
            is("10 + 18 + 1 and 60", heated(6, 18, 1).heatBits(0, 0), bits(400f));
            is("10 + 1 + 1 and 10", heated(1, 1, 1).heatBits(0, 0), bits(400f));
            is("10 + 20 + 20 and 90", heated(9, 20, 20).heatBits(0, 0), bits(20f + 380f * (90f / 140f)));
        });
        sentence("the greatest heat, that of the beginning too", () -> {
            Feederbank x = line();
            for (int i = 0; i < 3; i++) {
                x.zone(i, 20);
            }
            x.order(0, 1, 0);
            x.tick(8);
            is("20 all along", x.heatBits(0, 0), bits(20f));
        });
        sentence("the greatest heat is that of any zone: the first, the last", () -> {
            for (int i = 0; i < 3; i++) {
                Feederbank x = line();
                for (int j = 0; j < 3; j++) {
                    x.zone(j, i == j ? 400 : 20);
                }
                x.order(0, 1, 0);
                x.tick(8);
                is("zone " + i, x.heatBits(0, 0), bits(400f));
            }
        });
        sentence("the mass of a board without parts is 10", () -> {
            Feederbank x = line();
            x.speed(9);
            x.zone(0, 20);
            x.zone(1, 20);
            x.order(0, 1, 0);
            x.tick(4);
            x.setAside(0);
            x.tick(4);
            is("no part", x.at(0, 0, 'r') * 10 + x.at(0, 0, 'h'), -10);
            is("heat", x.heatBits(0, 0), bits(20f + 230f * (90f / 100f)));
        });
        sentence("sorts of parts by reels as they say, of both sides", () -> {
            Feederbank x = new Feederbank();
            x.sort(1, 1, 20, 100, 300, 0);
            x.sort(1, 1, 1, 100, 300, 0);
            x.product();
            x.place(0, 0, 0, 0, 0);
            x.place(0, 0, 0, 1, 1);
            x.machine(7);
            x.load(0, 0, x.reel(0, 1, 0, 9));
            x.load(0, 1, x.reel(1, 0, 0, 9));
            x.speed(9);
            x.zone(0, 20);
            x.zone(1, 20);
            x.zone(2, 120);
            x.order(0, 1, 0);
            x.tick(40);
            is("10 and 20", x.heatBits(0, 0), bits(20f + 100f * (90f / 120f)));
            is("10, 20 and 1", x.heatBits(0, 1), bits(20f + 100f * (90f / 121f)));
            is("two heats", x.at(0, 0, 'h'), 2);
            is("one heat", x.at(0, 1, 'h'), 1);
        });
        sentence("the heats are those of the zones as the board was there", () -> {
            Feederbank x = ready();
            x.zone(0, 400);
            x.zone(1, 400);
            x.zone(2, 400);
            x.speed(9);
            is("kept", x.heatBits(0, 0), bits(250f));
            is("sound", x.isSound(), true);
        });
    }

    private static char faultOf(int low, int high) {
        Feederbank x = line(1, low, high, 1);
        x.order(0, 1, 0);
        x.tick(8);
        return x.fault(0, 0);
    }

    private static void faults() {
        sentence("'b' the heat is above the highest one: just at it, and above", () -> {
            is("250 at 250", faultOf(100, 250), '-');
            is("250 at 249", faultOf(100, 249), 'b');
            is("250 at 100", faultOf(100, 100), 'b');
        });
        sentence("'c' below the lowest one: just at it, and below", () -> {
            is("250 at 250", faultOf(250, 300), '-');
            is("250 at 251", faultOf(251, 300), 'c');
            is("250 at 300", faultOf(300, 300), 'c');
            is("250 at 250 and 250", faultOf(250, 250), '-');
        });
        sentence("a heat a little above and a little below", () -> {
            // The sum of 12 + 90 makes the share 90 / 102: the zones 20, 20, 270 make 240.588...
            int[][] told = {{100, 240, 'b'}, {100, 241, '-'}, {240, 300, '-'}, {241, 300, 'c'}};
            for (int[] t : told) {
                Feederbank x = line(1, t[0], t[1], 1);
                x.speed(9);
                x.zone(0, 20);
                x.zone(1, 20);
                x.zone(2, 270);
                x.order(0, 1, 0);
                x.tick(8);
                is("heat", x.heatBits(0, 0), bits(20f + 250f * (90f / 102f)));
                is("fault of " + t[0] + " to " + t[1], x.fault(0, 0), (char) t[2]);
            }
        });
        sentence("'p' the volume was below 70 hundredths: 140 of 200, and 139", () -> {
            for (int boards = 20; boards <= 21; boards++) {
                Feederbank x = line(2, 100, 300, 1);
                wear(x, boards);
                x.order(0, 1, 0);
                x.tick(8);
                is("volume", x.at(boards, 0, 'v'), 160 - boards);
                is("fault", x.fault(boards, 0), boards == 20 ? '-' : 'p');
            }
        });
        sentence("the first of these faults: 'm' ahead of all", () -> {
            Feederbank x = line(1, 100, 100, 1);
            wear(x, 6);
            x.order(0, 1, 0);
            x.tick(4);
            x.setAside(0);
            x.tick(4);
            is("missing", x.fault(6, 0), 'm');
            is("volume", x.at(6, 0, 'v'), 104);
        });
        sentence("the first of these faults: 'w' ahead of 'b', 'c' and 'p'", () -> {
            for (int low = 100; low <= 300; low += 200) {
                Feederbank x = line(1, low, low, 1);
                x.sort(1, 1, 2, 100, 300, 0);
                x.limit(true, 0);
                wear(x, 6);
                x.load(0, 0, x.reel(0, 1, 0, 9));
                x.order(0, 1, 0);
                x.tick(8);
                is("volume", x.at(6, 0, 'v'), 104);
                is("wrong", x.fault(6, 0), 'w');
            }
        });
        sentence("the first of these faults: 'b' and 'c' ahead of 'p'", () -> {
            for (int low = 100; low <= 300; low += 200) {
                Feederbank x = line(1, low, low, 1);
                wear(x, 6);
                x.order(0, 1, 0);
                x.tick(8);
                is("volume", x.at(6, 0, 'v'), 104);
                is("heat", x.fault(6, 0), low == 100 ? 'b' : 'c');
            }
        });
        sentence("a part that was mended has no fault but 'w'", () -> {
            Feederbank x = line(1, 100, 100, 1);
            x.sort(1, 1, 2, 100, 300, 0);
            wear(x, 6);
            is("too hot", x.fault(0, 0), 'b');
            is("mended", x.mend(0, 0, 0), 'r');
            is("no fault", x.fault(0, 0), '-');
            is("mended by a lie", x.mend(1, 0, x.reel(0, 1, 0, 9)), 'r');
            is("wrong", x.fault(1, 0), 'w');
        });
    }

    private static char stateBehindEye(int low, int high) {
        Feederbank x = line(1, low, high, 1);
        x.order(0, 1, 0);
        x.tick(16);
        return x.stateOf(0);
    }

    private static void eye() {
        sentence("one with 'c', if the heat is below the lowest one by 10 or more", () -> {
            is("by 10", stateBehindEye(260, 300), 'b');
            is("by 11", stateBehindEye(261, 300), 'b');
            is("by 9", stateBehindEye(259, 300), 'r');
            is("by 1", stateBehindEye(251, 300), 'r');
            is("by 50", stateBehindEye(300, 300), 'b');
        });
        sentence("by a little less than 10, and a little more", () -> {
            // The heat is 240.588...
            for (int low = 250; low <= 251; low++) {
                Feederbank x = line(1, low, 300, 1);
                x.speed(9);
                x.zone(0, 20);
                x.zone(1, 20);
                x.zone(2, 270);
                x.order(0, 1, 0);
                x.tick(16);
                is("lowest " + low, x.stateOf(0), low == 250 ? 'r' : 'b');
            }
        });
        sentence("a place with 'b' by however little", () -> {
            is("by 1", stateBehindEye(100, 249), 'b');
            is("by 0", stateBehindEye(100, 250), 'r');
        });
        sentence("a place with 'm'", () -> {
            Feederbank x = line();
            x.seed(losing(3));
            x.order(0, 1, 0);
            x.tick(16);
            is("called", x.at(0, 0, 'c'), 1);
        });
        sentence("one with 'w', if the real sort has another size or height, or the needed sort is learned", () -> {
            int[][] told = {{1, 1, 0}, {2, 1, 1}, {3, 1, 1}, {1, 2, 1}, {1, 9, 1}};
            for (int[] t : told) {
                Feederbank x = lying(t[0], t[1], 1);
                x.order(0, 1, 0);
                x.tick(16);
                is("size " + t[0] + ", height " + t[1], x.at(0, 0, 'c'), t[2]);
                is("suspicions", x.suspicions(0), t[2]);
            }
        });
        sentence("to learn a sort is so as it is approved, not as it is asked for", () -> {
            for (int i = 0; i < 4; i++) {
                Feederbank x = lying(1, 1, 1);
                x.learn(i / 2);
                if (i % 2 == 1) {
                    x.approve(i / 2);
                }
                x.order(0, 1, 0);
                x.tick(16);
                is("sort " + i / 2 + (i % 2 == 1 ? " approved" : " asked for"), x.at(0, 0, 'c'), i == 1 ? 1 : 0);
            }
        });
        sentence("a volume below the limit of the eye: just at it, and below", () -> {
            int[][] told = {{2, 80, 0}, {2, 81, 1}, {3, 84, 0}, {3, 85, 1}, {1, 73, 0}, {1, 74, 1}, {1, 0, 0}, {1, 100, 1}};
            for (int[] t : told) {
                Feederbank x = line(t[0], 100, 300, 1);
                x.tick(50);
                x.limit(true, t[1]);
                x.order(0, 1, 0);
                x.tick(16);
                is("size " + t[0] + " at " + t[1], x.at(0, 0, 'c'), t[2]);
                is("it has no fault", x.fault(0, 0), '-');
            }
        });
        sentence("75 at first: 150 of 200 is not called, 149 is", () -> {
            for (int boards = 10; boards <= 11; boards++) {
                Feederbank x = line(2, 100, 300, 1);
                wear(x, boards);
                x.order(0, 1, 0);
                x.tick(16);
                is("volume", x.at(boards, 0, 'v'), 160 - boards);
                is("called", x.at(boards, 0, 'c'), boards - 10);
            }
        });
        sentence("whatever fault it has: one with 'c' by less than 10, or 'w' that looks alike, is called by its volume", () -> {
            Feederbank x = line(1, 251, 300, 1);
            x.tick(50);
            x.limit(true, 74);
            x.order(0, 1, 0);
            x.tick(16);
            is("'c'", x.fault(0, 0), 'c');
            is("called", x.at(0, 0, 'c'), 1);
            Feederbank y = lying(1, 1, 1);
            y.tick(50);
            y.limit(true, 74);
            y.order(0, 1, 0);
            y.tick(16);
            is("'w'", y.fault(0, 0), 'w');
            is("called", y.at(0, 0, 'c'), 1);
            is("not for 'w'", y.suspicions(0), 0);
        });
        sentence("as it begins a board, and it needs 2 ticks", () -> {
            Feederbank x = line(1, 100, 249, 1);
            x.order(0, 1, 0);
            x.tick(13);
            is("ahead of it", x.at(0, 0, 'c'), 0);
            x.tick(1);
            is("as it begins", x.at(0, 0, 'c'), 1);
            x.limit(true, 0);
            x.tick(1);
            is("in the eye", x.stationOf(0), 3);
            x.tick(1);
            is("at the bench", x.stateOf(0), 'b');
        });
        sentence("the places of the side alone", () -> {
            Feederbank x = line(1, 100, 249, 1);
            x.place(0, 0, 0, 1, 0);
            x.order(0, 1, 0);
            x.tick(16);
            is("side 0", x.at(0, 0, 'c') * 10 + x.at(0, 1, 'c'), 10);
            x.judge(0, 0);
            x.tick(16);
            is("side 1", x.at(0, 0, 'c') * 10 + x.at(0, 1, 'c'), 1);
        });
    }

    private static void benches() {
        sentence("with more than 4 heats there the board is scrap: 4 are borne", () -> {
            Feederbank x = bench();
            for (int i = 1; i <= 3; i++) {
                x.reel(0, 0, 0, 9);
                is("mended", x.mend(0, 0, i), 'r');
                is("heats", x.at(0, 0, 'h'), 1 + i);
                x.setAside(i);
            }
            is("the fifth heat", x.mend(0, 0, 0), 's');
            is("heats", x.at(0, 0, 'h'), 5);
            is("state", x.stateOf(0), 's');
            is("the part is there", x.at(0, 0, 'r'), 0);
            is("called no more", x.at(0, 0, 'c'), 0);
            is("sound", x.isSound(), true);
        });
        sentence("1 heat without a part there", () -> {
            Feederbank x = line();
            x.seed(losing(3));
            x.order(0, 1, 0);
            x.tick(16);
            is("none", x.at(0, 0, 'h'), 0);
            x.mend(0, 0, 0);
            is("one", x.at(0, 0, 'h'), 1);
        });
        sentence("the heats of two ovens count too", () -> {
            Feederbank x = line(1, 100, 249, 1);
            x.place(0, 0, 0, 1, 0);
            x.order(0, 1, 0);
            x.tick(16);
            is("to the other side", x.mend(0, 0, 0), 'w');
            x.tick(16);
            is("one, mended, and one", x.at(0, 0, 'h'), 3);
            x.mend(0, 1, 0);
            x.cover(0, 1);
            x.setAside(0);
            is("both are called", x.at(0, 0, 'c') + x.at(0, 1, 'c'), 2);
            x.reel(0, 0, 0, 9);
            x.reel(0, 0, 0, 9);
            is("four", x.mend(0, 0, 1), 'b');
            is("three", x.mend(0, 1, 1), 'r');
            x.setAside(1);
            is("five", x.mend(0, 0, 2), 's');
            is("the other one stays called", x.at(0, 1, 'c'), 1);
        });
        sentence("a board without called places goes on: all but one, and that one", () -> {
            Feederbank x = line(1, 100, 249, 3);
            x.order(0, 1, 0);
            x.tick(18);
            is("all are called", x.at(0, 0, 'c') + x.at(0, 1, 'c') + x.at(0, 2, 'c'), 3);
            is("mended", x.mend(0, 2, 0), 'b');
            is("judged", x.judge(0, 0), false);
            is("at the bench", x.stateOf(0), 'b');
            is("the last one", x.mend(0, 1, 0), 'r');
        });
        sentence("it is a false call if it has no fault", () -> {
            Feederbank x = line();
            x.tick(50);
            x.limit(true, 74);
            x.order(0, 1, 0);
            x.tick(16);
            is("no fault", x.judge(0, 0), true);
            is("one", x.falseCalls(), 1);
            is("a fault", bench().judge(0, 0), false);
        });
        sentence("the last part of a reel mends, loaded or not", () -> {
            Feederbank x = bench();
            is("not loaded", x.mend(0, 0, x.reel(0, 0, 0, 1)), 'r');
            is("empty", x.parts(1), 0);
            is("not fit", x.isFit(1), false);
        });
    }

    private static void needles() {
        sentence("places that there are not are of no meaning", () -> {
            Feederbank x = bench();
            x.judge(0, 0);
            x.cover(0, 4094);
            is("not the only one", x.test(0), 'u');
            is("causes", x.causes(0), 1);
            x.cover(0, 4095);
            is("all", x.test(0), 'f');
        });
        sentence("the last of 12 places", () -> {
            Feederbank x = line(1, 100, 200, 12);
            x.order(0, 1, 0);
            x.tick(40);
            for (int i = 0; i < 12; i++) {
                is("judged", x.judge(0, i), false);
            }
            is("none is covered", x.test(0), 'u');
            is("causes", x.causes(0), 4095);
            x.cover(0, 2048);
            is("the last one is", x.test(0), 'f');
            is("called", x.at(0, 11, 'c') * 10 + x.at(0, 10, 'c'), 10);
        });
        sentence("without any fault found, it works if it has no fault at all", () -> {
            Feederbank x = ready();
            is("none covered", x.test(0), 'g');
            x.cover(0, 1);
            is("all covered", x.test(0), 'g');
            is("it can leave", x.leave(0), 1);
        });
        sentence("one that is 'u' stays ready, and has no cause if all are covered without a fault", () -> {
            Feederbank x = line(1, 100, 200, 2);
            x.order(0, 1, 0);
            x.tick(20);
            x.judge(0, 0);
            x.mend(0, 1, 0);
            x.cover(0, 2);
            is("unknown", x.test(0), 'u');
            is("ready", x.stateOf(0), 'r');
            is("the place that is not covered", x.causes(0), 1);
        });
        sentence("one that was 'g' and is 'u' or 'f' as it was tested last can't leave", () -> {
            Feederbank x = bench();
            x.judge(0, 0);
            is("unknown", x.test(0), 'u');
            refuses(UNSUPPORTED, x, y -> y.leave(0));
            x.cover(0, 1);
            is("found", x.test(0), 'f');
            refuses(UNSUPPORTED, x, y -> y.leave(0));
            x.mend(0, 0, 0);
            is("good", x.test(0), 'g');
            is("good again", x.test(0), 'g');
            is("left", x.leave(0), 1);
        });
    }

    private static void lies() {
        sentence("boards that have not left and have a part of it are held", () -> {
            Feederbank x = line();
            x.order(0, 4, 0);
            x.tick(22);
            x.test(0);
            x.leave(0);
            is("of left, ready, and two in the line", "" + x.stateOf(0) + x.stateOf(1) + x.stateOf(2) + x.stateOf(3), "xrll");
            is("three of them", x.setAside(0), 3);
            is("left", x.isHeld(0), false);
            is("ready", x.isHeld(1), true);
            is("in the line", x.isHeld(2), true);
            is("to the bench", x.stateOf(1), 'b');
        });
        sentence("one without a part of it yet is not held", () -> {
            Feederbank x = line();
            x.order(0, 2, 0);
            x.tick(4);
            is("waiting for its parts", x.setAside(0), 0);
            is("not held", x.isHeld(0), false);
        });
        sentence("scrap has not left", () -> {
            Feederbank x = scrap();
            is("held by its last part", x.setAside(0), 1);
            is("held", x.isHeld(0), true);
            is("it stays scrap", x.stateOf(0), 's');
        });
        sentence("each time, until they are mended", () -> {
            Feederbank x = ready();
            x.setAside(0);
            for (int i = 0; i < 5; i++) {
                is("judged", x.judge(0, 0), true);
                is("called again", x.at(0, 0, 'c'), 1);
                is("at the bench", x.stateOf(0), 'b');
            }
            is("false calls", x.falseCalls(), 5);
            x.reel(0, 0, 0, 1);
            is("mended", x.mend(0, 0, 1), 'r');
        });
        sentence("a part that is mended is of no reel before", () -> {
            Feederbank x = bench();
            x.reel(0, 0, 9, 1);
            x.mend(0, 0, 1);
            is("the old one", x.setAside(0), 0);
            is("the new one", x.setAside(1), 1);
        });
        sentence("a recall of all boards that left, the first and the last one of 40", () -> {
            Feederbank x = line();
            x.limit(true, 0);
            x.limit(false, 0);
            for (int i = 0; i < 4; i++) {
                x.order(0, 9, 0);
            }
            x.order(0, 4, 0);
            ticks(x, 400);
            is("none left", x.recall(0, false), 0);
            int gone = 0;
            for (int i = 0; i < 40; i++) {
                if (x.test(i) == 'g') {
                    x.leave(i);
                    gone++;
                }
            }
            is("of the reel", x.recall(0, false), gone);
            is("of the lot", x.recall(5, true), gone);
            is("the first", x.recalled(0, false, 0), 0);
            int last = gone - 1;
            is("the last", x.stateOf(x.recalled(5, true, last)), 'x');
            refuses(NO_ELEMENT, x, y -> y.recalled(5, true, last + 1));
        });
    }

    private static void numbers() {
        sentence("behind its due tick: just at it, and behind", () -> {
            Feederbank x = line();
            x.order(0, 1, 20);
            x.tick(20);
            is("not gone at it", x.late(0), 0);
            x.tick(1);
            is("not gone behind it", x.late(0), 1);
            Feederbank y = line();
            y.order(0, 2, 40);
            y.tick(40);
            y.test(0);
            y.leave(0);
            y.tick(1);
            y.test(1);
            y.leave(1);
            is("one left at it, one behind it", y.late(0), 1);
            y.tick(200);
            is("it stays so", y.late(0), 1);
        });
        sentence("due in the tick 0: late as a tick went by", () -> {
            Feederbank x = line();
            x.order(0, 9, 0);
            is("at it", x.late(0), 0);
            x.tick(1);
            is("all nine", x.late(0), 9);
        });
        sentence("due in the tick 99999: late in the tick 100000", () -> {
            Feederbank x = line();
            x.order(0, 1, 99999);
            ticks(x, 99999);
            is("now", x.now(), 99999);
            is("not late", x.late(0), 0);
            x.tick(1);
            is("late", x.late(0), 1);
        });
        sentence("scrap ones too", () -> {
            Feederbank x = scrap();
            is("order of the tick 0", x.late(0), 1);
        });
        sentence("less those of fit reels, at least 0", () -> {
            Feederbank x = line(1, 100, 300, 5);
            is("200 for 200", x.shortage(0, 40, 0), 0);
            x.sort(1, 1, 1, 100, 300, 0);
            is("none needed", x.shortage(0, 40, 1), 0);
            Feederbank y = line(1, 100, 300, 6);
            is("240 for 200", y.shortage(0, 40, 0), 40);
            is("198 for 200", y.shortage(0, 33, 0), 0);
            is("204 for 200", y.shortage(0, 34, 0), 4);
            y.setAside(0);
            is("none fit", y.shortage(0, 40, 0), 240);
        });
        sentence("of a product without places, nothing is short", () -> {
            Feederbank x = line();
            x.product();
            is("shortage", x.shortage(1, 40, 0), 0);
        });
        sentence("with the next serial numbers, the last of them 79", () -> {
            Feederbank x = line();
            x.sort(1, 1, 1, 100, 300, 0);
            x.change(0, 0, 1, 79);
            for (int i = 0; i < 4; i++) {
                x.order(0, 9, 0);
            }
            x.order(0, 4, 0);
            is("40 to 78", x.shortage(0, 39, 1), 0);
            is("40 to 79", x.shortage(0, 40, 1), 1);
        });
        sentence("ready or left in all", () -> {
            Feederbank x = line();
            x.order(0, 3, 0);
            is("one is ready", x.tick(20), 1);
            is("two are ready", x.tick(1), 2);
            x.test(0);
            x.leave(0);
            is("one left, two are ready", x.tick(5), 3);
            x.test(1);
            x.leave(1);
            is("two left, one is ready", x.tick(1), 3);
            is("neither scrap", scrap().tick(1), 0);
            is("nor at the bench", bench().tick(1), 0);
        });
        sentence("the share of boards that left: none, one of three, all", () -> {
            Feederbank x = line();
            x.order(0, 3, 0);
            x.tick(60);
            is("none", x.leftShare(), 0f);
            for (int i = 0; i < 3; i++) {
                x.test(i);
                x.leave(i);
                is("left", x.leftShare(), (i + 1f) / 3f);
            }
        });
        sentence("the mean of all sides that were in the oven", () -> {
            Feederbank x = line();
            x.place(0, 0, 0, 1, 0);
            x.order(0, 2, 0);
            x.tick(20);
            is("one side of both", x.meanHeat(), 250.0);
            x.zone(2, 300);
            x.tick(40);
            is("then two sides of both", x.meanHeat(), 275.0);
        });
        sentence("a checksum of 40 boards with 12 places goes round in 64 bits", () -> {
            Feederbank x = line(1, 100, 300, 12);
            for (int i = 0; i < 4; i++) {
                x.order(0, 9, 0);
            }
            x.order(0, 4, 0);
            x.tick(30);
            long sum = 7;
            for (int i = 0; i < 40; i++) {
                sum = sum * 31 + x.stateOf(i);
                for (int j = 0; j < 12; j++) {
                    sum = sum * 31 + x.at(i, j, 'r') + 1;
                }
            }
            is("checksum", x.checksum(), sum);
        });
    }

    /** As much as there is room for, in all but 512 calls. */
    private static void all() {
        sentence("all that there is room for, in 512 calls", () -> {
            Feederbank x = new Feederbank();
            int calls = fill(x);
            is("boards", x.waiting(0), 40);
            for (; calls < 500; calls++) {
                if (calls % 5 == 0) {
                    x.tick(200);
                } else if (x.stateOf(calls % 40) == 'r' && x.test(calls % 40) == 'g') {
                    x.leave(calls % 40);
                }
            }
            is("sound", x.isSound(), true);
            is("ticks went by", x.now() > 5000, true);
        });
    }

    private static void full() {
        sentence("8 alternates, of which none stands for what is needed", () -> {
            Feederbank x = lying(1, 1, 0);
            for (int i = 0; i < 8; i++) {
                x.alternate(0, 1, 0, i);
            }
            x.setAside(0);
            x.order(0, 1, 0);
            x.tick(5);
            is("it waits", x.stateOf(0), 'w');
            Feederbank y = bench();
            y.sort(1, 1, 2, 100, 300, 0);
            for (int i = 0; i < 8; i++) {
                y.alternate(0, 1, 0, 0);
            }
            y.reel(1, 1, 0, 9);
            refuses(UNSUPPORTED, y, z -> z.mend(0, 0, 1));
        });
        sentence("the last of 8 changes and of 8 alternates counts", () -> {
            Feederbank x = lying(1, 1, 0);
            x.sort(1, 1, 2, 100, 300, 0);
            for (int i = 0; i < 7; i++) {
                x.alternate(0, 1, 2, 0);
                x.change(0, 0, 2, 50 + i);
            }
            x.change(0, 0, 1, 0);
            is("the change", x.needed(0, 0, 0), 1);
            x.alternate(0, 1, 0, 0);
            x.order(0, 1, 0);
            x.tick(5);
            is("the alternate", x.at(0, 0, 'r'), 0);
        });
        sentence("40 boards of 12 places, 20 reels and 3 machines answer all that is asked", () -> {
            Feederbank x = new Feederbank();
            fill(x);
            for (int i = 0; i < 10; i++) {
                x.tick(200);
            }
            is("sound", x.isSound(), true);
            is("all sides are heated", x.meanHeat() > 20.0, true);
            is("none left", x.leftShare(), 0f);
            is("none needed of the sort 9", x.shortage(0, 40, 9), 0);
            is("no reel of the lot 99", x.recall(99, true), 0);
            is("no part of the reel 17", x.recall(17, false), 0);
            is("the last place", x.at(39, 11, 'h') > 0, true);
            is("late ones", x.late(0), 4);
        });
        sentence("a board that left with 12 parts, none of which is asked for", () -> {
            Feederbank x = line(1, 100, 300, 12);
            x.reel(0, 0, 6, 9);
            x.order(0, 1, 0);
            x.tick(60);
            x.test(0);
            is("left", x.leave(0), 1);
            is("another reel", x.recall(1, false), 0);
            is("another lot", x.recall(6, true), 0);
            is("its own", x.recall(5, true), 1);
        });
        sentence("40 boards are held by one reel, and none by another", () -> {
            Feederbank x = line(1, 100, 249, 1);
            x.reel(0, 0, 0, 9);
            for (int i = 0; i < 4; i++) {
                x.order(0, 9, 0);
            }
            x.order(0, 4, 0);
            ticks(x, 200);
            is("all", x.setAside(0), 40);
            is("none", x.setAside(1), 0);
            is("the last one", x.isHeld(39), true);
        });
    }

    private static int fill(Feederbank x) {
        for (int i = 0; i < 10; i++) {
            x.sort(1 + i % 3, 1 + i % 9, 1 + i, 100, 300, i == 9 ? 999 : 0);
        }
        for (int i = 0; i < 3; i++) {
            x.product();
            for (int j = 0; j < 12; j++) {
                x.place(i, j, 19 - j, j % 2, j % 6);
            }
            x.machine(7);
        }
        for (int i = 0; i < 20; i++) {
            x.reel(i % 6, i % 6, i, 200);
            if (i < 18) {
                x.load(i / 6, i % 6, i);
            }
        }
        x.splice(0, 18);
        x.splice(1, 19);
        for (int i = 0; i < 8; i++) {
            x.change(i % 3, i, (i + 3) % 6, 20);
            x.alternate(i % 3, i % 6, (i + 3) % 6, i);
        }
        for (int i = 0; i < 10; i++) {
            x.order(i % 3, 4, 1000 * i);
        }
        return 10 + 42 + 38 + 2 + 16 + 10;
    }

    public static void main(String[] args) {
        lists();
        lives();
        splices();
        machines();
        belts();
        stencils();
        placing();
        oven();
        faults();
        eye();
        benches();
        needles();
        lies();
        numbers();
        full();
        all();
        System.exit(end("EdgeTests"));
    }
}
