/** The edges that the promises 1 to 18 name: the machine's making, and what a peer does and shows. */
final class PeerEdges extends Checks {
    private PeerEdges() {
    }

    static void hold(Sentences document) {
        holdNewObject(document);
        holdOperations(document);
        holdInstructions(document);
        holdBegin(document);
        holdPress(document);
        holdAdvance(document);
        holdCounts(document);
        holdCellAndTile(document);
        holdSums(document);
        holdSounds(document);
        holdStrangers(document);
    }

    private static void holdNewObject(Sentences document) {
        document.hold(1, "Creates a machine without instructions, which nobody plays", () -> {
            Lagless x = new Lagless();
            fails("nobody plays", INDEX, () -> x.frameOf(0));
            fails("no packet", INDEX, () -> x.inputsIn(0));
            fails("no packet", INDEX, () -> x.deliver(0));
            fails("no change", UNSUPPORTED, () -> x.agree(0, 0, 0));
            fails("no sum", NO_SUCH, () -> x.wholly(0));
            fails("no share", ARITHMETIC, x::againShare);
            is("sound", x.isSound(), true);
            machine(ADDING).begin(3, 0, 1, 0);
            fails("nobody plays it by another one's game", INDEX, () -> x.frameOf(0));
            is("no instructions, of another one neither", x.begin(1, 0, 1, 0), 0);
        });
    }

    private static void accepts(char op, int a, int b) {
        Lagless x = new Lagless();
        is("'" + op + "' " + a + " " + b, x.addInstruction(1, op, a, b), 1);
    }

    private static void refuses(char op, int a, int b) {
        Lagless x = new Lagless();
        fails("'" + op + "' " + a + " " + b, ARGUMENT, () -> x.addInstruction(1, op, a, b));
        is("nothing was added", x.begin(1, 0, 1, 0), 0);
    }

    private static void refusesBeside(char op, int mostA, int leastB, int mostB) {
        for (int a : new int[] {-1, mostA + 1, Integer.MIN_VALUE, Integer.MAX_VALUE}) {
            refuses(op, a, leastB);
        }
        for (int b : new int[] {leastB - 1, mostB + 1, Integer.MIN_VALUE, Integer.MAX_VALUE}) {
            refuses(op, 0, b);
        }
    }

    private static void holdOperations(Sentences document) {
        document.hold(2, "`op`: what it does", () -> {
            String all = "=:+-*/<ir[]jzbsw";
            for (char op = 0; op < 300; op++) {
                if (all.indexOf(op) >= 0) {
                    accepts(op, 1, 1);
                } else {
                    refuses(op, 1, 1);
                }
            }
            refuses(Character.MAX_VALUE, 1, 1);
            // Signs whose low byte is that of an op are none.
            refuses((char) (256 + 'w'), 1, 1);
        });
        document.hold(2, "`a`: its first number", () -> {
            for (char op : "=:+-*/<ir[]zs".toCharArray()) {
                accepts(op, 0, 1);
                accepts(op, 15, 1);
            }
            accepts('j', 0, 1);
            accepts('j', 19, 1);
            accepts('b', 0, 1);
            accepts('b', 2, 1);
        });
        document.hold(2, "`b`: its second number; numbers that an instruction does not name have no meaning", () -> {
            for (char op : ":+-*/<[]".toCharArray()) {
                accepts(op, 1, 0);
                accepts(op, 1, 15);
            }
            accepts('=', 1, 0);
            accepts('=', 1, 255);
            accepts('i', 1, 0);
            accepts('i', 1, 2);
            accepts('r', 1, 1);
            accepts('r', 1, 256);
            accepts('z', 1, 0);
            accepts('z', 1, 19);
            for (char op : "jbs".toCharArray()) {
                accepts(op, 1, Integer.MIN_VALUE);
                accepts(op, 1, -1);
                accepts(op, 1, Integer.MAX_VALUE);
            }
            accepts('w', Integer.MIN_VALUE, Integer.MAX_VALUE);
            accepts('w', -1, 16);
        });
        document.hold(2, "if there is no such op, or a cell is not from 0 to 15, a number of '=' from 0 to 255", () -> {
            for (char op : ":+-*/<[]".toCharArray()) {
                refusesBeside(op, 15, 0, 15);
            }
            refusesBeside('=', 15, 0, 255);
        });
        document.hold(2, "a peer from 0 to 2, a number of 'r' from 1 to 256, a place from 0 to 19, or a bank from 0 to 2",
                () -> {
                    refusesBeside('i', 15, 0, 2);
                    refusesBeside('r', 15, 1, 256);
                    refusesBeside('z', 15, 0, 19);
                    for (int a : new int[] {-1, Integer.MIN_VALUE, Integer.MAX_VALUE}) {
                        for (char op : "jbs".toCharArray()) {
                            refuses(op, a, 0);
                        }
                    }
                    refuses('j', 20, 0);
                    refuses('b', 3, 0);
                    refuses('s', 16, 0);
                });
    }

    private static void holdInstructions(Sentences document) {
        document.hold(2, "Adds an instruction to a bank", () -> {
            Lagless x = machine("b 2 0");
            program(x, 1, "= 0 1");
            program(x, 2, "= 0 2");
            x.begin(1, 0, 1, 0);
            run(x, 0, 0);
            is("to this one, to no other", x.cell(0, 0), 2);
        });
        document.hold(2, "`bank`: the bank, 0 to 2", () -> {
            for (int bank = 0; bank <= 2; bank++) {
                is("bank " + bank, new Lagless().addInstruction(bank, 'w', 0, 0), 1);
            }
        });
        document.hold(2, "Returns the number of instructions of the bank", () -> {
            Lagless x = new Lagless();
            for (int n = 1; n <= 20; n++) {
                is("of the bank 0", x.addInstruction(0, 'w', 0, 0), n);
            }
            is("of the bank 2", x.addInstruction(2, 'w', 0, 0), 1);
            is("of the bank 1", x.addInstruction(1, 'w', 0, 0), 1);
            is("of the bank 2 again", x.addInstruction(2, 'w', 0, 0), 2);
        });
        document.hold(2, "Throws `IndexOutOfBoundsException` if there is no such bank", () -> {
            Lagless x = new Lagless();
            for (int bank : new int[] {-1, 3, Integer.MIN_VALUE, Integer.MAX_VALUE}) {
                fails("bank " + bank, INDEX, () -> x.addInstruction(bank, 'w', 0, 0));
            }
            is("nothing was added", x.begin(1, 0, 1, 0), 0);
        });
        document.hold(2, "Throws `IllegalStateException` if the bank has 20 instructions, or the game has begun", () -> {
            Lagless x = new Lagless();
            for (int n = 0; n < 20; n++) {
                x.addInstruction(1, 'w', 0, 0);
            }
            fails("full", STATE, () -> x.addInstruction(1, 'w', 0, 0));
            is("another bank", x.addInstruction(2, 'w', 0, 0), 1);
            fails("a game that could not begin", ARGUMENT, () -> x.begin(0, 0, 1, 0));
            is("still not begun", x.addInstruction(0, 'w', 0, 0), 1);
            is("nothing more was added", x.begin(1, 0, 1, 0), 22);
            fails("begun", STATE, () -> x.addInstruction(0, 'w', 0, 0));
            fails("begun, and full", STATE, () -> x.addInstruction(1, 'w', 0, 0));
            is("nothing more was added", x.begin(1, 0, 1, 0), 22);
            fails("begun again", STATE, () -> x.addInstruction(2, 'w', 0, 0));
        });
    }

    private static void refusesToBegin(int peers, int delay, int bound, int seed) {
        Lagless x = machine(ADDING);
        fails("begin", ARGUMENT, () -> x.begin(peers, delay, bound, seed));
        fails("nobody plays", INDEX, () -> x.frameOf(0));
    }

    private static void holdBegin(Sentences document) {
        document.hold(3, "Lets the game begin, in place of one that has", PeerEdges::beginsInPlaceOfOne);
        document.hold(3, "`peers`: the number of peers, 1 to 3", () -> {
            for (int peers = 1; peers <= 3; peers++) {
                Lagless x = begun(peers, 0, 1, ADDING);
                int beside = peers;
                is("the last one of " + peers, x.frameOf(peers - 1), 0);
                fails("one more than " + peers, INDEX, () -> x.frameOf(beside));
            }
            for (int peers : new int[] {0, 4, -1, Integer.MIN_VALUE, Integer.MAX_VALUE}) {
                refusesToBegin(peers, 0, 1, 0);
            }
        });
        document.hold(3, "`delay`: the delay of inputs, 0 to 4", () -> {
            is("0", begun(1, 0, 1).known(0, 0), 0);
            is("4", begun(1, 4, 1).known(0, 0), 4);
            for (int delay : new int[] {-1, 5, Integer.MIN_VALUE, Integer.MAX_VALUE}) {
                refusesToBegin(1, delay, 1, 0);
            }
        });
        document.hold(3, "`bound`: the bound, 1 to 10", () -> {
            for (int bound : new int[] {1, 10}) {
                Lagless x = begun(2, 0, bound);
                for (int n = 0; n < bound; n++) {
                    is("below " + bound, x.advance(0), true);
                }
                is("at " + bound, x.advance(0), false);
            }
            for (int bound : new int[] {0, 11, -1, Integer.MIN_VALUE, Integer.MAX_VALUE}) {
                refusesToBegin(1, 0, bound, 0);
            }
        });
        document.hold(3, "`seed`: the seed, 0 to 65536", () -> {
            Lagless x = machine("r 0 256");
            x.begin(1, 0, 1, 0);
            run(x, 0, 0);
            is("0", x.cell(0, 0), 74);
            x.begin(1, 0, 1, 65536);
            is("65536", x.sumBehind(0, 0), sum(cells(), 0, 0, 65536, 0));
            for (int seed : new int[] {-1, 65537, Integer.MIN_VALUE, Integer.MAX_VALUE}) {
                refusesToBegin(1, 0, 1, seed);
            }
        });
        document.hold(3, "Returns how many instructions there are", () -> {
            Lagless x = new Lagless();
            is("none", x.begin(3, 4, 10, 65536), 0);
            Lagless y = machine("w 0 0", "w 0 0");
            program(y, 2, "w 0 0");
            is("of all banks", y.begin(1, 0, 1, 0), 3);
            is("again", y.begin(2, 0, 1, 0), 3);
        });
        document.hold(3, "Throws `IllegalArgumentException` if a number is out of range", () -> {
            Lagless x = begun(2, 1, 2, ADDING);
            run(x, 0, 5, 5);
            fails("one wrong number in a game", ARGUMENT, () -> x.begin(3, 4, 11, 0));
            fails("all wrong", ARGUMENT, () -> x.begin(4, 5, 11, 65537));
            is("the game goes on", x.frameOf(0), 2);
            is("by its delay", x.known(0, 0), 3);
            fails("with its peers", INDEX, () -> x.frameOf(2));
            run(x, 0, 5);
            is("by its bound", x.advance(0), false);
        });
    }

    private static void beginsInPlaceOfOne() {
        Lagless x = begun(2, 0, 3, ADDING);
        run(x, 0, 4, 4);
        run(x, 1, 5);
        x.poke(0, 9, 9);
        x.poke(1, 8, 8);
        pass(x, 1, 0);
        pass(x, 0, 1);
        x.agree(7, 0, 1);
        for (int n = 0; n < 4; n++) {
            x.advance(0);
        }
        is("it stalled", x.stalls(0), 2);
        is("it went back", x.meanBack(0), 2.0);
        x.leave(1);
        x.begin(3, 4, 10, 0);
        is("sound", x.isSound(), true);
        for (int n = 0; n < 3; n++) {
            int peer = n;
            is("frameOf", x.frameOf(peer), 0);
            is("sure", x.sure(peer), 0);
            is("runs", x.runs(peer), 0);
            is("stalls", x.stalls(peer), 0);
            is("goneBack", x.goneBack(peer), 0);
            is("guesses", x.guesses(peer), 0);
            is("played", x.played(peer), 0);
            is("cut", x.cut(peer), 0);
            is("known", x.known(0, peer), 4);
            is("press", x.press(peer, 0), 0);
            is("the first state", x.sumBehind(peer, 0), sum(cells(), 0, 0, 0, 0));
            fails("apart", NO_SUCH, () -> x.apart(peer));
            fails("meanBack", ARITHMETIC, () -> x.meanBack(peer));
            fails("sound", INDEX, () -> x.sound(peer, 0));
        }
        fails("againShare", ARITHMETIC, x::againShare);
        fails("no packets", INDEX, () -> x.inputsIn(0));
        is("the first packet", x.send(1, 2), 0);
        is("without what was told", x.inputsIn(0), 0);
        is("the first change", x.agree(0, 0, 7), 1);
        is("nobody has left", x.leave(0), 2);
        x.begin(1, 0, 1, 0);
        run(x, 0, 3);
        is("no change is left", x.cell(0, 0), 3);
        is("the input of none", x.cell(0, 1), 0);
        run(x, 0, 9, 9, 9);
        x.begin(2, 4, 10, 0);
        run(x, 0, 0, 0, 0, 0);
        is("the inputs ahead of the delay are 0 again", x.cell(0, 2), 0);
        x.begin(2, 0, 10, 0);
        run(x, 0, 0);
        run(x, 1, 5);
        pass(x, 1, 0);
        is("one frame back", x.meanBack(0), 1.0);
        is("two inputs", x.wholly(1), sum(cells(0, 5, 0, 5), 0, 0, 0, 0));
        x.begin(1, 0, 10, 0);
        run(x, 0, 3);
        is("one input", x.wholly(1), sum(cells(3, 0, 3), 0, 0, 0, 0));
    }

    private static void holdPress(Sentences document) {
        document.hold(4, "Tells what a peer presses from now on, 0 at first", () -> {
            Lagless x = begun(2, 0, 10, ADDING);
            x.advance(0);
            is("0 at first", x.cell(0, 0), 0);
            x.press(0, 6);
            is("not in what was run", x.cell(0, 0), 0);
            x.advance(0);
            x.advance(0);
            is("from now on", x.cell(0, 2), 12);
            x.advance(1);
            is("not of the other one", x.cell(1, 1), 0);
        });
        document.hold(4, "`input`: the input, 0 to 15", () -> {
            Lagless x = begun(1, 0, 1, ADDING);
            for (int input = 0; input <= 15; input++) {
                run(x, 0, input);
                is("as it was pressed", x.cell(0, 0), input);
            }
        });
        document.hold(4, "Returns what it pressed before", () -> {
            Lagless x = begun(2, 0, 10, ADDING);
            is("at first", x.press(0, 15), 0);
            is("then", x.press(0, 15), 15);
            is("of the other one", x.press(1, 3), 0);
            x.advance(0);
            is("behind a frame", x.press(0, 0), 15);
            is("at last", x.press(0, 1), 0);
        });
        document.hold(4, "Throws `IllegalArgumentException` if there is no such input", () -> {
            Lagless x = begun(1, 0, 1, ADDING);
            x.press(0, 7);
            for (int input : new int[] {-1, 16, Integer.MIN_VALUE, Integer.MAX_VALUE}) {
                fails("input " + input, ARGUMENT, () -> x.press(0, input));
            }
            is("nothing changed", x.press(0, 7), 7);
        });
        document.hold(4, "Throws `UnsupportedOperationException` if it has left", () -> {
            Lagless x = begun(2, 0, 10, ADDING);
            x.leave(0);
            fails("left", UNSUPPORTED, () -> x.press(0, 7));
            is("the other one", x.press(1, 7), 0);
        });
    }

    private static void holdAdvance(Sentences document) {
        document.hold(5, "Lets a peer advance by a frame", () -> {
            Lagless x = begun(2, 0, 10, ADDING);
            x.advance(1);
            is("this one", x.frameOf(1), 1);
            is("not the other one", x.frameOf(0), 0);
        });
        document.hold(5, "Returns whether it did, and did not stall", () -> {
            Lagless x = begun(2, 0, 1, ADDING);
            is("it did", x.advance(0), true);
            is("it stalled", x.advance(0), false);
            is("it stalled again", x.advance(0), false);
            x.leave(1);
            is("nothing is unsure any more", x.advance(0), true);
        });
        document.hold(5, "Throws `UnsupportedOperationException` if it has left", () -> {
            Lagless x = begun(2, 0, 1, ADDING);
            x.advance(0);
            x.leave(0);
            fails("left, at the bound", UNSUPPORTED, () -> x.advance(0));
            is("that is no stall", x.stalls(0), 0);
        });
        document.hold(5, "Throws `IllegalStateException` if it has run 120 frames", () -> {
            Lagless x = begun(2, 4, 10);
            for (int n = 0; n < 120; n++) {
                is("advance", x.advance(0), true);
                is("advance", x.advance(1), true);
                if (n % 5 == 0) {
                    pass(x, 0, 1);
                }
                if (n % 5 == 0 && n <= 105) {
                    pass(x, 1, 0);
                }
            }
            is("one is at the bound", x.sure(0), 110);
            is("one has all sure", x.sure(1), 120);
            fails("120 frames, at the bound", STATE, () -> x.advance(0));
            fails("120 frames, all sure", STATE, () -> x.advance(1));
            is("that is no stall", x.stalls(0), 0);
            is("nothing was run", x.runs(0), 120);
        });
    }

    private static void holdCounts(Sentences document) {
        document.hold(6, "Returns the frame at which a peer is", () -> {
            Lagless x = begun(2, 0, 2, ADDING);
            is("at first", x.frameOf(0), 0);
            run(x, 0, 0, 0);
            x.advance(0);
            is("not by a stall", x.frameOf(0), 2);
        });
        document.hold(6, "Returns the number of frames that it has run", () -> {
            Lagless x = begun(2, 0, 2, ADDING);
            run(x, 0, 0, 0);
            run(x, 1, 7);
            pass(x, 1, 0);
            is("those that are run again count once", x.frameOf(0), 2);
        });
        document.hold(7, "Returns the number of sure frames of a peer", () -> {
            Lagless x = begun(2, 0, 10, ADDING);
            run(x, 1, 1, 1, 1);
            pass(x, 1, 0);
            is("none is run", x.sure(0), 0);
            run(x, 0, 0, 0);
            is("all that are run", x.sure(0), 2);
            run(x, 0, 0, 0);
            is("three are known", x.sure(0), 3);
        });
        document.hold(7, "Returns the number of frames.", () -> {
            Lagless x = begun(1, 4, 1);
            for (int n = 0; n < 120; n++) {
                is("all", x.sure(0), n);
                x.advance(0);
            }
            is("no more than 120", x.sure(0), 120);
        });
        document.hold(8, "for which a peer knows the inputs of another one, or its own", () -> {
            Lagless x = begun(2, 0, 10, ADDING);
            run(x, 0, 1, 1, 1);
            is("its own", x.known(0, 0), 3);
            is("not yet by the other one", x.known(1, 0), 0);
            pass(x, 0, 1);
            is("by the other one", x.known(1, 0), 3);
        });
        document.hold(8, "Returns the number of frames, from 0 on; 999 for one that has left", () -> {
            Lagless x = begun(3, 0, 10, ADDING);
            is("from 0 on", x.known(0, 1), 0);
            run(x, 1, 2);
            x.leave(1);
            is("one that has left", x.known(0, 1), 999);
            is("one that has left, by itself", x.known(1, 1), 999);
            is("one that is there, by one that has left", x.known(1, 0), 0);
            is("one that is there", x.known(2, 0), 0);
            Lagless end = begun(1, 4, 1);
            for (int n = 0; n < 120; n++) {
                end.advance(0);
            }
            is("at the end, with those ahead by the delay", end.known(0, 0), 124);
        });
        document.hold(12, "Returns how often a peer has gone back", () -> {
            Lagless x = begun(2, 0, 10, ADDING);
            run(x, 0, 0, 0);
            is("never", x.goneBack(0), 0);
            run(x, 1, 5);
            pass(x, 1, 0);
            is("once", x.goneBack(0), 1);
            is("not the other one", x.goneBack(1), 0);
        });
        document.hold(12, "Returns the number of times.", () -> {
            Lagless x = begun(2, 0, 10, ADDING);
            run(x, 0, 0, 0, 0, 0);
            for (int n = 1; n <= 4; n++) {
                run(x, 1, n);
                pass(x, 1, 0);
                is("each time", x.goneBack(0), n);
            }
        });
        holdCountsOfRuns(document);
    }

    private static void holdCountsOfRuns(Sentences document) {
        document.hold(13, "those that it ran again each time", () -> {
            Lagless x = begun(2, 0, 10, ADDING);
            run(x, 0, 0, 0, 0);
            is("once each", x.runs(0), 3);
            run(x, 1, 5);
            pass(x, 1, 0);
            is("three again", x.runs(0), 6);
            run(x, 1, 6);
            pass(x, 1, 0);
            is("two again", x.runs(0), 8);
        });
        document.hold(13, "Returns the number of frames.", () -> {
            Lagless x = begun(2, 0, 1, ADDING);
            is("none", x.runs(0), 0);
            run(x, 0, 0);
            x.advance(0);
            is("not by a stall", x.runs(0), 1);
            run(x, 1, 0);
            pass(x, 1, 0);
            x.again(0);
            x.fork(0, 0, 0, 1);
            x.wholly(1);
            is("not by playing again", x.runs(0), 1);
        });
        document.hold(14, "Returns how often a peer has stalled", () -> {
            Lagless x = begun(2, 0, 1, ADDING);
            is("never", x.stalls(0), 0);
            run(x, 0, 0);
            is("not as it advances", x.stalls(0), 0);
            x.advance(0);
            is("once", x.stalls(0), 1);
            is("not the other one", x.stalls(1), 0);
        });
        document.hold(14, "Returns the number of times.", () -> {
            Lagless x = begun(2, 0, 1, ADDING);
            run(x, 0, 0);
            for (int n = 1; n <= 5; n++) {
                x.advance(0);
                is("each time", x.stalls(0), n);
            }
        });
        document.hold(15, "how many of the inputs with which a peer has run its frames are guesses now", () -> {
            Lagless x = begun(3, 0, 10, ADDING);
            is("none", x.guesses(0), 0);
            for (int n = 1; n <= 10; n++) {
                run(x, 0, 0);
                is("two in each frame", x.guesses(0), 2 * n);
            }
            run(x, 1, 0, 0, 0);
            pass(x, 1, 0);
            is("a right guess is none any more", x.guesses(0), 17);
            run(x, 2, 7);
            pass(x, 2, 0);
            is("a wrong one neither", x.guesses(0), 16);
            x.leave(1);
            is("of one that has left there are none", x.guesses(0), 9);
        });
        document.hold(15, "Returns the number of inputs.", () -> {
            Lagless x = begun(2, 0, 10, ADDING);
            run(x, 1, 0, 0, 0);
            pass(x, 1, 0);
            run(x, 0, 0, 0);
            is("more are known than were run", x.guesses(0), 0);
            run(x, 0, 0, 0);
            is("one is not", x.guesses(0), 1);
        });
    }

    private static void holdCellAndTile(Sentences document) {
        document.hold(9, "Returns a cell of a peer's present state", () -> {
            Lagless x = begun(2, 0, 10, ADDING);
            run(x, 0, 3);
            is("behind a frame", x.cell(0, 2), 3);
            is("of the other one", x.cell(1, 2), 0);
            x.poke(0, 2, 200);
            is("as it was poked", x.cell(0, 2), 200);
        });
        document.hold(9, "`cell`: the cell", () -> {
            Lagless x = begun(1, 0, 1, "= 0 11", "= 15 12");
            run(x, 0, 0);
            is("the first", x.cell(0, 0), 11);
            is("the last", x.cell(0, 15), 12);
        });
        document.hold(9, "Returns its number", () -> {
            Lagless x = begun(1, 0, 1, "= 0 255");
            is("0", x.cell(0, 0), 0);
            run(x, 0, 0);
            is("255", x.cell(0, 0), 255);
        });
        document.hold(9, "Throws `IllegalArgumentException` if there is no such cell", () -> {
            Lagless x = begun(1, 0, 1, ADDING);
            for (int cell : new int[] {-1, 16, Integer.MIN_VALUE, Integer.MAX_VALUE}) {
                fails("cell " + cell, ARGUMENT, () -> x.cell(0, cell));
            }
        });
        document.hold(10, "the cell whose number is (x plus the cell 15) modulo 12, plus y, modulo 8", () -> {
            Lagless x = begun(1, 0, 1);
            for (int cell = 0; cell < 12; cell++) {
                x.poke(0, cell, 3 * cell);
            }
            for (int scroll : new int[] {0, 1, 11, 12, 13, 255}) {
                x.poke(0, 15, scroll);
                for (int n = 0; n < 12 * 8; n++) {
                    int column = (n % 12 + scroll) % 12;
                    is("scrolled by " + scroll, x.tile(0, n % 12, n / 12), (3 * column + n / 12) % 8);
                }
            }
            is("round from 266 to the column 2", x.tile(0, 11, 7), 5);
        });
        document.hold(10, "`x`: the column, 0 to 11", () -> {
            Lagless x = begun(1, 0, 1, "= 0 1", "= 11 2", "= 12 5");
            run(x, 0, 0);
            is("the first", x.tile(0, 0, 0), 1);
            is("the last", x.tile(0, 11, 0), 2);
            x.poke(0, 15, 1);
            is("behind the last comes the first", x.tile(0, 11, 0), 1);
        });
        document.hold(10, "`y`: the row, 0 to 7", () -> {
            Lagless x = begun(1, 0, 1);
            for (int y = 0; y < 8; y++) {
                is("row " + y, x.tile(0, 0, y), y);
            }
        });
        document.hold(10, "Returns the tile", () -> {
            Lagless x = begun(1, 0, 1, "= 0 255");
            run(x, 0, 0);
            is("255", x.tile(0, 0, 0), 7);
            is("256", x.tile(0, 0, 1), 0);
            is("262", x.tile(0, 0, 7), 6);
        });
        document.hold(10, "Throws `IllegalArgumentException` if there is no such column or row", () -> {
            Lagless x = begun(1, 0, 1, ADDING);
            for (int column : new int[] {-1, 12, Integer.MIN_VALUE, Integer.MAX_VALUE}) {
                fails("column " + column, ARGUMENT, () -> x.tile(0, column, 0));
            }
            for (int row : new int[] {-1, 8, Integer.MIN_VALUE, Integer.MAX_VALUE}) {
                fails("row " + row, ARGUMENT, () -> x.tile(0, 0, row));
            }
        });
    }

    private static void holdSums(Sentences document) {
        document.hold(11, "Returns the sum of a peer's state behind some of its sure frames", () -> {
            Lagless x = begun(1, 0, 1, "i 0 0", "+ 1 0");
            run(x, 0, 3, 4);
            is("behind none", x.sumBehind(0, 0), sum(cells(), 0, 0, 0, 0));
            is("behind one", x.sumBehind(0, 1), sum(cells(3, 3), 0, 0, 0, 0));
            is("behind two", x.sumBehind(0, 2), sum(cells(4, 7), 0, 0, 0, 0));
        });
        document.hold(11, "`frames`: the number of frames", () -> {
            Lagless x = begun(2, 2, 10, ADDING);
            run(x, 0, 0, 0, 0);
            is("the last sure one", x.sumBehind(0, 2), sum(cells(), 0, 0, 0, 0));
            fails("one more", NO_SUCH, () -> x.sumBehind(0, 3));
        });
        document.hold(11, "Returns the sum.", () -> {
            Lagless x = begun(2, 0, 10, "i 1 1");
            run(x, 0, 0);
            run(x, 1, 6);
            pass(x, 1, 0);
            is("by the input, not the guess", x.sumBehind(0, 1), sum(cells(0, 6), 0, 0, 0, 0));
        });
        document.hold(11, "if it does not have as many sure frames, or the number is less than 0", () -> {
            Lagless x = begun(2, 0, 10, ADDING);
            fails("none is sure", NO_SUCH, () -> x.sumBehind(0, 1));
            run(x, 0, 0, 0);
            fails("run, but not sure", NO_SUCH, () -> x.sumBehind(0, 1));
            for (int frames : new int[] {-1, 121, Integer.MIN_VALUE, Integer.MAX_VALUE}) {
                fails("frames " + frames, NO_SUCH, () -> x.sumBehind(0, frames));
            }
            Lagless end = begun(1, 4, 1);
            for (int n = 0; n < 120; n++) {
                end.advance(0);
            }
            is("behind all", end.sumBehind(0, 120), sum(cells(), 0, 0, 0, 0));
            fails("behind more", NO_SUCH, () -> end.sumBehind(0, 121));
        });
    }

    private static void holdSounds(Sentences document) {
        document.hold(16, "Returns how many sounds a peer has played", () -> {
            Lagless x = begun(2, 0, 10, "s 0 0", "= 1 255", "s 1 0");
            is("none", x.played(0), 0);
            run(x, 0, 0, 0);
            is("two in each frame", x.played(0), 4);
            is("not the other one", x.played(1), 0);
        });
        document.hold(16, "Returns the number of sounds.", () -> {
            String[] pairs = new String[18];
            for (int n = 0; n < 18; n++) {
                pairs[n] = n % 2 == 0 ? "s 0 0" : "+ 0 1";
            }
            Lagless many = begun(1, 0, 1, pairs);
            many.poke(0, 1, 1);
            for (int n = 0; n < 120; n++) {
                many.advance(0);
            }
            is("nine in each frame", many.played(0), 9 * 120);
            for (int n = 0; n < 9 * 120; n++) {
                is("place " + n, many.sound(0, n), 1000 * (n / 9) + n % 256);
            }
            Lagless x = begun(2, 0, 10, "i 1 1", "s 1 0");
            run(x, 0, 0, 0);
            run(x, 1, 3);
            pass(x, 1, 0);
            is("those that are cut, too", x.played(0), 4);
        });
        document.hold(17, "Returns a sound that a peer has played", () -> {
            Lagless x = begun(2, 0, 10, "i 0 0", "s 0 0");
            run(x, 0, 5);
            run(x, 1, 0);
            is("of the one", x.sound(0, 0), 5);
            is("of the other one", x.sound(1, 0), 0);
            pass(x, 0, 1);
            is("one that is cut", x.sound(1, 0), 0);
            is("one that was played as it went back", x.sound(1, 1), 5);
        });
        document.hold(17, "`index`: its place in the order in which they were played, from 0", () -> {
            Lagless x = begun(2, 0, 10, "= 0 9", "s 0 0", "i 1 1", "s 1 0");
            run(x, 0, 0, 0);
            run(x, 1, 3);
            pass(x, 1, 0);
            int[] due = {9, 0, 1009, 1000, 3, 1003};
            for (int n = 0; n < due.length; n++) {
                is("place " + n, x.sound(0, n), due[n]);
            }
        });
        document.hold(17, "Returns 1000 times the frame plus its number", () -> {
            Lagless x = begun(1, 0, 1, "s 0 0", "= 1 255", "s 1 0");
            for (int n = 0; n < 120; n++) {
                run(x, 0, 0);
            }
            is("the first of the first", x.sound(0, 0), 0);
            is("the last of the last", x.sound(0, 239), 119255);
        });
        document.hold(17, "if there is no such peer, or no such place", () -> {
            Lagless x = begun(1, 0, 1, "s 0 0");
            fails("without any", INDEX, () -> x.sound(0, 0));
            run(x, 0, 0, 0);
            for (int place : new int[] {-1, 2, Integer.MIN_VALUE, Integer.MAX_VALUE}) {
                fails("place " + place, INDEX, () -> x.sound(0, place));
            }
            is("the last place", x.sound(0, 1), 1000);
        });
        document.hold(18, "how many of the sounds that a peer has played are cut now", () -> {
            Lagless x = begun(2, 0, 10, "i 1 1", "s 1 0");
            is("none", x.cut(0), 0);
            run(x, 0, 0, 0);
            run(x, 1, 3);
            pass(x, 1, 0);
            is("two", x.cut(0), 2);
        });
        document.hold(18, "Returns the number of sounds.", () -> {
            Lagless late = begun(2, 4, 10, "i 1 1", "= 2 255", "- 2 1", "s 2 0");
            for (int n = 0; n < 115; n++) {
                late.advance(0);
                late.advance(1);
                if (n % 5 == 4) {
                    pass(late, 0, 1);
                    pass(late, 1, 0);
                }
            }
            run(late, 1, 9);
            run(late, 0, 0, 0, 0, 0, 0);
            is("none", late.cut(0), 0);
            pass(late, 1, 0);
            is("in the last frame", late.cut(0), 1);
            is("instead of it", late.sound(0, late.played(0) - 1), 119246);
            Lagless x = begun(2, 0, 10, "i 1 1", "z 1 3", "j 4 0", "s 1 0");
            run(x, 0, 0, 0);
            run(x, 1, 3);
            pass(x, 1, 0);
            is("all of them", x.cut(0), x.played(0));
        });
    }

    private static void holdStrangers(Sentences document) {
        strangers(document, 4, (x, peer) -> x.press(peer, 0));
        strangers(document, 5, (x, peer) -> x.advance(peer));
        strangers(document, 6, (x, peer) -> x.frameOf(peer));
        strangers(document, 7, (x, peer) -> x.sure(peer));
        strangers(document, 8, (x, peer) -> x.known(peer, 0));
        strangers(document, 9, (x, peer) -> x.cell(peer, 0));
        strangers(document, 10, (x, peer) -> x.tile(peer, 0, 0));
        strangers(document, 11, (x, peer) -> x.sumBehind(peer, 0));
        strangers(document, 12, (x, peer) -> x.goneBack(peer));
        strangers(document, 13, (x, peer) -> x.runs(peer));
        strangers(document, 14, (x, peer) -> x.stalls(peer));
        strangers(document, 15, (x, peer) -> x.guesses(peer));
        strangers(document, 16, (x, peer) -> x.played(peer));
        strangers(document, 17, (x, peer) -> x.sound(peer, 0));
        strangers(document, 18, (x, peer) -> x.cut(peer));
        document.hold(8, "`other`: the number of the other one", () -> onlyPeers((x, other) -> x.known(0, other)));
    }
}
