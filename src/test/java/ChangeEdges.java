/** The edges that the promises 24 to 32 name: changes, pokes, leaving, playing again, and soundness. */
final class ChangeEdges extends Checks {
    private ChangeEdges() {
    }

    static void hold(Sentences document) {
        holdAgree(document);
        holdPoke(document);
        holdLeave(document);
        holdAgain(document);
        holdFork(document);
        holdWholly(document);
        holdShares(document);
        holdIsSound(document);
    }

    private static void refusesToAgree(int frame, int cell, int number) {
        Lagless x = begun(1, 0, 1);
        fails("agree", ARGUMENT, () -> x.agree(frame, cell, number));
        is("nothing was agreed", x.agree(0, 0, 0), 1);
    }

    private static void holdAgree(Sentences document) {
        document.hold(24, "Agrees on a change", () -> {
            Lagless x = begun(2, 0, 10);
            x.agree(0, 3, 200);
            run(x, 0, 0);
            run(x, 1, 0);
            is("for one", x.cell(0, 3), 200);
            is("and for the other", x.cell(1, 3), 200);
        });
        document.hold(24, "`frame`: the frame, 0 to 119", () -> {
            Lagless x = begun(1, 0, 1);
            x.agree(0, 0, 1);
            x.agree(119, 1, 2);
            run(x, 0, 0);
            is("the first", x.cell(0, 0), 1);
            for (int n = 1; n < 119; n++) {
                x.advance(0);
            }
            is("not yet the last", x.cell(0, 1), 0);
            x.advance(0);
            is("the last", x.cell(0, 1), 2);
            for (int frame : new int[] {-1, 120, Integer.MIN_VALUE, Integer.MAX_VALUE}) {
                refusesToAgree(frame, 0, 0);
            }
        });
        document.hold(24, "`cell`: the cell, 0 to 15", () -> {
            Lagless x = begun(1, 0, 1);
            x.agree(0, 0, 3);
            x.agree(0, 15, 4);
            run(x, 0, 0);
            is("the first", x.cell(0, 0), 3);
            is("the last", x.cell(0, 15), 4);
            for (int cell : new int[] {-1, 16, Integer.MIN_VALUE, Integer.MAX_VALUE}) {
                refusesToAgree(0, cell, 0);
            }
        });
        document.hold(24, "`number`: the number that it becomes, 0 to 255", () -> {
            Lagless x = begun(1, 0, 1, "= 0 9", "= 1 9", "w 0 0");
            x.agree(1, 0, 0);
            x.agree(1, 1, 255);
            run(x, 0, 0, 0);
            is("the least", x.cell(0, 0), 0);
            is("the greatest", x.cell(0, 1), 255);
            for (int number : new int[] {-1, 256, Integer.MIN_VALUE, Integer.MAX_VALUE}) {
                refusesToAgree(0, 0, number);
            }
        });
        document.hold(24, "Returns the number of changes that are agreed", () -> {
            Lagless x = begun(1, 0, 1);
            for (int n = 1; n <= 10; n++) {
                is("agree", x.agree(n - 1, 0, 0), n);
                x.advance(0);
            }
            x.begin(1, 0, 1, 0);
            is("in a new game", x.agree(0, 0, 0), 1);
        });
        document.hold(24, "Throws `IllegalArgumentException` if a number is out of range", () -> {
            Lagless x = machine(ADDING);
            fails("ahead of a game", ARGUMENT, () -> x.agree(120, 0, 0));
            x.begin(1, 0, 1, 0);
            fails("all of them", ARGUMENT, () -> x.agree(-1, 16, 256));
            run(x, 0, 0);
            fails("the cell, at a frame that was run", ARGUMENT, () -> x.agree(0, 16, 0));
            fails("the number, at a frame that was run", ARGUMENT, () -> x.agree(0, 0, 256));
        });
        document.hold(24, "Throws `UnsupportedOperationException` if a peer has run this frame, or the game has not begun",
                () -> {
                    Lagless x = machine(ADDING);
                    fails("not begun", UNSUPPORTED, () -> x.agree(119, 0, 0));
                    x.begin(2, 0, 10, 0);
                    run(x, 1, 0, 0, 0);
                    fails("the first of those", UNSUPPORTED, () -> x.agree(0, 0, 0));
                    fails("the last of those", UNSUPPORTED, () -> x.agree(2, 0, 0));
                    is("the next one", x.agree(3, 0, 0), 1);
                });
        document.hold(24, "Throws `IllegalStateException` if there are 10", () -> {
            Lagless x = begun(1, 0, 1);
            for (int n = 1; n <= 10; n++) {
                is("agree", x.agree(0, n, n), n);
            }
            fails("the eleventh", STATE, () -> x.agree(5, 0, 1));
            run(x, 0, 0);
            fails("also when ten were done", STATE, () -> x.agree(5, 0, 1));
            is("the tenth", x.cell(0, 10), 10);
            is("not the eleventh", x.cell(0, 0), 0);
        });
    }

    private static void holdPoke(Sentences document) {
        document.hold(25, "Pokes a cell of a peer's present state", () -> {
            Lagless x = begun(2, 0, 10, ADDING);
            run(x, 0, 0);
            x.poke(0, 2, 9);
            is("this one", x.cell(0, 2), 9);
            is("no other cell", x.cell(0, 3), 0);
            is("no other peer", x.cell(1, 2), 0);
            is("no state behind it", x.sumBehind(0, 0), sum(cells(), 0, 0, 0, 0));
        });
        document.hold(25, "`cell`: the cell, 0 to 15", () -> {
            Lagless x = begun(1, 0, 1);
            x.poke(0, 0, 7);
            x.poke(0, 15, 8);
            is("the first", x.cell(0, 0), 7);
            is("the last", x.cell(0, 15), 8);
        });
        document.hold(25, "`number`: the number that it becomes, 0 to 255", () -> {
            Lagless x = begun(1, 0, 1);
            x.poke(0, 0, 255);
            is("the greatest", x.cell(0, 0), 255);
            x.poke(0, 0, 0);
            is("the least", x.cell(0, 0), 0);
        });
        document.hold(25, "Returns the number before", () -> {
            Lagless x = begun(2, 0, 10);
            is("at first", x.poke(0, 3, 255), 0);
            is("then", x.poke(0, 3, 255), 255);
            is("of another cell", x.poke(0, 4, 1), 0);
            x.leave(0);
            is("of one that has left", x.poke(0, 3, 2), 255);
        });
        document.hold(25, "Throws `IllegalArgumentException` if a number is out of range", () -> {
            Lagless x = begun(1, 0, 1);
            for (int cell : new int[] {-1, 16, Integer.MIN_VALUE, Integer.MAX_VALUE}) {
                fails("cell " + cell, ARGUMENT, () -> x.poke(0, cell, 1));
            }
            for (int number : new int[] {-1, 256, Integer.MIN_VALUE, Integer.MAX_VALUE}) {
                fails("number " + number, ARGUMENT, () -> x.poke(0, 0, number));
            }
            is("nothing changed", x.sumBehind(0, 0), sum(cells(), 0, 0, 0, 0));
        });
        strangers(document, 25, (x, peer) -> x.poke(peer, 0, 0));
    }

    private static void holdLeave(Sentences document) {
        document.hold(26, "Lets a peer leave", () -> {
            Lagless x = begun(3, 0, 10, ADDING);
            x.leave(1);
            fails("this one", UNSUPPORTED, () -> x.advance(1));
            is("no other", x.advance(0), true);
            is("no other", x.advance(2), true);
        });
        document.hold(26, "Returns how many peers are left", () -> {
            Lagless x = begun(3, 0, 10, ADDING);
            is("two of three", x.leave(0), 2);
            is("one of three", x.leave(2), 1);
            is("one of two", begun(2, 0, 10).leave(1), 1);
        });
        document.hold(26, "Throws `UnsupportedOperationException` if it has left, or is the last one", () -> {
            Lagless x = begun(3, 0, 10, ADDING);
            x.leave(1);
            fails("it has left", UNSUPPORTED, () -> x.leave(1));
            x.leave(2);
            fails("it has left", UNSUPPORTED, () -> x.leave(2));
            fails("the last one", UNSUPPORTED, () -> x.leave(0));
            is("the last one goes on", x.advance(0), true);
            Lagless alone = begun(1, 0, 10);
            fails("the only one", UNSUPPORTED, () -> alone.leave(0));
        });
        strangers(document, 26, (x, peer) -> x.leave(peer));
    }

    private static void holdAgain(Sentences document) {
        document.hold(27, "Plays what a peer has sure again", () -> {
            Lagless x = begun(2, 0, 10, ADDING);
            run(x, 0, 1, 2, 3);
            run(x, 1, 4, 5);
            pass(x, 1, 0);
            is("two are sure", x.again(0), sum(cells(2, 5, 3, 9), 0, 0, 0, 0));
            is("nothing is run by it", x.runs(0), 3 + 3);
            is("nothing is played by it", x.played(0), 3 + 3);
            is("none is sure", x.again(1), sum(cells(), 0, 0, 0, 0));
        });
        document.hold(27, "Returns the sum behind its sure frames", () -> {
            Lagless x = begun(2, 0, 10, "i 0 0", "r 1 256", "w 0 0", "/ 2 3");
            x.agree(1, 7, 7);
            run(x, 1, 1, 1, 1);
            pass(x, 1, 0);
            for (int frames = 0; frames <= 3; frames++) {
                is("behind " + frames, x.again(0), x.sumBehind(0, frames));
                is("advance", x.advance(0), true);
            }
            Lagless end = begun(1, 0, 1, ADDING);
            for (int n = 0; n < 120; n++) {
                run(end, 0, n % 16);
            }
            // Seven times 0 to 15, and once 0 to 7, modulo 256.
            is("behind all", end.again(0), sum(cells(7, 0, (7 * 120 + 28) % 256), 0, 0, 0, 0));
        });
        strangers(document, 27, (x, peer) -> x.again(peer));
    }

    private static void holdFork(Sentences document) {
        document.hold(28, "Plays what a peer has sure again, with another input", () -> {
            Lagless x = begun(1, 0, 10, "i 0 0", "s 0 0");
            run(x, 0, 1, 2, 3);
            long state = x.sumBehind(0, 3);
            is("with another one", x.fork(0, 0, 1, 9), 2);
            is("nothing changes", x.sumBehind(0, 3), state);
            is("nothing is run by it", x.runs(0), 3);
            is("nothing is played by it", x.played(0), 3);
            is("nothing changes for again", x.again(0), state);
        });
        document.hold(28, "`other`: the peer whose input is another one", () -> {
            onlyPeers((x, other) -> x.fork(0, other, 0, 1));
            Lagless x = begun(2, 0, 10, "w 0 0", "i 1 1");
            run(x, 0, 1, 1);
            run(x, 1, 1, 1);
            pass(x, 1, 0);
            is("its own, which nothing reads", x.fork(0, 0, 1, 2), -1);
            is("of the other one", x.fork(0, 1, 1, 2), 2);
        });
        document.hold(28, "`frame`: the frame", () -> {
            Lagless x = begun(1, 0, 10, "i 0 0");
            run(x, 0, 1, 2, 3);
            is("the first", x.fork(0, 0, 0, 0), 1);
            is("the last", x.fork(0, 0, 2, 0), 3);
        });
        document.hold(28, "`input`: the input, 0 to 15", () -> {
            Lagless x = begun(1, 0, 10, "i 0 0");
            run(x, 0, 7);
            for (int input = 0; input <= 15; input++) {
                is("input " + input, x.fork(0, 0, 0, input), input == 7 ? -1 : 1);
            }
        });
        document.hold(28, "differs first from that of again(), or -1 if it never does", () -> {
            Lagless x = begun(1, 0, 10, "i 0 0", "+ 1 0", "- 2 2", "/ 2 1");
            run(x, 0, 0, 0, 1);
            is("the input it had", x.fork(0, 0, 2, 1), -1);
            is("at once", x.fork(0, 0, 0, 1), 1);
            Lagless y = begun(1, 0, 10, "i 0 0", ": 1 0", "- 0 1", "- 0 0", "- 1 1");
            run(y, 0, 0, 0, 1);
            is("of which nothing is left", y.fork(0, 0, 1, 9), -1);
            // The machine must not read what was changed, but go on with what came of it.
            Lagless late = begun(1, 0, 10, "w 0 0", "i 0 0", "w 0 0", "+ 1 0", "= 0 0", "w 0 0");
            run(late, 0, 0, 0, 0);
            is("in a frame that does not read it", late.fork(0, 0, 0, 9), -1);
            is("in the one that does", late.fork(0, 0, 1, 9), 2);
            is("in the last one", late.fork(0, 0, 2, 9), -1);
            late.poke(0, 5, 5);
            is("a poke makes no difference", late.fork(0, 0, 2, 9), -1);
        });
        document.hold(28, "Throws `IndexOutOfBoundsException` if there is no such peer, for either", () -> {
            Lagless x = machine(ADDING);
            fails("ahead of a game", INDEX, () -> x.fork(0, 0, 0, 0));
            x.begin(2, 4, 10, 0);
            run(x, 0, 0);
            for (int peer : new int[] {-1, 2, 3, Integer.MIN_VALUE, Integer.MAX_VALUE}) {
                fails("peer " + peer, INDEX, () -> x.fork(peer, 0, 0, 0));
                fails("other " + peer, INDEX, () -> x.fork(0, peer, 0, 0));
                fails("both " + peer, INDEX, () -> x.fork(peer, peer, 0, 0));
            }
        });
        document.hold(28, "Throws `IllegalArgumentException` if there is no such input", () -> {
            Lagless x = begun(1, 0, 10, ADDING);
            run(x, 0, 0);
            for (int input : new int[] {-1, 16, Integer.MIN_VALUE, Integer.MAX_VALUE}) {
                fails("input " + input, ARGUMENT, () -> x.fork(0, 0, 0, input));
            }
        });
        document.hold(28, "Throws `NoSuchElementException` if the frame is not one of its sure ones", () -> {
            Lagless x = begun(2, 2, 10, ADDING);
            fails("none is run", NO_SUCH, () -> x.fork(0, 0, 0, 0));
            run(x, 0, 1, 1, 1, 1);
            is("the last sure one", x.fork(0, 0, 1, 0), -1);
            fails("the next one", NO_SUCH, () -> x.fork(0, 0, 2, 0));
            for (int frame : new int[] {-1, 4, 120, Integer.MIN_VALUE, Integer.MAX_VALUE}) {
                fails("frame " + frame, NO_SUCH, () -> x.fork(0, 0, frame, 0));
            }
        });
        strangers(document, 28, (x, peer) -> x.fork(peer, 0, 0, 0));
    }

    private static void holdWholly(Sentences document) {
        document.hold(29, "Returns the sum of one machine that got all inputs in time, behind some frames", () -> {
            Lagless x = begun(2, 1, 10, "i 0 0", "i 1 1", "+ 2 0", "+ 3 1");
            x.agree(2, 9, 50);
            run(x, 0, 3, 4, 5);
            run(x, 1, 6, 7, 8);
            x.poke(0, 2, 99);
            is("the delay", x.wholly(1), sum(cells(), 0, 0, 0, 0));
            is("all inputs, no guess", x.wholly(3), with9(50, 4, 7, 7, 13));
            is("what is told ahead", x.wholly(4), with9(50, 5, 8, 12, 21));
        });
        document.hold(29, "`frames`: the number of frames", () -> {
            Lagless x = begun(1, 4, 1, "i 0 0");
            is("none", x.wholly(0), sum(cells(), 0, 0, 0, 0));
            for (int n = 0; n < 116; n++) {
                run(x, 0, n < 115 ? 0 : 5);
            }
            is("120, by the delay", x.wholly(120), sum(cells(5), 0, 0, 0, 0));
            fails("121", NO_SUCH, () -> x.wholly(121));
        });
        document.hold(29, "Returns the sum.", () -> {
            Lagless x = begun(1, 0, 1, "r 0 256");
            run(x, 0, 0);
            is("of the first state", x.wholly(0), sum(cells(), 0, 0, 0, 0));
            is("behind one", x.wholly(1), sum(cells(74), 0, 0, 74, 0));
        });
        document.hold(29, "a peer that has not told its input for one of these, and has not left, the number is less than 0",
                () -> {
                    Lagless x = begun(2, 1, 10, "i 1 1", "+ 3 1");
                    fails("none has told", NO_SUCH, () -> x.wholly(2));
                    run(x, 1, 4, 4, 4);
                    fails("one has not told", NO_SUCH, () -> x.wholly(2));
                    run(x, 0, 1);
                    is("both have", x.wholly(2), sum(cells(0, 4, 0, 4), 0, 0, 0, 0));
                    fails("one has not told", NO_SUCH, () -> x.wholly(3));
                    x.leave(0);
                    is("it has left", x.wholly(4), sum(cells(0, 4, 0, 12), 0, 0, 0, 0));
                    fails("the other one has not told", NO_SUCH, () -> x.wholly(5));
                    for (int frames : new int[] {-1, Integer.MIN_VALUE}) {
                        fails("frames " + frames, NO_SUCH, () -> x.wholly(frames));
                    }
                });
        document.hold(29, "it is greater than 120, or the game has not begun", () -> {
            Lagless none = new Lagless();
            for (int frames : new int[] {0, 1, -1, 120, 121}) {
                fails("not begun", NO_SUCH, () -> none.wholly(frames));
            }
            Lagless x = begun(2, 4, 1);
            x.leave(1);
            for (int n = 0; n < 120; n++) {
                x.advance(0);
            }
            is("120", x.wholly(120), sum(cells(), 0, 0, 0, 0));
            for (int frames : new int[] {121, 124, Integer.MAX_VALUE}) {
                fails("frames " + frames, NO_SUCH, () -> x.wholly(frames));
            }
        });
    }

    /** Returns the sum of a state with a number in the cell 9, and some in the first ones. */
    private static long with9(int number, int... first) {
        int[] cells = new int[16];
        System.arraycopy(first, 0, cells, 0, first.length);
        cells[9] = number;
        return sum(cells, 0, 0, 0, 0);
    }

    private static void holdShares(Sentences document) {
        document.hold(30, "Returns the share of the frames that all peers have run that were run again", () -> {
            Lagless x = begun(2, 0, 10, ADDING);
            run(x, 0, 0, 0);
            is("none again", x.againShare(), 0.0f);
            run(x, 1, 5);
            pass(x, 1, 0);
            is("two of five", x.againShare(), 0.4f);
        });
        document.hold(30, "added over all peers, divided by the former, both converted to float", () -> {
            Lagless x = begun(3, 0, 10, ADDING);
            run(x, 0, 0, 0, 0);
            run(x, 2, 5);
            run(x, 1, 0, 0);
            pass(x, 2, 0);
            pass(x, 2, 1);
            is("3 + 2 of 3 + 3 + 2 + 2 + 1", x.againShare(), 5.0f / 11.0f);
            x.leave(0);
            is("with one that has left", x.againShare(), 5.0f / 11.0f);
        });
        document.hold(30, "Throws `ArithmeticException` if none was run", () -> {
            Lagless x = new Lagless();
            fails("ahead of a game", ARITHMETIC, x::againShare);
            x.begin(3, 0, 1, 0);
            fails("at first", ARITHMETIC, x::againShare);
            x.advance(2);
            is("one was run", x.againShare(), 0.0f);
            x.begin(3, 0, 1, 0);
            fails("in a new game", ARITHMETIC, x::againShare);
        });
        document.hold(31, "Returns the mean number of frames that a peer went back", () -> {
            Lagless x = begun(2, 0, 10, ADDING);
            run(x, 0, 0, 0, 0);
            run(x, 1, 5);
            pass(x, 1, 0);
            is("three frames once", x.meanBack(0), 3.0);
            is("as often as it went back", x.goneBack(0), 1);
        });
        document.hold(31, "added over all times, divided by the number of times, both converted to double", () -> {
            Lagless x = begun(2, 0, 10, ADDING);
            run(x, 0, 0, 0, 0, 0);
            run(x, 1, 5);
            pass(x, 1, 0);
            run(x, 1, 5, 6);
            pass(x, 1, 0);
            run(x, 1, 7);
            pass(x, 1, 0);
            is("4, 2 and 1 frames", x.meanBack(0), 7.0 / 3.0);
        });
        document.hold(31, "Throws `ArithmeticException` if it never went back", () -> {
            Lagless x = begun(2, 0, 10, ADDING);
            fails("at first", ARITHMETIC, () -> x.meanBack(0));
            run(x, 0, 0, 0);
            run(x, 1, 0);
            pass(x, 1, 0);
            fails("as was guessed", ARITHMETIC, () -> x.meanBack(0));
            fails("the other one", ARITHMETIC, () -> x.meanBack(1));
        });
        strangers(document, 31, (x, peer) -> x.meanBack(peer));
    }

    private static void holdIsSound(Sentences document) {
        document.hold(32, "no peer is further ahead of its sure frames than the bound", () -> {
            for (int bound = 1; bound <= 10; bound++) {
                Lagless x = begun(2, 0, bound, ADDING);
                for (int n = 0; n <= bound; n++) {
                    x.advance(0);
                }
                is("as far as it may be", x.isSound(), true);
            }
        });
        document.hold(32, "what peers know of inputs is what was told", () -> {
            Lagless x = begun(3, 0, 10, ADDING);
            run(x, 0, 0, 0, 0);
            run(x, 1, 4, 5, 6, 7);
            pass(x, 1, 0);
            is("with guesses", x.isSound(), true);
            x.leave(1);
            is("with what one that has left told", x.isSound(), true);
        });
        document.hold(32, "for peers that were not poked", () -> {
            Lagless x = begun(2, 0, 10, ADDING);
            run(x, 0, 1, 1);
            run(x, 1, 2, 2);
            pass(x, 0, 1);
            pass(x, 1, 0);
            x.poke(0, 9, 1);
            pass(x, 0, 1);
            is("one has come apart", x.apart(1), 2);
            is("by a poke", x.isSound(), true);
        });
        document.hold(32, "and all sounds that begin were played", () -> {
            Lagless x = begun(2, 0, 10, "i 1 1", "s 1 0");
            run(x, 0, 0, 0);
            run(x, 1, 3);
            pass(x, 1, 0);
            is("with some that are cut", x.isSound(), true);
        });
        document.hold(32, "peers that have left are left out of all this", () -> {
            Lagless x = begun(2, 0, 10, ADDING);
            run(x, 1, 4, 5, 6);
            x.leave(1);
            run(x, 0, 0, 0, 0);
            is("its own inputs are others", x.cell(1, 3), 15);
            is("than those of which the other one knows", x.cell(0, 3), 0);
            is("it is left out", x.isSound(), true);
        });
        document.hold(32, "Returns whether all of this is true", () -> {
            Lagless x = new Lagless();
            is("ahead of a game", x.isSound(), true);
            for (int peers = 1; peers <= 3; peers++) {
                x.begin(peers, 4, 10, 65536);
                is("at first", x.isSound(), true);
            }
            Lagless end = begun(1, 4, 1, ADDING);
            for (int n = 0; n < 120; n++) {
                run(end, 0, n % 16);
            }
            is("at the end", end.isSound(), true);
        });
    }
}
