/** The edges that the document's terms name of the play over a net: frames, inputs, packets, going back. */
final class NetEdges extends Checks {
    private NetEdges() {
    }

    static void hold(Sentences document) {
        holdFrames(document);
        holdDelay(document);
        holdKnowledge(document);
        holdBound(document);
        holdPackets(document);
        holdDeliveries(document);
        holdGoingBack(document);
        holdSounds(document);
        holdChanges(document);
        holdPokes(document);
        holdLeaving(document);
        holdAgain(document);
    }

    private static void holdFrames(Sentences document) {
        document.hold(0, "Frames are numbered from 0, at most 120", () -> {
            Lagless x = begun(1, 0, 1, "s 0 0");
            for (int frame = 0; frame < 120; frame++) {
                is("at the frame", x.frameOf(0), frame);
                is("advance", x.advance(0), true);
            }
            is("at the end", x.frameOf(0), 120);
            fails("one more", STATE, () -> x.advance(0));
            is("still at the end", x.frameOf(0), 120);
            is("the first frame's sound", x.sound(0, 0), 0);
            is("the last frame's sound", x.sound(0, 119), 119000);
            is("no more of them", x.played(0), 120);
        });
        document.hold(0, "An input is a number from 0 to 15", () -> {
            Lagless x = begun(1, 0, 1, "i 0 0", "+ 1 0");
            run(x, 0, 15, 0, 1);
            is("all of them", x.cell(0, 1), 16);
            fails("16", ARGUMENT, () -> x.press(0, 16));
            fails("-1", ARGUMENT, () -> x.press(0, -1));
            fails("16 in a fork", ARGUMENT, () -> x.fork(0, 0, 0, 16));
            fails("-1 in a fork", ARGUMENT, () -> x.fork(0, 0, 0, -1));
            is("15 in a fork", x.fork(0, 0, 1, 15), 2);
        });
        document.hold(0, "Each of the 1 to 3 peers is at a frame, the next one that it will run, 0 at first", () -> {
            for (int peers = 1; peers <= 3; peers++) {
                Lagless x = begun(peers, 0, 10, ADDING);
                int beside = peers;
                for (int peer = 0; peer < peers; peer++) {
                    is("at first", x.frameOf(peer), 0);
                }
                fails("peer " + peers, INDEX, () -> x.frameOf(beside));
                run(x, peers - 1, 0, 0);
                is("behind two frames", x.frameOf(peers - 1), 2);
                is("another one", x.frameOf(0), peers == 1 ? 2 : 0);
            }
        });
    }

    private static void holdDelay(Sentences document) {
        document.hold(0, "what a peer has pressed as it advances at the frame f is its input for the frame f + d",
                () -> {
                    for (int delay = 0; delay <= 4; delay++) {
                        Lagless x = begun(1, delay, 1, "i 0 0");
                        x.press(0, 3);
                        x.press(0, 9);
                        for (int frame = 0; frame < 7; frame++) {
                            x.advance(0);
                            x.press(0, 0);
                            is("delay " + delay + ", frame " + frame, x.cell(0, 0), frame == delay ? 9 : 0);
                        }
                    }
                    // What is pressed at the last frames of all is for frames that nobody runs.
                    Lagless last = begun(1, 4, 1, "i 0 0");
                    for (int frame = 0; frame < 120; frame++) {
                        run(last, 0, frame == 115 ? 6 : frame > 115 ? 7 : 0);
                    }
                    is("the input of the frame 119", last.cell(0, 0), 6);
                });
        document.hold(0, "its inputs for the frames ahead of d are 0, and all know them", () -> {
            for (int delay = 0; delay <= 4; delay++) {
                Lagless x = begun(3, delay, 10, "i 0 0", "+ 1 0");
                for (int n = 0; n < 9; n++) {
                    is("delay " + delay, x.known(n / 3, n % 3), delay);
                }
                for (int frame = 0; frame < delay; frame++) {
                    run(x, 0, 5);
                }
                is("they are 0", x.cell(0, 1), 0);
                is("they are sure", x.sure(0), delay);
                is("they are no guesses", x.guesses(0), 0);
                run(x, 0, 5);
                is("the next one is not sure", x.sure(0), delay);
                is("it has two guesses", x.guesses(0), 2);
                is("none need be sent", x.inputsIn(x.send(1, 2)), 0);
            }
        });
    }

    private static void holdKnowledge(Sentences document) {
        document.hold(0, "A peer knows inputs of another one up to a frame", () -> {
            Lagless x = begun(3, 0, 10, ADDING);
            run(x, 1, 4, 5);
            is("nothing is known at first", x.known(0, 1), 0);
            pass(x, 1, 0);
            is("as far as was told", x.known(0, 1), 2);
            is("not by the third", x.known(2, 1), 0);
            is("not the other way", x.known(1, 0), 0);
            run(x, 1, 6);
            is("not what is told later", x.known(0, 1), 2);
        });
        document.hold(0, "the last one that it knows, 0 without any", () -> {
            Lagless x = begun(2, 0, 10, "i 1 1", "+ 3 1");
            run(x, 0, 0);
            is("without any", x.cell(0, 1), 0);
            run(x, 1, 4, 5);
            pass(x, 1, 0);
            is("a known one", x.cell(0, 1), 4);
            run(x, 0, 0, 0, 0);
            is("the last one that is known", x.cell(0, 1), 5);
            is("in all later frames", x.cell(0, 3), 4 + 5 + 5 + 5);
            is("guesses", x.guesses(0), 2);
            run(x, 1, 0);
            pass(x, 1, 0);
            is("a known 0", x.cell(0, 1), 0);
            is("in all later frames", x.cell(0, 3), 4 + 5);
            is("guesses", x.guesses(0), 1);
            Lagless delayed = begun(2, 3, 10, "i 1 1", "+ 3 1");
            run(delayed, 1, 9);
            run(delayed, 0, 0, 0, 0, 0, 0);
            is("with a delay", delayed.cell(0, 3), 0);
            pass(delayed, 1, 0);
            is("when it is known", delayed.cell(0, 3), 18);
        });
        document.hold(0, "Its own inputs it knows", () -> {
            Lagless x = begun(2, 4, 10, ADDING);
            is("at first", x.known(0, 0), 4);
            run(x, 0, 7, 7);
            is("behind two frames", x.known(0, 0), 6);
            is("no guesses", x.guesses(0), 0);
            Lagless alone = begun(1, 0, 1, ADDING);
            for (int n = 1; n <= 9; n++) {
                run(alone, 0, n);
                is("its own", alone.known(0, 0), n);
                is("all are sure", alone.sure(0), n);
                is("no guesses", alone.guesses(0), 0);
            }
            is("as they were pressed", alone.cell(0, 2), 45);
        });
        document.hold(0, "up to the first one for which it does not know the inputs of all", () -> {
            Lagless x = begun(3, 0, 10, ADDING);
            is("without any", x.sure(0), 0);
            run(x, 0, 0, 0, 0, 0);
            run(x, 1, 0, 0);
            run(x, 2, 0, 0, 0);
            is("nothing is known", x.sure(0), 0);
            pass(x, 1, 0);
            is("nothing of the third", x.sure(0), 0);
            pass(x, 2, 0);
            is("two of the second", x.sure(0), 2);
            run(x, 1, 0, 0);
            pass(x, 1, 0);
            is("three of the third", x.sure(0), 3);
            run(x, 2, 0, 0, 0);
            pass(x, 2, 0);
            is("no more than it has run", x.sure(0), 4);
            is("the third, which knows nothing", x.sure(2), 0);
        });
    }

    private static void holdBound(Sentences document) {
        document.hold(0, "as many frames ahead of its sure ones as the bound does not advance: it stalls", () -> {
            for (int bound = 1; bound <= 10; bound++) {
                Lagless x = begun(2, 4, bound, ADDING);
                for (int frame = 0; frame < 4 + bound; frame++) {
                    is("bound " + bound + ", frame " + frame, x.advance(0), true);
                }
                is("at the bound " + bound, x.advance(0), false);
                is("it stays", x.frameOf(0), 4 + bound);
                is("it stalls", x.stalls(0), 1);
            }
            Lagless x = begun(2, 0, 2, ADDING);
            run(x, 0, 1, 1);
            x.press(0, 9);
            is("at the bound", x.advance(0), false);
            is("nothing is told by it", x.known(0, 0), 2);
            is("nothing is run by it", x.runs(0), 2);
            run(x, 1, 0);
            pass(x, 1, 0);
            run(x, 0, 5);
            is("what it presses as it advances counts", x.cell(0, 2), 7);
            is("at the bound again", x.advance(0), false);
            pass(x, 0, 1);
            run(x, 1, 0, 0, 0, 0);
            pass(x, 1, 0);
            run(x, 0, 0, 0, 0, 0);
            is("two ahead again", x.advance(0), false);
            is("its stalls", x.stalls(0), 3);
        });
    }

    private static void holdPackets(Sentences document) {
        document.hold(0, "of which it has got word that the other one has them", () -> {
            Lagless x = begun(3, 0, 10, ADDING);
            is("empty", x.inputsIn(x.send(0, 1)), 0);
            run(x, 0, 1, 2, 3);
            is("all of them", x.inputsIn(x.send(0, 1)), 3);
            run(x, 0, 4);
            int all = x.send(0, 1);
            is("and one more", x.inputsIn(all), 4);
            x.deliver(all);
            is("without word", x.inputsIn(x.send(0, 1)), 4);
            pass(x, 1, 0);
            is("with word", x.inputsIn(x.send(0, 1)), 0);
            run(x, 0, 5);
            is("what is new", x.inputsIn(x.send(0, 1)), 1);
            is("to the third", x.inputsIn(x.send(0, 2)), 5);
            is("an earlier one stays as it is", x.inputsIn(all), 4);
            Lagless delayed = begun(2, 3, 10, ADDING);
            is("all know those ahead of the delay", delayed.inputsIn(delayed.send(0, 1)), 0);
            run(delayed, 0, 8);
            is("the one behind them", delayed.inputsIn(delayed.send(0, 1)), 1);
        });
        document.hold(0, "up to which frame it knows inputs of the other one", () -> {
            Lagless x = begun(2, 0, 10, ADDING);
            run(x, 0, 1, 2, 3);
            int old = x.send(1, 0);
            pass(x, 0, 1);
            x.deliver(old);
            is("as it was sent, it knew none", x.inputsIn(x.send(0, 1)), 3);
            int word = x.send(1, 0);
            x.deliver(word);
            is("as it was sent, it knew three", x.inputsIn(x.send(0, 1)), 0);
            x.deliver(old);
            is("old word takes nothing back", x.inputsIn(x.send(0, 1)), 0);
            run(x, 0, 4);
            pass(x, 0, 1);
            x.deliver(word);
            is("the same word", x.inputsIn(x.send(0, 1)), 1);
        });
        document.hold(0, "the number of its sure frames, with the sum of its state behind them", () -> {
            Lagless x = begun(2, 0, 10, ADDING);
            run(x, 0, 0, 0);
            run(x, 1, 0, 0);
            pass(x, 0, 1);
            pass(x, 1, 0);
            int early = x.send(1, 0);
            x.poke(1, 9, 9);
            x.deliver(early);
            fails("as it was sent, the sum was the same", NO_SUCH, () -> x.apart(0));
            pass(x, 1, 0);
            is("it is another one now", x.apart(0), 2);
        });
        document.hold(0, "Each packet can be delivered as often as one likes, or never", () -> {
            Lagless x = begun(2, 0, 10, ADDING);
            run(x, 0, 0, 0, 0);
            run(x, 1, 4, 4);
            int first = x.send(1, 0);
            run(x, 1, 5);
            int second = x.send(1, 0);
            x.send(1, 0);
            is("in any order", x.deliver(second), 3);
            is("late", x.deliver(first), 0);
            for (int n = 0; n < 5; n++) {
                is("again", x.deliver(second), 0);
                is("again", x.deliver(first), 0);
            }
            is("it goes back once", x.goneBack(0), 1);
            is("as it was told", x.cell(0, 3), 13);
        });
    }

    private static void holdDeliveries(Sentences document) {
        document.hold(0, "the other one takes what it does not know yet", () -> {
            Lagless x = begun(2, 0, 10, ADDING);
            run(x, 1, 4, 5);
            int two = x.send(1, 0);
            run(x, 1, 6, 7);
            int four = x.send(1, 0);
            is("two", x.deliver(two), 2);
            is("two of four", x.deliver(four), 2);
            is("none of two", x.deliver(two), 0);
            is("what it knows stays", x.known(0, 1), 4);
            run(x, 0, 0, 0, 0, 0);
            is("all of them", x.cell(0, 3), 22);
        });
        document.hold(0, "gets word of what the sender knows", () -> {
            Lagless x = begun(3, 0, 10, ADDING);
            run(x, 0, 1, 2);
            pass(x, 0, 1);
            pass(x, 1, 2);
            is("not by the third", x.inputsIn(x.send(0, 1)), 2);
            is("an empty one brings word", pass(x, 1, 0), 0);
            is("of two", x.inputsIn(x.send(0, 1)), 0);
            is("not of what the third knows", x.inputsIn(x.send(0, 2)), 2);
        });
        document.hold(0, "compares the sum, if it has as many sure frames itself then",
                NetEdges::comparesAsFarAsItIsSure);
        document.hold(0, "if its own state behind as many has another sum, it has come apart", () -> {
            Lagless x = begun(2, 0, 10, ADDING);
            run(x, 0, 1, 2, 3);
            run(x, 1, 4, 5, 6);
            int there = x.send(0, 1);
            pass(x, 1, 0);
            x.deliver(there);
            pass(x, 1, 0);
            pass(x, 0, 1);
            // Both guessed, and both went back ahead of comparing.
            fails("the same sum", NO_SUCH, () -> x.apart(0));
            fails("the same sum", NO_SUCH, () -> x.apart(1));
            x.poke(1, 9, 1);
            fails("not told", NO_SUCH, () -> x.apart(0));
            pass(x, 0, 1);
            is("its own state is another one", x.apart(1), 3);
            fails("the other one has not been told", NO_SUCH, () -> x.apart(0));
        });
        document.hold(0, "keeps the number of frames if it is the least one so far", () -> {
            Lagless x = begun(2, 0, 10, ADDING);
            x.poke(0, 9, 1);
            int none = x.send(0, 1);
            run(x, 0, 1, 1, 1);
            run(x, 1, 2);
            pass(x, 1, 0);
            int one = x.send(0, 1);
            run(x, 1, 2, 2);
            pass(x, 1, 0);
            int three = x.send(0, 1);
            x.deliver(three);
            is("the first", x.apart(1), 3);
            x.deliver(one);
            is("a lesser one", x.apart(1), 1);
            x.deliver(three);
            is("a greater one", x.apart(1), 1);
            x.deliver(one);
            is("the same", x.apart(1), 1);
            x.deliver(none);
            is("the least of all", x.apart(1), 0);
            x.deliver(one);
            is("still the least", x.apart(1), 0);
        });
    }

    private static void comparesAsFarAsItIsSure() {
        Lagless x = begun(2, 1, 10, ADDING);
        x.poke(0, 9, 1);
        run(x, 1, 2);
        pass(x, 1, 0);
        run(x, 0, 1, 1);
        is("the sender has two sure", x.sure(0), 2);
        int two = x.send(0, 1);
        x.deliver(two);
        is("the receiver has one", x.sure(1), 1);
        fails("one less: it does not compare", NO_SUCH, () -> x.apart(1));
        run(x, 1, 2);
        is("the receiver has two", x.sure(1), 2);
        fails("it did not compare", NO_SUCH, () -> x.apart(1));
        x.deliver(two);
        is("as many: it compares", x.apart(1), 2);
        Lagless y = begun(2, 0, 10, ADDING);
        y.poke(0, 9, 1);
        run(y, 0, 1);
        run(y, 1, 2);
        pass(y, 1, 0);
        int one = y.send(0, 1);
        run(y, 0, 1, 1);
        pass(y, 0, 1);
        run(y, 1, 2, 2);
        is("the receiver has three", y.sure(1), 3);
        y.deliver(one);
        is("more than as many: it compares those", y.apart(1), 1);
        Lagless z = begun(2, 0, 10, ADDING);
        z.poke(0, 9, 1);
        run(z, 0, 1, 1);
        run(z, 1, 2, 2);
        pass(z, 1, 0);
        is("nothing is sure ahead of it", z.sure(1), 0);
        pass(z, 0, 1);
        is("as many by what it brings", z.apart(1), 2);
    }

    private static void holdGoingBack(Sentences document) {
        document.hold(0, "with another input than the one that it would take now, guesses included", () -> {
            goesBack(0, 0, 0, 0);
            goesBack(3, 4);
            goesBack(3, 4, 4, 4);
            goesBack(2, 0, 4);
            goesBack(1, 0, 0, 4);
            goesBack(0, 0, 0, 0, 4);
            goesBack(3, 4, 0, 0);
            // An input of which the machine makes nothing is another input all the same.
            Lagless x = begun(2, 0, 10);
            run(x, 0, 0);
            run(x, 1, 1);
            pass(x, 1, 0);
            is("without instructions", x.goneBack(0), 1);
            Lagless left = begun(3, 0, 10, ADDING);
            run(left, 1, 0, 6);
            run(left, 0, 0, 0, 0);
            pass(left, 1, 2);
            left.leave(1);
            is("as another one leaves", left.meanBack(0), 2.0);
            left.leave(2);
            is("as one leaves of which all is 0", left.goneBack(0), 1);
        });
        document.hold(0, "goes back to the state ahead of this frame, and runs it and all others up to where it was",
                () -> {
                    Lagless x = begun(2, 0, 10, "i 1 1", "+ 3 1", "r 4 256", "+ 5 1", "w 0 0", "/ 6 7", "w 0 0");
                    run(x, 1, 0, 3, 1, 4);
                    run(x, 0, 0, 0, 0, 0);
                    long guessed = x.again(0);
                    pass(x, 1, 0);
                    is("to where it was", x.frameOf(0), 4);
                    is("three frames", x.runs(0), 4 + 3);
                    is("once", x.goneBack(0), 1);
                    pass(x, 0, 1);
                    is("as the other one", x.sumBehind(0, 4), x.sumBehind(1, 4));
                    is("as one machine", x.sumBehind(0, 4), x.wholly(4));
                    is("nothing was sure", guessed, x.sumBehind(0, 0));
                });
    }

    /** Runs three frames with guesses of 0, takes some inputs, and looks how many frames it goes back. */
    private static void goesBack(int frames, int... inputs) {
        Lagless x = begun(2, 0, 10, ADDING);
        run(x, 0, 0, 0, 0);
        run(x, 1, inputs);
        is("deliver", pass(x, 1, 0), inputs.length);
        is("times for " + inputs.length + " inputs", x.goneBack(0), frames > 0 ? 1 : 0);
        is("runs for " + inputs.length + " inputs", x.runs(0), 3 + frames);
        if (frames > 0) {
            is("frames", x.meanBack(0), (double) frames);
        } else {
            fails("never back", ARITHMETIC, () -> x.meanBack(0));
        }
    }

    private static void holdSounds(Sentences document) {
        document.hold(0, "is played once for its number and this frame, as it is run for the first time with it", () -> {
            Lagless x = begun(2, 0, 10, "= 0 7", "s 0 0", "s 0 0", "i 1 1", "s 1 0");
            run(x, 0, 0, 0);
            is("twice in a frame", x.played(0), 4);
            is("in another frame again", x.sound(0, 2), 1007);
            run(x, 1, 7);
            pass(x, 1, 0);
            is("run again with the same ones", x.played(0), 4);
            run(x, 1, 9);
            pass(x, 1, 0);
            is("run again with another one", x.played(0), 5);
            is("the last one", x.sound(0, 4), 1009);
            is("the first one", x.sound(0, 0), 7);
            is("by the other one", x.played(1), 3);
        });
        document.hold(0, "does not begin in its frame any more when that is run again, is cut", () -> {
            Lagless x = begun(2, 0, 10, "i 1 1", "s 1 0");
            run(x, 0, 0, 0, 0);
            is("none", x.cut(0), 0);
            run(x, 1, 0, 5);
            pass(x, 1, 0);
            is("in two frames", x.cut(0), 2);
            is("they stay played", x.played(0), 5);
            is("in their places", x.sound(0, 1), 1000);
            is("not of the other one", x.cut(1), 0);
            for (int least = 0; least <= 240; least += 16) {
                Lagless y = begun(2, 0, 10, "i 1 1", "= 2 " + least, "+ 1 2", "s 1 0");
                run(y, 0, 0, 0, 0);
                run(y, 1, 0, 15);
                pass(y, 1, 0);
                is("the number " + least, y.cut(0), 2);
                is("of five", y.played(0), 5);
                is("the number " + (least + 15), y.sound(0, 3), 1015 + least);
            }
        });
        document.hold(0, "if it begins again later, it is played no more and is not cut any more", () -> {
            Lagless x = begun(2, 0, 10, "i 1 1", "s 1 0");
            run(x, 0, 0, 0, 0);
            run(x, 1, 5);
            pass(x, 1, 0);
            is("0 is cut in three frames", x.cut(0), 3);
            run(x, 1, 0);
            pass(x, 1, 0);
            is("0 in the first frame, 5 in the others", x.cut(0), 3);
            is("played no more", x.played(0), 6);
            run(x, 1, 5);
            pass(x, 1, 0);
            is("0 in the first and the third, 5 in the second", x.cut(0), 3);
            is("played no more", x.played(0), 6);
            run(x, 0, 0);
            is("in a frame that is new", x.played(0), 7);
        });
    }

    private static void holdChanges(Sentences document) {
        document.hold(0, "can be agreed by all, if nobody has run this frame", () -> {
            Lagless x = begun(3, 0, 10, ADDING);
            is("the first frame", x.agree(0, 0, 0), 1);
            run(x, 1, 0, 0);
            fails("run by one", UNSUPPORTED, () -> x.agree(0, 0, 0));
            fails("the last one run", UNSUPPORTED, () -> x.agree(1, 0, 0));
            is("the present frame of the foremost", x.agree(2, 0, 0), 2);
            is("the last frame", x.agree(119, 0, 0), 3);
            x.leave(1);
            fails("run by one that has left", UNSUPPORTED, () -> x.agree(1, 0, 0));
        });
        document.hold(0, "ahead of the first instruction of this frame, several in the order in which they were agreed",
                () -> {
                    Lagless x = begun(2, 0, 10, ": 1 0", "= 2 5", "w 0 0", ": 3 0");
                    x.agree(1, 0, 7);
                    x.agree(1, 0, 8);
                    x.agree(1, 2, 9);
                    x.agree(0, 0, 6);
                    x.agree(2, 15, 1);
                    is("not ahead of its frame", x.cell(0, 0), 0);
                    run(x, 0, 0);
                    is("in the first frame", x.cell(0, 1), 6);
                    is("not yet the second", x.cell(0, 0), 6);
                    run(x, 0, 0);
                    is("the later one counts, and is seen", x.cell(0, 3), 8);
                    is("the other one", x.cell(0, 2), 9);
                    is("not yet the third", x.cell(0, 15), 0);
                    run(x, 0, 0);
                    is("the third", x.cell(0, 15), 1);
                    run(x, 1, 1, 1, 1);
                    pass(x, 1, 0);
                    is("run again", x.goneBack(0), 1);
                    is("by all", x.sumBehind(0, 3), x.wholly(3));
                    Lagless bare = begun(1, 0, 1);
                    bare.agree(0, 4, 255);
                    run(bare, 0, 0);
                    is("without instructions", bare.cell(0, 4), 255);
                });
    }

    private static void holdPokes(Sentences document) {
        document.hold(0, "can be poked, which others do not know", () -> {
            Lagless x = begun(2, 0, 10, ADDING);
            x.poke(0, 9, 4);
            is("its own", x.cell(0, 9), 4);
            is("of the other one", x.cell(1, 9), 0);
            run(x, 0, 1, 1);
            run(x, 1, 2, 2);
            pass(x, 0, 1);
            is("no packet tells it", x.cell(1, 9), 0);
        });
        document.hold(0, "It is in the state ahead of the frame at which the peer is", () -> {
            Lagless x = begun(1, 0, 1, "+ 0 1");
            run(x, 0, 0, 0);
            x.poke(0, 1, 3);
            is("behind two", x.sumBehind(0, 2), sum(cells(0, 3), 0, 0, 0, 0));
            is("not behind one", x.sumBehind(0, 1), sum(cells(), 0, 0, 0, 0));
            run(x, 0, 0);
            is("used in the next frame", x.cell(0, 0), 3);
            x.agree(3, 1, 50);
            x.poke(0, 1, 60);
            run(x, 0, 0);
            is("ahead of what is agreed", x.cell(0, 0), 53);
            Lagless end = begun(1, 0, 1);
            for (int frame = 0; frame < 120; frame++) {
                run(end, 0, 0);
            }
            end.poke(0, 0, 255);
            is("behind the last frame", end.sumBehind(0, 120), sum(cells(255), 0, 0, 0, 0));
        });
        document.hold(0, "to an earlier frame, the poke is gone, and when it goes back to this one, it stays", () -> {
            for (int frame = 0; frame < 4; frame++) {
                Lagless x = begun(2, 0, 10, ADDING);
                run(x, 0, 0, 0);
                x.poke(0, 9, 4);
                run(x, 0, 0, 0);
                x.poke(0, 8, 1);
                for (int n = 0; n < frame; n++) {
                    run(x, 1, 0);
                }
                run(x, 1, 5);
                pass(x, 1, 0);
                is("back to " + frame, x.meanBack(0), 4.0 - frame);
                is("poked at 2", x.cell(0, 9), frame < 2 ? 0 : 4);
                is("poked at 4", x.cell(0, 8), 0);
            }
            Lagless first = begun(2, 0, 10, ADDING);
            first.poke(0, 9, 4);
            run(first, 0, 0);
            run(first, 1, 5);
            pass(first, 1, 0);
            is("back to the first frame", first.cell(0, 9), 4);
        });
    }

    private static void holdLeaving(Sentences document) {
        document.hold(0, "A peer that leaves advances no more and sends nothing", () -> {
            Lagless x = begun(2, 0, 10, ADDING);
            run(x, 0, 1);
            x.leave(0);
            fails("advance", UNSUPPORTED, () -> x.advance(0));
            fails("send", UNSUPPORTED, () -> x.send(0, 1));
            is("it stays where it was", x.frameOf(0), 1);
            is("the other one advances", x.advance(1), true);
            is("the other one sends", x.send(1, 0), 0);
        });
        document.hold(0, "packets from it that are under way can be delivered", () -> {
            Lagless x = begun(3, 0, 10, ADDING);
            run(x, 0, 1, 1);
            pass(x, 0, 1);
            int word = x.send(1, 0);
            run(x, 2, 3);
            x.leave(1);
            is("what a packet has", x.inputsIn(word), 0);
            is("deliver", x.deliver(word), 0);
            is("again", x.deliver(word), 0);
        });
        document.hold(0, "up to the greatest frame up to which one of them knows them, and that they are 0 from there on",
                NetEdges::takesWhatOneKnows);
        document.hold(0, "packets that are under way tell them nothing new of these", () -> {
            Lagless x = begun(3, 0, 10, ADDING);
            run(x, 1, 4, 4);
            pass(x, 1, 2);
            run(x, 1, 4);
            int more = x.send(1, 2);
            int all = x.send(1, 0);
            run(x, 0, 0, 0, 0, 0);
            x.leave(1);
            is("what one knew", x.cell(0, 3), 8);
            is("nothing new", x.deliver(all), 0);
            is("nothing new", x.deliver(more), 0);
            is("as it was", x.cell(0, 3), 8);
            is("no going back for it", x.goneBack(0), 1);
            run(x, 2, 0, 0, 0, 0);
            is("by the third, too", x.cell(2, 3), 8);
        });
    }

    private static void takesWhatOneKnows() {
        Lagless x = begun(3, 0, 10, ADDING);
        run(x, 1, 4);
        pass(x, 1, 0);
        run(x, 1, 5, 6);
        pass(x, 1, 2);
        run(x, 1, 7);
        run(x, 0, 0, 0, 0, 0, 0);
        run(x, 2, 0);
        is("guessed", x.cell(0, 3), 20);
        x.leave(1);
        is("three were known by one", x.cell(0, 3), 4 + 5 + 6);
        is("one frame of the third", x.cell(2, 3), 4);
        run(x, 2, 0, 0, 0, 0);
        is("as many by the third", x.cell(2, 3), 4 + 5 + 6);
        is("its own inputs it knows", x.cell(1, 3), 4 + 5 + 6 + 7);
        is("known is all", x.known(0, 1), 999);
        Lagless none = begun(2, 0, 10, ADDING);
        run(none, 1, 9, 9);
        run(none, 0, 0, 0);
        none.leave(1);
        is("known by nobody", none.cell(0, 3), 0);
        is("all is sure", none.sure(0), 2);
        is("nothing to go back for", none.goneBack(0), 0);
        Lagless delayed = begun(2, 2, 10, ADDING);
        run(delayed, 1, 9, 9);
        run(delayed, 0, 0, 0, 0, 0);
        delayed.leave(1);
        is("those ahead of the delay are 0", delayed.cell(0, 3), 0);
        Lagless guessed = begun(2, 0, 10, ADDING);
        run(guessed, 1, 9);
        pass(guessed, 1, 0);
        run(guessed, 0, 0, 0, 0);
        guessed.leave(1);
        is("a guess becomes 0", guessed.cell(0, 3), 9);
        is("it goes back behind what is known", guessed.meanBack(0), 2.0);
    }

    private static void holdAgain(Sentences document) {
        document.hold(0, "can be played again from the first state on, by its inputs", () -> {
            Lagless x = begun(2, 1, 10, ADDING);
            is("nothing is sure", x.again(0), sum(cells(), 0, 0, 0, 0));
            run(x, 0, 3, 4);
            is("behind the delay", x.again(0), sum(cells(), 0, 0, 0, 0));
            run(x, 1, 5);
            pass(x, 1, 0);
            is("behind two", x.again(0), sum(cells(3, 5, 3, 5), 0, 0, 0, 0));
            x.poke(0, 2, 99);
            is("without what was poked", x.again(0), sum(cells(3, 5, 3, 5), 0, 0, 0, 0));
            is("with it", x.sumBehind(0, 2), sum(cells(3, 5, 99, 5), 0, 0, 0, 0));
        });
        document.hold(0, "and with one input changed", () -> {
            Lagless x = begun(2, 0, 10, "i 0 0", "i 1 1", "w 0 0", "+ 2 0", "w 0 0", "< 3 2");
            run(x, 0, 0, 0, 0, 5);
            run(x, 1, 0, 0, 0);
            pass(x, 1, 0);
            is("at once", x.fork(0, 0, 0, 1), 1);
            is("of the other one", x.fork(0, 1, 0, 1), 1);
            is("in a frame that reads none", x.fork(0, 0, 1, 1), -1);
            is("not by the last sure frame, which reads none", x.fork(0, 0, 2, 9), -1);
            is("the same input", x.fork(0, 0, 0, 0), -1);
            Lagless y = begun(1, 0, 1, "i 0 0", ": 1 0", "= 0 0", "+ 2 1", "= 1 0");
            run(y, 0, 0, 0, 0);
            is("in the last one", y.fork(0, 0, 2, 15), 3);
            is("in the first one", y.fork(0, 0, 0, 15), 1);
            is("as it was", y.sumBehind(0, 3), y.again(0));
        });
    }
}
