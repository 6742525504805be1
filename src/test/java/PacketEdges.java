/** The edges that the promises 19 to 23 name: of packets, and of coming apart. */
final class PacketEdges extends Checks {
    private PacketEdges() {
    }

    static void hold(Sentences document) {
        holdSend(document);
        holdDeliver(document);
        holdInputsIn(document);
        holdApart(document);
        holdDiffers(document);
    }

    private static void holdSend(Sentences document) {
        document.hold(19, "Lets a peer send a packet", () -> {
            Lagless x = begun(2, 0, 10, ADDING);
            run(x, 0, 5);
            int packet = x.send(0, 1);
            is("what it has", x.inputsIn(packet), 1);
            is("it is not delivered by this", x.known(1, 0), 0);
        });
        document.hold(19, "`from`: the number of the sender", () -> onlyPeers((x, from) -> x.send(from, 0)));
        document.hold(19, "`to`: the number of the other peer", () -> onlyPeers((x, to) -> x.send(0, to)));
        document.hold(19, "Returns the number of the packet, from 0", () -> {
            Lagless x = begun(3, 0, 10, ADDING);
            for (int n = 0; n < 6; n++) {
                is("in one row for all peers", x.send(n % 3, (n + 1) % 3), n);
                x.deliver(n);
            }
            x.begin(2, 0, 10, 0);
            is("in a new game", x.send(1, 0), 0);
        });
        document.hold(19, "Throws `IndexOutOfBoundsException` if there is no such peer, for either", () -> {
            Lagless x = machine(ADDING);
            fails("ahead of a game", INDEX, () -> x.send(0, 1));
            x.begin(2, 0, 10, 0);
            for (int peer : new int[] {-1, 2, 3, Integer.MIN_VALUE, Integer.MAX_VALUE}) {
                fails("from " + peer, INDEX, () -> x.send(peer, 0));
                fails("to " + peer, INDEX, () -> x.send(0, peer));
                fails("both " + peer, INDEX, () -> x.send(peer, peer));
            }
            is("nothing was sent", x.send(0, 1), 0);
        });
        document.hold(19, "Throws `IllegalArgumentException` if both are the same", () -> {
            Lagless x = begun(3, 0, 10, ADDING);
            for (int n = 0; n < 3; n++) {
                int peer = n;
                fails("both " + peer, ARGUMENT, () -> x.send(peer, peer));
            }
            Lagless alone = begun(1, 0, 10, ADDING);
            fails("the only one", ARGUMENT, () -> alone.send(0, 0));
        });
        document.hold(19, "Throws `UnsupportedOperationException` if the sender has left", () -> {
            Lagless x = begun(2, 0, 10, ADDING);
            x.leave(0);
            fails("left", UNSUPPORTED, () -> x.send(0, 1));
            is("the receiver may have left", x.send(1, 0), 0);
        });
        document.hold(19, "Throws `IllegalStateException` if there are 200 packets", () -> {
            Lagless x = begun(2, 0, 10, ADDING);
            for (int n = 0; n < 200; n++) {
                is("send", x.send(n % 2, 1 - n % 2), n);
            }
            fails("the 201st", STATE, () -> x.send(0, 1));
            x.deliver(0);
            fails("also if one was delivered", STATE, () -> x.send(1, 0));
            is("the last one", x.deliver(199), 0);
            x.begin(2, 0, 10, 0);
            is("in a new game", x.send(0, 1), 0);
        });
    }

    private static void holdDeliver(Sentences document) {
        document.hold(20, "Delivers a packet", () -> {
            Lagless x = begun(3, 0, 10, ADDING);
            run(x, 0, 5);
            int packet = x.send(0, 2);
            x.deliver(packet);
            is("to its receiver", x.known(2, 0), 1);
            is("to no other", x.known(1, 0), 0);
        });
        document.hold(20, "`packet`: the number of the packet", () -> {
            Lagless x = begun(2, 0, 10, ADDING);
            run(x, 0, 5);
            x.send(0, 1);
            run(x, 0, 6);
            x.send(0, 1);
            is("the first", x.deliver(0), 1);
            is("the last", x.deliver(1), 1);
        });
        document.hold(20, "Returns how many inputs its receiver did not know", () -> {
            Lagless x = begun(2, 2, 10, ADDING);
            is("an empty one", pass(x, 0, 1), 0);
            run(x, 0, 1, 2, 3);
            int three = x.send(0, 1);
            run(x, 0, 4, 5);
            is("all of them", x.deliver(three), 3);
            is("not twice", x.deliver(three), 0);
            is("two of five", pass(x, 0, 1), 2);
            is("none of three", x.deliver(three), 0);
            x.leave(0);
            is("none of one that has left", x.deliver(three), 0);
        });
        document.hold(20, "Throws `IndexOutOfBoundsException` if there is no such packet", () -> {
            Lagless x = machine(ADDING);
            fails("ahead of a game", INDEX, () -> x.deliver(0));
            x.begin(2, 0, 10, 0);
            fails("without any", INDEX, () -> x.deliver(0));
            x.send(0, 1);
            for (int packet : new int[] {-1, 1, 200, Integer.MIN_VALUE, Integer.MAX_VALUE}) {
                fails("packet " + packet, INDEX, () -> x.deliver(packet));
            }
            x.begin(2, 0, 10, 0);
            fails("of the game before", INDEX, () -> x.deliver(0));
        });
        document.hold(20, "Throws `UnsupportedOperationException` if its receiver has left", () -> {
            Lagless x = begun(3, 0, 10, ADDING);
            int early = x.send(0, 1);
            int back = x.send(1, 0);
            x.leave(1);
            fails("sent before", UNSUPPORTED, () -> x.deliver(early));
            int late = x.send(0, 1);
            fails("sent behind it", UNSUPPORTED, () -> x.deliver(late));
            is("from it", x.deliver(back), 0);
        });
    }

    private static void holdInputsIn(Sentences document) {
        document.hold(21, "Returns how many inputs a packet has", () -> {
            Lagless x = begun(2, 0, 10, ADDING);
            run(x, 0, 5, 6);
            int packet = x.send(0, 1);
            is("under way", x.inputsIn(packet), 2);
            x.deliver(packet);
            is("delivered", x.inputsIn(packet), 2);
        });
        document.hold(21, "`packet`: the number of the packet", () -> {
            Lagless x = begun(2, 0, 10, ADDING);
            x.send(0, 1);
            run(x, 0, 5);
            x.send(0, 1);
            is("the first", x.inputsIn(0), 0);
            is("the last", x.inputsIn(1), 1);
        });
        document.hold(21, "Returns the number of inputs.", () -> {
            for (int delay = 0; delay <= 4; delay += 4) {
                Lagless x = begun(2, delay, 10, ADDING);
                x.leave(1);
                is("none", x.inputsIn(x.send(0, 1)), 0);
                for (int n = 0; n < 120; n++) {
                    x.advance(0);
                }
                is("of all frames", x.inputsIn(x.send(0, 1)), 120);
            }
        });
        document.hold(21, "Throws `IndexOutOfBoundsException` if there is no such packet", () -> {
            Lagless x = machine(ADDING);
            fails("ahead of a game", INDEX, () -> x.inputsIn(0));
            x.begin(2, 0, 10, 0);
            x.send(0, 1);
            for (int packet : new int[] {-1, 1, 200, Integer.MIN_VALUE, Integer.MAX_VALUE}) {
                fails("packet " + packet, INDEX, () -> x.inputsIn(packet));
            }
        });
    }

    private static void holdApart(Sentences document) {
        document.hold(22, "Returns behind how many frames a peer has come apart, as far as packets told it", () -> {
            Lagless x = begun(2, 0, 10, ADDING);
            run(x, 0, 1, 1);
            run(x, 1, 2, 2);
            pass(x, 0, 1);
            pass(x, 1, 0);
            x.poke(0, 9, 1);
            is("they differ", x.differs(0, 1), 2);
            fails("no packet told it", NO_SUCH, () -> x.apart(1));
            pass(x, 0, 1);
            is("a packet told it", x.apart(1), 2);
            fails("not to its sender", NO_SUCH, () -> x.apart(0));
        });
        document.hold(22, "Returns the number of frames.", () -> {
            Lagless x = begun(2, 0, 10, ADDING);
            x.poke(0, 9, 1);
            pass(x, 0, 1);
            is("behind none", x.apart(1), 0);
            Lagless end = begun(2, 4, 10, ADDING);
            for (int n = 0; n < 120; n++) {
                end.advance(0);
                end.advance(1);
                if (n % 8 == 0 || n == 119) {
                    pass(end, 0, 1);
                    pass(end, 1, 0);
                }
            }
            end.poke(1, 9, 1);
            pass(end, 1, 0);
            is("behind all", end.apart(0), 120);
        });
        document.hold(22, "Throws `NoSuchElementException` if it has not", () -> {
            Lagless x = begun(2, 0, 10, ADDING);
            fails("at first", NO_SUCH, () -> x.apart(0));
            run(x, 0, 1);
            run(x, 1, 2);
            pass(x, 1, 0);
            pass(x, 0, 1);
            fails("with the same sums", NO_SUCH, () -> x.apart(1));
            x.poke(0, 9, 1);
            pass(x, 0, 1);
            is("it has", x.apart(1), 1);
            x.begin(2, 0, 10, 0);
            fails("in a new game", NO_SUCH, () -> x.apart(1));
        });
        strangers(document, 22, (x, peer) -> x.apart(peer));
    }

    private static void holdDiffers(Sentences document) {
        document.hold(23, "looking at those that both have sure", () -> {
            Lagless x = begun(2, 0, 10, ADDING);
            run(x, 0, 1, 1);
            run(x, 1, 2, 2);
            x.poke(0, 9, 1);
            is("nothing is sure", x.differs(0, 1), -1);
            pass(x, 1, 0);
            is("one has nothing sure", x.differs(0, 1), -1);
            pass(x, 0, 1);
            is("the poke is gone", x.differs(0, 1), -1);
            x.poke(0, 9, 1);
            is("behind two", x.differs(0, 1), 2);
        });
        document.hold(23, "`peer`: the number of a peer", () -> onlyPeers((x, peer) -> x.differs(peer, 0)));
        document.hold(23, "`other`: the number of another one, or the same", () -> {
            onlyPeers((x, other) -> x.differs(0, other));
            Lagless x = begun(2, 0, 10, ADDING);
            x.poke(0, 9, 1);
            is("the same", x.differs(0, 0), -1);
            is("the one and the other", x.differs(0, 1), 0);
            is("the other and the one", x.differs(1, 0), 0);
        });
        document.hold(23, "Returns the number of frames, or -1 if they never do", () -> {
            Lagless x = begun(2, 0, 10, "= 9 0");
            is("never", x.differs(0, 1), -1);
            x.poke(0, 9, 1);
            run(x, 0, 0);
            run(x, 1, 0);
            pass(x, 1, 0);
            pass(x, 0, 1);
            is("behind none, and not behind one", x.differs(0, 1), 0);
            x.poke(0, 8, 1);
            is("the first of two", x.differs(0, 1), 0);
        });
        document.hold(23, "Throws `IndexOutOfBoundsException` if there is no such peer, for either", () -> {
            Lagless x = machine(ADDING);
            fails("ahead of a game", INDEX, () -> x.differs(0, 0));
            x.begin(2, 0, 10, 0);
            for (int peer : new int[] {-1, 2, 3, Integer.MIN_VALUE, Integer.MAX_VALUE}) {
                fails("peer " + peer, INDEX, () -> x.differs(peer, 0));
                fails("other " + peer, INDEX, () -> x.differs(0, peer));
                fails("both " + peer, INDEX, () -> x.differs(peer, peer));
            }
        });
    }
}
