import java.util.ArrayList;
import java.util.List;
import java.util.function.Consumer;
import java.util.function.Supplier;

/** The edges that the document's terms name of exceptions: nothing changes, and the first one is thrown. */
final class RefusalEdges extends Checks {
    private RefusalEdges() {
    }

    static void hold(Sentences document) {
        document.hold(0, "A method that throws an exception changes nothing", RefusalEdges::changesNothing);
        document.hold(0, "the one that is listed first is thrown", () -> {
            throwsTheFirstOfTheMachine();
            throwsTheFirstOfPeers();
            throwsTheFirstOfPackets();
            throwsTheFirstOfChanges();
        });
    }

    // ---- one story, with each call that throws put in at each place

    /** Tells a story with a refused call in it: all is as without it, at once and at the end. */
    private static void changesNothing() {
        List<Consumer<Lagless>> story = story();
        List<Consumer<Lagless>> calls = calls();
        String end = shown(told(story, story.size()));
        int refused = 0;
        for (int place = 0; place <= story.size(); place++) {
            String here = shown(told(story, place));
            for (int n = 0; n < calls.size(); n++) {
                Lagless x = told(story, place);
                if (refuses(x, calls.get(n))) {
                    refused++;
                    String what = "the call " + n + " at the place " + place;
                    is(what + ", at once", shown(x), here);
                    story.subList(place, story.size()).forEach(step -> step.accept(x));
                    is(what + ", at the end", shown(x), end);
                    is(what + ", the instructions", x.begin(1, 0, 1, 0), 13);
                }
            }
        }
        is("many are refused", refused > 1000, true);
    }

    private static Lagless told(List<Consumer<Lagless>> story, int steps) {
        Lagless x = new Lagless();
        story.subList(0, steps).forEach(step -> step.accept(x));
        return x;
    }

    private static boolean refuses(Lagless x, Consumer<Lagless> call) {
        try {
            call.accept(x);
            return false;
        } catch (RuntimeException e) {
            return true;
        }
    }

    private static List<Consumer<Lagless>> story() {
        List<Consumer<Lagless>> story = new ArrayList<>();
        story.add(x -> program(x, 0, "i 0 0", "i 1 1", "r 3 200", "+ 4 0", "- 5 1", "* 6 3", "s 0 0", "s 1 0"));
        story.add(x -> program(x, 1, ADDING));
        story.add(x -> x.begin(3, 1, 2, 99));
        story.add(x -> x.agree(3, 7, 70));
        for (int n = 0; n < 18; n++) {
            int peer = n % 3;
            int other = (peer + 1 + n % 2) % 3;
            int input = n * 7 % 15 + 1;
            int packet = n;
            // Not always who advances then, or what a press has changed would never show.
            int presser = n % 2 == 0 ? peer : (peer + 1) % 3;
            story.add(x -> x.press(presser, input));
            story.add(x -> x.advance(peer));
            story.add(x -> x.send(peer, other));
            story.add(x -> x.deliver(packet));
        }
        story.add(x -> x.poke(0, 8, 80));
        story.add(x -> x.leave(1));
        story.add(x -> times(9, () -> x.agree(100, 9, 90)));
        story.add(x -> x.leave(2));
        story.add(x -> times(120 - x.frameOf(0), () -> x.advance(0)));
        story.add(x -> times(200 - 18, () -> x.send(0, 1)));
        return story;
    }

    private static void times(int count, Runnable call) {
        for (int n = 0; n < count; n++) {
            call.run();
        }
    }

    /** Returns calls of all methods that can throw, most of which are refused somewhere in the story. */
    private static List<Consumer<Lagless>> calls() {
        List<Consumer<Lagless>> calls = new ArrayList<>();
        calls.add(x -> x.addInstruction(3, 'w', 0, 0));
        calls.add(x -> x.addInstruction(0, '!', 0, 0));
        calls.add(x -> x.addInstruction(0, '=', 0, 256));
        calls.add(x -> x.addInstruction(2, 'w', 0, 0));
        calls.add(x -> x.begin(4, 4, 10, 5));
        calls.add(x -> x.begin(1, 5, 10, 5));
        calls.add(x -> x.begin(1, 4, 11, 5));
        calls.add(x -> x.begin(1, 4, 10, -1));
        calls.add(x -> x.againShare());
        for (int n = -1; n <= 3; n++) {
            addCallsOf(calls, n);
            int to = n;
            calls.add(x -> x.send(0, to));
            calls.add(x -> x.send(1, to));
            calls.add(x -> x.fork(0, to, 0, 9));
            calls.add(x -> x.known(0, to));
            calls.add(x -> x.differs(0, to));
        }
        for (int packet : new int[] {-1, 0, 1, 2, 3, 4, 5, 200}) {
            calls.add(x -> x.deliver(packet));
            calls.add(x -> x.inputsIn(packet));
        }
        for (int frame : new int[] {-1, 0, 5, 119, 120}) {
            calls.add(x -> x.agree(frame, 0, 1));
            calls.add(x -> x.agree(frame, 16, 1));
            calls.add(x -> x.agree(frame, 0, 256));
            calls.add(x -> x.wholly(frame));
            calls.add(x -> x.fork(0, 0, frame, 9));
        }
        return calls;
    }

    private static void addCallsOf(List<Consumer<Lagless>> calls, int peer) {
        calls.add(x -> x.press(peer, 13));
        calls.add(x -> x.press(peer, 16));
        calls.add(x -> x.advance(peer));
        calls.add(x -> x.cell(peer, 16));
        calls.add(x -> x.tile(peer, 12, 0));
        calls.add(x -> x.sumBehind(peer, 3));
        calls.add(x -> x.sound(peer, 5));
        calls.add(x -> x.send(peer, 1));
        calls.add(x -> x.apart(peer));
        calls.add(x -> x.poke(peer, 16, 1));
        calls.add(x -> x.poke(peer, 1, 256));
        calls.add(x -> x.leave(peer));
        calls.add(x -> x.again(peer));
        calls.add(x -> x.meanBack(peer));
    }

    /** Returns all that a game shows. */
    private static String shown(Lagless x) {
        StringBuilder all = new StringBuilder();
        for (int n = 0; n < 3; n++) {
            int peer = n;
            add(all, () -> x.frameOf(peer));
            if (all.toString().endsWith(INDEX.getSimpleName())) {
                break;
            }
            add(all, () -> x.sure(peer), () -> x.runs(peer), () -> x.stalls(peer), () -> x.goneBack(peer));
            add(all, () -> x.guesses(peer), () -> x.played(peer), () -> x.cut(peer), () -> x.again(peer));
            add(all, () -> x.apart(peer), () -> x.meanBack(peer));
            for (int m = 0; m < 16; m++) {
                int cell = m;
                add(all, () -> x.cell(peer, cell));
            }
            for (int m = 0; m < 3; m++) {
                int other = m;
                add(all, () -> x.known(peer, other), () -> x.differs(peer, other));
            }
            for (int frames = 0; frames <= x.sure(peer); frames++) {
                all.append(' ').append(x.sumBehind(peer, frames));
            }
            for (int place = 0; place < x.played(peer); place++) {
                all.append(' ').append(x.sound(peer, place));
            }
        }
        for (int packet = 0; packet < 200 && hasPacket(x, packet); packet++) {
            all.append(' ').append(x.inputsIn(packet));
        }
        add(all, x::againShare, x::isSound, () -> x.wholly(0));
        return all.toString();
    }

    private static boolean hasPacket(Lagless x, int packet) {
        return !outcome(() -> x.inputsIn(packet)).equals(INDEX.getSimpleName());
    }

    @SafeVarargs
    private static void add(StringBuilder all, Supplier<Object>... calls) {
        for (Supplier<Object> call : calls) {
            all.append(' ').append(outcome(call));
        }
    }

    // ---- of several exceptions, the first

    private static void throwsTheFirstOfTheMachine() {
        Lagless x = new Lagless();
        fails("no bank and no op", INDEX, () -> x.addInstruction(3, '!', 0, 0));
        fails("no bank and no cell", INDEX, () -> x.addInstruction(-1, '=', 16, 0));
        for (int n = 0; n < 20; n++) {
            x.addInstruction(1, 'w', 0, 0);
        }
        fails("a full bank and no op", ARGUMENT, () -> x.addInstruction(1, '!', 0, 0));
        fails("a full bank and no cell", ARGUMENT, () -> x.addInstruction(1, 's', 16, 0));
        x.begin(2, 0, 1, 0);
        fails("begun and no bank", INDEX, () -> x.addInstruction(3, 'w', 0, 0));
        fails("begun, no bank and no op", INDEX, () -> x.addInstruction(3, '!', 0, 0));
        fails("begun and no op", ARGUMENT, () -> x.addInstruction(0, '!', 0, 0));
        fails("begun, full and no cell", ARGUMENT, () -> x.addInstruction(1, 's', -1, 0));
    }

    private static void throwsTheFirstOfPeers() {
        Lagless x = new Lagless();
        fails("no game and no input", INDEX, () -> x.press(0, 16));
        fails("no game and no cell", INDEX, () -> x.cell(0, 16));
        fails("no game and no column", INDEX, () -> x.tile(0, 12, 8));
        fails("no game and no frames", INDEX, () -> x.sumBehind(0, -1));
        x.begin(2, 0, 1, 0);
        fails("no peer and no input", INDEX, () -> x.press(2, 16));
        fails("no peer and no cell", INDEX, () -> x.cell(2, 16));
        fails("no peer and no column", INDEX, () -> x.tile(2, 12, 0));
        fails("no peer and no row", INDEX, () -> x.tile(2, 0, 8));
        fails("no peer and no frames", INDEX, () -> x.sumBehind(2, -1));
        x.leave(1);
        for (int n = 0; n < 120; n++) {
            x.advance(0);
        }
        fails("left and no input", ARGUMENT, () -> x.press(1, 16));
        Lagless end = begun(3, 0, 1);
        end.leave(1);
        end.leave(2);
        for (int n = 0; n < 120; n++) {
            end.advance(0);
        }
        fails("120 frames", STATE, () -> end.advance(0));
        Lagless both = begun(2, 0, 10);
        for (int n = 0; n < 120; n++) {
            both.advance(0);
            both.advance(1);
            if (n % 9 == 0) {
                pass(both, 0, 1);
                pass(both, 1, 0);
            }
        }
        both.leave(0);
        fails("left and 120 frames", UNSUPPORTED, () -> both.advance(0));
    }

    private static void throwsTheFirstOfPackets() {
        Lagless x = new Lagless();
        fails("no game and the same", INDEX, () -> x.send(0, 0));
        x.begin(3, 0, 1, 0);
        fails("no peer and the same", INDEX, () -> x.send(3, 3));
        x.leave(1);
        fails("left and the same", ARGUMENT, () -> x.send(1, 1));
        fails("left and to no peer", INDEX, () -> x.send(1, 3));
        for (int n = 0; n < 200; n++) {
            x.send(0, 1);
        }
        fails("200 packets and from no peer", INDEX, () -> x.send(3, 0));
        fails("200 packets and to no peer", INDEX, () -> x.send(0, 3));
        fails("200 packets and the same", ARGUMENT, () -> x.send(0, 0));
        fails("200 packets, left and the same", ARGUMENT, () -> x.send(1, 1));
        fails("200 packets and left", UNSUPPORTED, () -> x.send(1, 0));
        fails("200 packets", STATE, () -> x.send(0, 1));
        fails("no packet", INDEX, () -> x.deliver(200));
        fails("its receiver has left", UNSUPPORTED, () -> x.deliver(199));
        fails("no peer that has not come apart", INDEX, () -> x.apart(3));
    }

    private static void throwsTheFirstOfChanges() {
        Lagless x = new Lagless();
        fails("no game and no frame", ARGUMENT, () -> x.agree(120, 0, 0));
        fails("no game and no cell to poke", INDEX, () -> x.poke(0, 16, 0));
        fails("no game and no input to fork", INDEX, () -> x.fork(0, 0, 0, 16));
        fails("no game and no frame to fork", INDEX, () -> x.fork(0, 0, -1, 0));
        fails("no game and no mean", INDEX, () -> x.meanBack(0));
        x.begin(2, 0, 10, 0);
        x.advance(0);
        fails("a frame that was run and no cell", ARGUMENT, () -> x.agree(0, 16, 0));
        for (int n = 0; n < 10; n++) {
            x.agree(1, 0, 0);
        }
        fails("10 changes and a frame that was run", UNSUPPORTED, () -> x.agree(0, 0, 0));
        fails("10 changes and no number", ARGUMENT, () -> x.agree(1, 0, 256));
        fails("10 changes, a frame that was run and no number", ARGUMENT, () -> x.agree(0, 0, 256));
        fails("10 changes", STATE, () -> x.agree(1, 0, 0));
        fails("no peer and no cell to poke", INDEX, () -> x.poke(2, 16, 0));
        fails("no peer and no number to poke", INDEX, () -> x.poke(2, 0, 256));
        fails("no peer to fork, and no input", INDEX, () -> x.fork(2, 0, 0, 16));
        fails("no other to fork, and no input", INDEX, () -> x.fork(0, 2, 0, 16));
        fails("no other to fork, and no frame", INDEX, () -> x.fork(0, 2, 1, 0));
        fails("no input to fork, and no frame", ARGUMENT, () -> x.fork(0, 0, 1, 16));
        fails("no frame to fork", NO_SUCH, () -> x.fork(0, 0, 1, 0));
        fails("no peer and no mean", INDEX, () -> x.meanBack(2));
        fails("no peer that could leave", INDEX, () -> x.leave(2));
    }
}
