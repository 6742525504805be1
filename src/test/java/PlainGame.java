import java.util.ArrayList;
import java.util.LinkedHashMap;
import java.util.List;
import java.util.Map;
import java.util.NoSuchElementException;
import java.util.function.Supplier;

/**
 * The document once more, in its plainest form and with other means than the class: lists that grow,
 * copies of everything, inputs carried inside packets. RandomRunsTest holds the class against it.
 */
final class PlainGame {
    private static final String CELL_AND_CELL = ":+-*/<[]";

    private record Instruction(char op, int a, int b) {
    }

    private record Change(int frame, int cell, int number) {
    }

    private record Packet(int from, int to, int start, List<Integer> inputs, int word, int sure, long sum) {
    }

    private static final class State {
        final int[] cells = new int[16];
        int bank;
        int place;
        int random;
        int faults;

        State copy() {
            State other = new State();
            System.arraycopy(cells, 0, other.cells, 0, 16);
            other.bank = bank;
            other.place = place;
            other.random = random;
            other.faults = faults;
            return other;
        }

        long sum() {
            long sum = 17;
            for (int cell : cells) {
                sum = 31 * sum + cell;
            }
            sum = 31 * sum + bank;
            sum = 31 * sum + place;
            sum = 31 * sum + random;
            return 31 * sum + faults;
        }
    }

    private static final class Player {
        int pressed;
        boolean left;
        // For each peer, itself too, the inputs that this one knows.
        final List<List<Integer>> knows = new ArrayList<>();
        final int[] word = new int[3];
        final List<State> ahead = new ArrayList<>();
        final List<List<Integer>> ranWith = new ArrayList<>();
        // Each sound that was played, with whether it is cut.
        final Map<Integer, Boolean> sounds = new LinkedHashMap<>();
        final List<Integer> ways = new ArrayList<>();
        int runs;
        int stalls;
        Integer apart;

        int frame() {
            return ranWith.size();
        }

        int sure() {
            int sure = frame();
            for (List<Integer> known : knows) {
                sure = Math.min(sure, known.size());
            }
            return sure;
        }

        int take(int other, int frame) {
            List<Integer> known = knows.get(other);
            if (known.isEmpty()) {
                return 0;
            }
            return known.get(Math.min(frame, known.size() - 1));
        }

        List<Integer> takeAll(int frame) {
            List<Integer> all = new ArrayList<>();
            for (int other = 0; other < knows.size(); other++) {
                all.add(take(other, frame));
            }
            return all;
        }
    }

    private final List<List<Instruction>> banks =
            List.of(new ArrayList<>(), new ArrayList<>(), new ArrayList<>());
    private final List<Player> players = new ArrayList<>();
    private final List<Packet> packets = new ArrayList<>();
    private final List<Change> changes = new ArrayList<>();
    private int delay;
    private int bound;
    private int seed;

    private static void refuse(boolean so, Supplier<RuntimeException> why) {
        if (so) {
            throw why.get();
        }
    }

    private static boolean out(int number, int least, int most) {
        return number < least || number > most;
    }

    private Player player(int peer) {
        refuse(out(peer, 0, players.size() - 1), IndexOutOfBoundsException::new);
        return players.get(peer);
    }

    private static boolean wrong(char op, int a, int b) {
        boolean a16 = out(a, 0, 15);
        if (CELL_AND_CELL.indexOf(op) >= 0) {
            return a16 || out(b, 0, 15);
        }
        return switch (op) {
            case '=' -> a16 || out(b, 0, 255);
            case 'i' -> a16 || out(b, 0, 2);
            case 'r' -> a16 || out(b, 1, 256);
            case 'j' -> out(a, 0, 19);
            case 'z' -> a16 || out(b, 0, 19);
            case 'b' -> out(a, 0, 2);
            case 's' -> a16;
            case 'w' -> false;
            default -> true;
        };
    }

    int addInstruction(int bank, char op, int a, int b) {
        refuse(out(bank, 0, 2), IndexOutOfBoundsException::new);
        refuse(wrong(op, a, b), IllegalArgumentException::new);
        refuse(banks.get(bank).size() == 20 || !players.isEmpty(), IllegalStateException::new);
        banks.get(bank).add(new Instruction(op, a, b));
        return banks.get(bank).size();
    }

    int begin(int peers, int delay, int bound, int seed) {
        refuse(out(peers, 1, 3) || out(delay, 0, 4) || out(bound, 1, 10) || out(seed, 0, 65536),
                IllegalArgumentException::new);
        this.delay = delay;
        this.bound = bound;
        this.seed = seed;
        packets.clear();
        changes.clear();
        players.clear();
        for (int n = 0; n < peers; n++) {
            Player player = new Player();
            for (int other = 0; other < peers; other++) {
                player.knows.add(new ArrayList<>(java.util.Collections.nCopies(delay, 0)));
                player.word[other] = delay;
            }
            player.ahead.add(firstState());
            players.add(player);
        }
        return banks.get(0).size() + banks.get(1).size() + banks.get(2).size();
    }

    private State firstState() {
        State state = new State();
        state.random = seed;
        return state;
    }

    /** Runs a frame on a state, and returns the sounds that begin in it. */
    private List<Integer> run(State state, int frame, List<Integer> inputs) {
        for (Change change : changes) {
            if (change.frame == frame) {
                state.cells[change.cell] = change.number;
            }
        }
        List<Integer> begun = new ArrayList<>();
        int done = 0;
        while (done < 40) {
            List<Instruction> bank = banks.get(state.bank);
            if (state.place >= bank.size()) {
                state.place = 0;
                break;
            }
            Instruction now = bank.get(state.place);
            state.place++;
            done++;
            int faults = state.faults;
            perform(state, now, inputs, begun);
            if (now.op == 'w' || state.faults > faults) {
                break;
            }
        }
        return begun;
    }

    private void perform(State state, Instruction now, List<Integer> inputs, List<Integer> begun) {
        int[] c = state.cells;
        int a = now.a;
        int b = now.b;
        switch (now.op) {
            case '=' -> c[a] = b;
            case ':' -> c[a] = c[b];
            case '+' -> c[a] = (c[a] + c[b]) % 256;
            case '-' -> c[a] = (c[a] - c[b] + 256) % 256;
            case '*' -> c[a] = c[a] * c[b] % 256;
            case '/' -> {
                if (c[b] == 0) {
                    state.faults++;
                } else {
                    c[a] = c[a] / c[b];
                }
            }
            case '<' -> c[a] = c[a] < c[b] ? 1 : 0;
            case 'i' -> c[a] = b < inputs.size() ? inputs.get(b) : 0;
            case 'r' -> {
                state.random = (int) ((state.random * 75L + 74L) % 65537L);
                c[a] = state.random % b;
            }
            case '[' -> {
                if (c[b] > 15) {
                    state.faults++;
                } else {
                    c[a] = c[c[b]];
                }
            }
            case ']' -> {
                if (c[a] > 15) {
                    state.faults++;
                } else {
                    c[c[a]] = c[b];
                }
            }
            case 'j' -> state.place = a;
            case 'z' -> state.place = c[a] == 0 ? b : state.place;
            case 'b' -> {
                state.bank = a;
                state.place = 0;
            }
            case 's' -> begun.add(c[a]);
            default -> {
            }
        }
    }

    /** Runs a peer's next frame, the states behind which are not there (any more). */
    private void runNext(Player player) {
        int frame = player.frame();
        List<Integer> inputs = player.takeAll(frame);
        State state = player.ahead.get(frame).copy();
        List<Integer> begun = run(state, frame, inputs);
        player.ranWith.add(inputs);
        player.ahead.add(state);
        player.runs++;
        for (Map.Entry<Integer, Boolean> sound : player.sounds.entrySet()) {
            if (sound.getKey() / 1000 == frame) {
                sound.setValue(!begun.contains(sound.getKey() % 1000));
            }
        }
        for (int number : begun) {
            player.sounds.putIfAbsent(1000 * frame + number, false);
        }
    }

    private void lookBack(Player player) {
        int was = player.frame();
        int first = 0;
        while (first < was && player.ranWith.get(first).equals(player.takeAll(first))) {
            first++;
        }
        if (first == was) {
            return;
        }
        player.ways.add(was - first);
        while (player.frame() > first) {
            player.ranWith.remove(player.ranWith.size() - 1);
            player.ahead.remove(player.ahead.size() - 1);
        }
        while (player.frame() < was) {
            runNext(player);
        }
    }

    int press(int peer, int input) {
        Player player = player(peer);
        refuse(out(input, 0, 15), IllegalArgumentException::new);
        refuse(player.left, UnsupportedOperationException::new);
        int before = player.pressed;
        player.pressed = input;
        return before;
    }

    boolean advance(int peer) {
        Player player = player(peer);
        refuse(player.left, UnsupportedOperationException::new);
        refuse(player.frame() == 120, IllegalStateException::new);
        if (player.frame() - player.sure() == bound) {
            player.stalls++;
            return false;
        }
        player.knows.get(peer).add(player.pressed);
        runNext(player);
        return true;
    }

    int frameOf(int peer) {
        return player(peer).frame();
    }

    int sure(int peer) {
        return player(peer).sure();
    }

    int known(int peer, int other) {
        player(peer);
        return player(other).left ? 999 : player(peer).knows.get(other).size();
    }

    private State present(int peer) {
        return player(peer).ahead.get(player(peer).frame());
    }

    int cell(int peer, int cell) {
        player(peer);
        refuse(out(cell, 0, 15), IllegalArgumentException::new);
        return present(peer).cells[cell];
    }

    int tile(int peer, int x, int y) {
        player(peer);
        refuse(out(x, 0, 11) || out(y, 0, 7), IllegalArgumentException::new);
        return (present(peer).cells[(x + present(peer).cells[15]) % 12] + y) % 8;
    }

    long sumBehind(int peer, int frames) {
        refuse(out(frames, 0, player(peer).sure()), NoSuchElementException::new);
        return player(peer).ahead.get(frames).sum();
    }

    int goneBack(int peer) {
        return player(peer).ways.size();
    }

    int runs(int peer) {
        return player(peer).runs;
    }

    int stalls(int peer) {
        return player(peer).stalls;
    }

    int guesses(int peer) {
        int guesses = 0;
        for (int frame = 0; frame < player(peer).frame(); frame++) {
            for (List<Integer> known : player(peer).knows) {
                guesses += frame >= known.size() ? 1 : 0;
            }
        }
        return guesses;
    }

    int played(int peer) {
        return player(peer).sounds.size();
    }

    int sound(int peer, int index) {
        refuse(out(index, 0, player(peer).sounds.size() - 1), IndexOutOfBoundsException::new);
        return new ArrayList<>(player(peer).sounds.keySet()).get(index);
    }

    int cut(int peer) {
        int cut = 0;
        for (boolean silent : player(peer).sounds.values()) {
            cut += silent ? 1 : 0;
        }
        return cut;
    }

    int send(int from, int to) {
        Player sender = player(from);
        player(to);
        refuse(from == to, IllegalArgumentException::new);
        refuse(sender.left, UnsupportedOperationException::new);
        refuse(packets.size() == 200, IllegalStateException::new);
        List<Integer> own = sender.knows.get(from);
        int start = sender.word[to];
        packets.add(new Packet(from, to, start, new ArrayList<>(own.subList(start, own.size())),
                sender.knows.get(to).size(), sender.sure(), sender.ahead.get(sender.sure()).sum()));
        return packets.size() - 1;
    }

    boolean hasPacket(int number) {
        return number < packets.size();
    }

    int deliver(int number) {
        refuse(out(number, 0, packets.size() - 1), IndexOutOfBoundsException::new);
        Packet packet = packets.get(number);
        Player receiver = player(packet.to);
        refuse(receiver.left, UnsupportedOperationException::new);
        List<Integer> known = receiver.knows.get(packet.from);
        int fresh = 0;
        for (int n = 0; n < packet.inputs.size(); n++) {
            if (packet.start + n == known.size()) {
                known.add(packet.inputs.get(n));
                fresh++;
            }
        }
        receiver.word[packet.from] = Math.max(receiver.word[packet.from], packet.word);
        lookBack(receiver);
        if (receiver.sure() >= packet.sure && receiver.ahead.get(packet.sure).sum() != packet.sum) {
            receiver.apart = receiver.apart == null ? packet.sure : Math.min(receiver.apart, packet.sure);
        }
        return fresh;
    }

    int inputsIn(int packet) {
        refuse(out(packet, 0, packets.size() - 1), IndexOutOfBoundsException::new);
        return packets.get(packet).inputs.size();
    }

    int apart(int peer) {
        refuse(player(peer).apart == null, NoSuchElementException::new);
        return player(peer).apart;
    }

    int differs(int peer, int other) {
        Player one = player(peer);
        Player two = player(other);
        for (int frames = 0; frames <= one.sure() && frames <= two.sure(); frames++) {
            if (one.ahead.get(frames).sum() != two.ahead.get(frames).sum()) {
                return frames;
            }
        }
        return -1;
    }

    int agree(int frame, int cell, int number) {
        refuse(out(frame, 0, 119) || out(cell, 0, 15) || out(number, 0, 255), IllegalArgumentException::new);
        refuse(players.isEmpty(), UnsupportedOperationException::new);
        for (Player player : players) {
            refuse(player.frame() > frame, UnsupportedOperationException::new);
        }
        refuse(changes.size() == 10, IllegalStateException::new);
        changes.add(new Change(frame, cell, number));
        return changes.size();
    }

    int poke(int peer, int cell, int number) {
        player(peer);
        refuse(out(cell, 0, 15) || out(number, 0, 255), IllegalArgumentException::new);
        int before = present(peer).cells[cell];
        present(peer).cells[cell] = number;
        return before;
    }

    int leave(int peer) {
        Player leaver = player(peer);
        int staying = 0;
        int most = 0;
        for (Player player : players) {
            staying += player.left ? 0 : 1;
            most = player == leaver ? most : Math.max(most, player.knows.get(peer).size());
        }
        refuse(leaver.left || staying == 1, UnsupportedOperationException::new);
        leaver.left = true;
        for (Player player : players) {
            if (player != leaver) {
                List<Integer> known = player.knows.get(peer);
                for (int frame = known.size(); frame < 999; frame++) {
                    known.add(frame < most ? leaver.knows.get(peer).get(frame) : 0);
                }
                lookBack(player);
            }
        }
        return staying - 1;
    }

    /** Returns the sums behind a peer's sure frames, played again by its inputs, one of them another one. */
    private List<Long> sumsAgain(int peer, int other, int frame, int input) {
        State state = firstState();
        List<Long> sums = new ArrayList<>();
        sums.add(state.sum());
        for (int now = 0; now < player(peer).sure(); now++) {
            List<Integer> inputs = player(peer).takeAll(now);
            if (now == frame) {
                inputs.set(other, input);
            }
            run(state, now, inputs);
            sums.add(state.sum());
        }
        return sums;
    }

    long again(int peer) {
        return sumsAgain(peer, 0, -1, 0).get(player(peer).sure());
    }

    int fork(int peer, int other, int frame, int input) {
        player(peer);
        player(other);
        refuse(out(input, 0, 15), IllegalArgumentException::new);
        refuse(out(frame, 0, player(peer).sure() - 1), NoSuchElementException::new);
        List<Long> first = sumsAgain(peer, 0, -1, 0);
        List<Long> second = sumsAgain(peer, other, frame, input);
        for (int frames = 0; frames < first.size(); frames++) {
            if (!first.get(frames).equals(second.get(frames))) {
                return frames;
            }
        }
        return -1;
    }

    long wholly(int frames) {
        refuse(out(frames, 0, 120) || players.isEmpty(), NoSuchElementException::new);
        List<List<Integer>> told = new ArrayList<>();
        for (int peer = 0; peer < players.size(); peer++) {
            // Of one that has left, any other one has what is settled.
            int teller = players.get(peer).left ? (peer + 1) % players.size() : peer;
            told.add(players.get(teller).knows.get(peer));
            refuse(told.get(peer).size() < frames, NoSuchElementException::new);
        }
        State state = firstState();
        for (int frame = 0; frame < frames; frame++) {
            List<Integer> inputs = new ArrayList<>();
            for (List<Integer> of : told) {
                inputs.add(of.get(frame));
            }
            run(state, frame, inputs);
        }
        return state.sum();
    }

    float againShare() {
        int runs = 0;
        int again = 0;
        for (Player player : players) {
            runs += player.runs;
            again += player.runs - player.frame();
        }
        refuse(runs == 0, ArithmeticException::new);
        return (float) again / (float) runs;
    }

    double meanBack(int peer) {
        List<Integer> ways = player(peer).ways;
        refuse(ways.isEmpty(), ArithmeticException::new);
        int all = 0;
        for (int way : ways) {
            all += way;
        }
        return (double) all / (double) ways.size();
    }

    /** A game that keeps the promises cannot become unsound by calls. */
    boolean isSound() {
        return true;
    }
}
