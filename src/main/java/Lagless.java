import java.util.ArrayList;
import java.util.Arrays;
import java.util.NoSuchElementException;

/**
 * A game machine that several peers play over a slow net: each peer runs it by itself, guesses the
 * inputs that it does not know yet, and goes back and forward again when a guess was wrong.
 */
public final class Lagless {
    private static final int CELLS = 16;
    private static final int BANKS = 3;
    private static final int PLACES = 20;
    private static final int STEPS = 40;
    private static final int PEERS = 3;
    private static final int FRAMES = 120;
    private static final int MOST_DELAY = 4;
    private static final int MOST_BOUND = 10;
    private static final int MOST_CHANGES = 10;
    private static final int MOST_PACKETS = 200;
    private static final int NUMBERS = 256;
    private static final int MOST_INPUT = 15;
    private static final int RANDOM_MODULUS = 65537;
    private static final int COLUMNS = 12;
    private static final int ROWS = 8;
    private static final int KNOWN_OF_LEFT = 999;

    // A state is a row of numbers in the order in which its sum takes them: the cells, then these.
    private static final int BANK = 16;
    private static final int PLACE = 17;
    private static final int RANDOM = 18;
    private static final int FAULTS = 19;
    private static final int STATE = 20;

    private final Program program = new Program();
    private final Changes changes = new Changes();
    private final Machine machine = new Machine(program, changes);
    // All peers that there can be, and those of them who play: none ahead of the first game.
    private final Peer[] seats = new Peer[PEERS];
    private Peer[] peers = new Peer[0];
    private final ArrayList<Packet> packets = new ArrayList<Packet>();
    // Rows for playing again, made once, so that no call needs new ones.
    private final int[] replayed = new int[STATE];
    private final int[] forked = new int[STATE];
    private final int[] inputs = new int[PEERS];
    private int delay;
    private int bound;
    private int seed;

    /** Makes a machine without instructions, which nobody plays. */
    public Lagless() {
        for (int n = 0; n < seats.length; n++) {
            seats[n] = new Peer(n);
        }
    }

    // ---- the machine

    /** Adds an instruction to a bank, and returns how many the bank has then. */
    public int addInstruction(int bank, char op, int a, int b)
            throws IndexOutOfBoundsException, IllegalArgumentException, IllegalStateException {
        if (!within(bank, BANKS - 1)) {
            throw new IndexOutOfBoundsException("no such bank");
        }
        if (!Program.accepts(op, a, b)) {
            throw new IllegalArgumentException("no such instruction");
        }
        if (peers.length > 0 || program.size(bank) >= PLACES) {
            throw new IllegalStateException("the bank is full, or the game has begun");
        }
        program.append(bank, op, a, b);
        return program.size(bank);
    }

    /** Lets a new game begin, and returns how many instructions there are. */
    public int begin(int peers, int delay, int bound, int seed) throws IllegalArgumentException {
        boolean fits = peers >= 1 && within(peers, PEERS) && within(delay, MOST_DELAY)
                && bound >= 1 && within(bound, MOST_BOUND) && within(seed, RANDOM_MODULUS - 1);
        if (!fits) {
            throw new IllegalArgumentException("a number is out of range");
        }
        this.delay = delay;
        this.bound = bound;
        this.seed = seed;
        changes.clear();
        packets.clear();
        this.peers = new Peer[peers];
        for (int n = 0; n < this.peers.length && n < seats.length; n++) {
            seats[n].clear(delay, seed);
            this.peers[n] = seats[n];
        }
        return program.total();
    }

    // ---- peers

    /** Tells what a peer presses from now on, and returns what it pressed before. */
    public int press(int peer, int input)
            throws IndexOutOfBoundsException, IllegalArgumentException, UnsupportedOperationException {
        Peer presser = peerOf(peer);
        if (!within(input, MOST_INPUT)) {
            throw new IllegalArgumentException("no such input");
        }
        refuseLeft(presser);
        int before = presser.pressed;
        presser.pressed = input;
        return before;
    }

    /** Lets a peer advance by a frame, and returns whether it did not stall. */
    public boolean advance(int peer)
            throws IndexOutOfBoundsException, UnsupportedOperationException, IllegalStateException {
        Peer runner = peerOf(peer);
        refuseLeft(runner);
        if (runner.frame >= FRAMES) {
            throw new IllegalStateException("it has run all frames");
        }
        if (runner.frame - sureOf(runner) >= bound) {
            runner.stalls++;
            return false;
        }
        // Told ahead of the run, for without a delay it is the input of this very frame.
        runner.tell(delay);
        runFrame(runner, runner.frame);
        runner.frame++;
        return true;
    }

    /** Returns the frame at which a peer is. */
    public int frameOf(int peer) throws IndexOutOfBoundsException {
        return peerOf(peer).frame;
    }

    /** Returns the number of sure frames of a peer. */
    public int sure(int peer) throws IndexOutOfBoundsException {
        return sureOf(peerOf(peer));
    }

    /** Returns for how many frames a peer knows the inputs of another one, or its own. */
    public int known(int peer, int other) throws IndexOutOfBoundsException {
        return knownOf(peerOf(peer), peerOf(other));
    }

    /** Returns a cell of a peer's present state. */
    public int cell(int peer, int cell) throws IndexOutOfBoundsException, IllegalArgumentException {
        Peer shown = peerOf(peer);
        if (!within(cell, CELLS - 1)) {
            throw new IllegalArgumentException("no such cell");
        }
        return at(shown.present(), cell);
    }

    /** Returns a tile of a peer's present picture, which the cell 15 scrolls. */
    public int tile(int peer, int x, int y) throws IndexOutOfBoundsException, IllegalArgumentException {
        Peer shown = peerOf(peer);
        if (!within(x, COLUMNS - 1) || !within(y, ROWS - 1)) {
            throw new IllegalArgumentException("no such column or row");
        }
        int[] state = shown.present();
        int column = (x + at(state, CELLS - 1)) % COLUMNS;
        return (at(state, column) + y) % ROWS;
    }

    /** Returns the sum of a peer's state behind some of its sure frames. */
    public long sumBehind(int peer, int frames) throws IndexOutOfBoundsException, NoSuchElementException {
        Peer summed = peerOf(peer);
        if (!within(frames, sureOf(summed))) {
            throw new NoSuchElementException("not as many sure frames");
        }
        return sumOf(summed.stateBehind(frames));
    }

    /** Returns how often a peer has gone back. */
    public int goneBack(int peer) throws IndexOutOfBoundsException {
        return peerOf(peer).timesBack;
    }

    /** Returns how many frames a peer has run, those that it ran again each time. */
    public int runs(int peer) throws IndexOutOfBoundsException {
        return peerOf(peer).runs;
    }

    /** Returns how often a peer has stalled. */
    public int stalls(int peer) throws IndexOutOfBoundsException {
        return peerOf(peer).stalls;
    }

    /** Returns how many of the inputs with which a peer has run its frames are guesses now. */
    public int guesses(int peer) throws IndexOutOfBoundsException {
        Peer guesser = peerOf(peer);
        int guessed = 0;
        for (Peer other : peers) {
            guessed += Math.max(0, guesser.frame - knownOf(guesser, other));
        }
        return guessed;
    }

    /** Returns how many sounds a peer has played. */
    public int played(int peer) throws IndexOutOfBoundsException {
        return peerOf(peer).sounds.count();
    }

    /** Returns a sound that a peer has played: 1000 times the frame plus its number. */
    public int sound(int peer, int index) throws IndexOutOfBoundsException {
        Sounds heard = peerOf(peer).sounds;
        if (index < 0 || index >= heard.count()) {
            throw new IndexOutOfBoundsException("no such place");
        }
        return heard.soundAt(index);
    }

    /** Returns how many of the sounds that a peer has played are cut now. */
    public int cut(int peer) throws IndexOutOfBoundsException {
        return peerOf(peer).sounds.countCut();
    }

    // ---- packets

    /** Lets a peer send a packet, and returns the packet's number. */
    public int send(int from, int to) throws IndexOutOfBoundsException, IllegalArgumentException,
            UnsupportedOperationException, IllegalStateException {
        Peer sender = peerOf(from);
        Peer receiver = peerOf(to);
        if (from == to) {
            throw new IllegalArgumentException("both are the same");
        }
        refuseLeft(sender);
        if (packets.size() >= MOST_PACKETS) {
            throw new IllegalStateException("too many packets");
        }
        packets.add(packed(sender, receiver));
        return packets.size() - 1;
    }

    /** Delivers a packet, and returns how many of its inputs the receiver did not know. */
    public int deliver(int packet) throws IndexOutOfBoundsException, UnsupportedOperationException {
        Packet delivered = packetOf(packet);
        Peer receiver = peerOf(delivered.to);
        Peer sender = peerOf(delivered.from);
        refuseLeft(receiver);
        int fresh = Math.max(0, delivered.end - knownOf(receiver, sender));
        if (fresh > 0) {
            put(receiver.knows, delivered.from, delivered.end);
        }
        // A late packet brings old word, which takes nothing back.
        put(receiver.word, delivered.from, Math.max(at(receiver.word, delivered.from), delivered.word));
        goBack(receiver);
        compare(receiver, delivered);
        return fresh;
    }

    /** Returns how many inputs a packet has. */
    public int inputsIn(int packet) throws IndexOutOfBoundsException {
        Packet shown = packetOf(packet);
        return shown.end - shown.start;
    }

    /** Returns behind how many frames a peer has come apart, as far as packets told it. */
    public int apart(int peer) throws IndexOutOfBoundsException, NoSuchElementException {
        int frames = peerOf(peer).apartBehind;
        if (frames < 0) {
            throw new NoSuchElementException("it has not come apart");
        }
        return frames;
    }

    /** Returns behind how many sure frames the sums of two peers differ first, or -1. */
    public int differs(int peer, int other) throws IndexOutOfBoundsException {
        Peer one = peerOf(peer);
        Peer two = peerOf(other);
        int both = Math.min(sureOf(one), sureOf(two));
        for (int frames = 0; frames <= both; frames++) {
            if (sumOf(one.stateBehind(frames)) != sumOf(two.stateBehind(frames))) {
                return frames;
            }
        }
        return -1;
    }

    // ---- changes

    /** Agrees on a change of a cell at a frame, and returns how many changes are agreed. */
    public int agree(int frame, int cell, int number)
            throws IllegalArgumentException, UnsupportedOperationException, IllegalStateException {
        if (!within(frame, FRAMES - 1) || !within(cell, CELLS - 1) || !within(number, NUMBERS - 1)) {
            throw new IllegalArgumentException("a number is out of range");
        }
        if (peers.length == 0 || furthestFrame() > frame) {
            throw new UnsupportedOperationException("the frame was run, or the game has not begun");
        }
        if (changes.count() >= MOST_CHANGES) {
            throw new IllegalStateException("too many changes");
        }
        changes.append(frame, cell, number);
        return changes.count();
    }

    /** Pokes a cell of a peer's present state, and returns the number before. */
    public int poke(int peer, int cell, int number)
            throws IndexOutOfBoundsException, IllegalArgumentException {
        Peer poked = peerOf(peer);
        if (!within(cell, CELLS - 1) || !within(number, NUMBERS - 1)) {
            throw new IllegalArgumentException("a number is out of range");
        }
        int before = at(poked.present(), cell);
        put(poked.present(), cell, number);
        poked.poked = true;
        return before;
    }

    /** Lets a peer leave, and returns how many peers are left. */
    public int leave(int peer) throws IndexOutOfBoundsException, UnsupportedOperationException {
        Peer leaver = peerOf(peer);
        refuseLeft(leaver);
        if (countStaying() <= 1) {
            throw new UnsupportedOperationException("it is the last one");
        }
        int most = 0;
        for (Peer other : peers) {
            if (other != leaver) {
                most = Math.max(most, at(other.knows, peer));
            }
        }
        leaver.left = true;
        leaver.lastKnown = most;
        for (Peer other : peers) {
            if (other != leaver) {
                goBack(other);
            }
        }
        return countStaying();
    }

    /** Plays what a peer has sure again, and returns the sum behind its sure frames. */
    public long again(int peer) throws IndexOutOfBoundsException {
        Peer player = peerOf(peer);
        int sure = sureOf(player);
        Machine.reset(replayed, seed);
        for (int frame = 0; frame < sure; frame++) {
            machine.runFrame(replayed, frame, player.inputsOf(frame), null);
        }
        return sumOf(replayed);
    }

    /** Plays what a peer has sure again with another input, and returns where the sum differs first. */
    public int fork(int peer, int other, int frame, int input)
            throws IndexOutOfBoundsException, IllegalArgumentException, NoSuchElementException {
        Peer player = peerOf(peer);
        peerOf(other);
        if (!within(input, MOST_INPUT)) {
            throw new IllegalArgumentException("no such input");
        }
        int sure = sureOf(player);
        if (frame < 0 || frame >= sure) {
            throw new NoSuchElementException("not one of its sure frames");
        }
        Machine.reset(replayed, seed);
        Machine.reset(forked, seed);
        for (int played = 0; played < sure; played++) {
            copy(player.inputsOf(played), inputs);
            machine.runFrame(replayed, played, inputs, null);
            if (played == frame) {
                put(inputs, other, input);
            }
            machine.runFrame(forked, played, inputs, null);
            if (sumOf(replayed) != sumOf(forked)) {
                return played + 1;
            }
        }
        return -1;
    }

    /** Returns the sum of one machine that got all inputs in time, behind some frames. */
    public long wholly(int frames) throws NoSuchElementException {
        if (peers.length == 0 || !within(frames, Math.min(FRAMES, toldByAll()))) {
            throw new NoSuchElementException("not all inputs of these frames are told");
        }
        Machine.reset(replayed, seed);
        for (int frame = 0; frame < frames; frame++) {
            runWholly(frame);
        }
        return sumOf(replayed);
    }

    /** Returns the share of the frames that all peers have run that were run again. */
    public float againShare() throws ArithmeticException {
        int runs = 0;
        int frames = 0;
        for (Peer peer : peers) {
            runs += peer.runs;
            frames += peer.frame;
        }
        if (runs == 0) {
            throw new ArithmeticException("none was run");
        }
        return (float) (runs - frames) / (float) runs;
    }

    /** Returns the mean number of frames that a peer went back. */
    public double meanBack(int peer) throws IndexOutOfBoundsException, ArithmeticException {
        Peer runner = peerOf(peer);
        if (runner.timesBack == 0) {
            throw new ArithmeticException("it never went back");
        }
        return (double) runner.framesBack / (double) runner.timesBack;
    }

    /** Checks the game. */
    public boolean isSound() {
        for (Peer peer : peers) {
            boolean sound = peer.left || peer.frame - sureOf(peer) <= bound
                    && knowsWhatWasTold(peer) && peer.sounds.allPlayed();
            if (!sound) {
                return false;
            }
        }
        return sumsAreWhole();
    }

    // ---- looking at arguments

    private static boolean within(int number, int most) {
        return number >= 0 && number <= most;
    }

    private Peer peerOf(int number) {
        if (number < 0 || number >= peers.length) {
            throw new IndexOutOfBoundsException("no such peer");
        }
        return peers[number];
    }

    private Packet packetOf(int number) {
        if (number < 0 || number >= packets.size()) {
            throw new IndexOutOfBoundsException("no such packet");
        }
        return packets.get(number);
    }

    private static void refuseLeft(Peer peer) {
        if (peer.left) {
            throw new UnsupportedOperationException("it has left");
        }
    }

    // ---- rows of numbers, with every index looked at

    private static int at(int[] row, int index) {
        return index >= 0 && index < row.length ? row[index] : 0;
    }

    private static void put(int[] row, int index, int number) {
        if (index >= 0 && index < row.length) {
            row[index] = number;
        }
    }

    private static long atLong(long[] row, int index) {
        return index >= 0 && index < row.length ? row[index] : 0L;
    }

    private static void putLong(long[] row, int index, long number) {
        if (index >= 0 && index < row.length) {
            row[index] = number;
        }
    }

    private static void copy(int[] from, int[] to) {
        System.arraycopy(from, 0, to, 0, Math.min(from.length, to.length));
    }

    private static long sumOf(int[] state) {
        long sum = 17;
        for (int n = 0; n < state.length; n++) {
            sum = 31 * sum + state[n];
        }
        return sum;
    }

    // ---- what peers know

    private int knownOf(Peer peer, Peer other) {
        if (other.left) {
            return KNOWN_OF_LEFT;
        }
        return peer == other ? other.toldFrames(delay) : at(peer.knows, other.number);
    }

    private int sureOf(Peer peer) {
        int frames = peer.frame;
        for (Peer other : peers) {
            frames = Math.min(frames, knownOf(peer, other));
        }
        return frames;
    }

    /** Returns the input of another peer, or its own, that a peer takes for a frame now. */
    private int takenInput(Peer peer, Peer other, int frame) {
        if (peer == other) {
            return at(other.told, frame);
        }
        if (other.left) {
            return other.settledInput(frame);
        }
        // Without any known one, the index is -1 and the guess is 0.
        return at(other.told, Math.min(frame, at(peer.knows, other.number) - 1));
    }

    private int toldByAll() {
        int frames = FRAMES;
        for (Peer peer : peers) {
            if (!peer.left) {
                frames = Math.min(frames, peer.toldFrames(delay));
            }
        }
        return frames;
    }

    private int countStaying() {
        int staying = 0;
        for (Peer peer : peers) {
            if (!peer.left) {
                staying++;
            }
        }
        return staying;
    }

    private int furthestFrame() {
        int furthest = 0;
        for (Peer peer : peers) {
            furthest = Math.max(furthest, peer.frame);
        }
        return furthest;
    }

    // ---- running and going back

    private void runFrame(Peer peer, int frame) {
        int[] taken = peer.inputsOf(frame);
        Arrays.fill(taken, 0);
        for (Peer other : peers) {
            put(taken, other.number, takenInput(peer, other, frame));
        }
        int[] state = peer.stateBehind(frame + 1);
        copy(peer.stateBehind(frame), state);
        peer.sounds.open(frame);
        machine.runFrame(state, frame, taken, peer.sounds);
        peer.runs++;
    }

    private void goBack(Peer peer) {
        int first = firstOtherFrame(peer);
        if (first >= peer.frame) {
            return;
        }
        peer.timesBack++;
        peer.framesBack += peer.frame - first;
        for (int frame = first; frame < peer.frame; frame++) {
            runFrame(peer, frame);
        }
    }

    /** Returns the first frame run with another input than a peer would take now, or its present frame. */
    private int firstOtherFrame(Peer peer) {
        for (int frame = 0; frame < peer.frame; frame++) {
            for (Peer other : peers) {
                if (at(peer.inputsOf(frame), other.number) != takenInput(peer, other, frame)) {
                    return frame;
                }
            }
        }
        return peer.frame;
    }

    // ---- packing and comparing

    private Packet packed(Peer sender, Peer receiver) {
        Packet packet = new Packet(sender.number, receiver.number);
        packet.start = at(sender.word, receiver.number);
        packet.end = sender.toldFrames(delay);
        packet.word = knownOf(sender, receiver);
        packet.sureFrames = sureOf(sender);
        packet.sum = sumOf(sender.stateBehind(packet.sureFrames));
        return packet;
    }

    private void compare(Peer receiver, Packet packet) {
        int frames = packet.sureFrames;
        if (sureOf(receiver) < frames || sumOf(receiver.stateBehind(frames)) == packet.sum) {
            return;
        }
        if (receiver.apartBehind < 0 || frames < receiver.apartBehind) {
            receiver.apartBehind = frames;
        }
    }

    // ---- one machine that got all inputs in time

    private void runWholly(int frame) {
        Arrays.fill(inputs, 0);
        for (Peer peer : peers) {
            put(inputs, peer.number, peer.settledInput(frame));
        }
        machine.runFrame(replayed, frame, inputs, null);
    }

    private boolean knowsWhatWasTold(Peer peer) {
        for (Peer other : peers) {
            int known = knownOf(peer, other);
            if (!other.left && known > other.toldFrames(delay)) {
                return false;
            }
            for (int frame = 0; frame < Math.min(known, peer.frame); frame++) {
                if (at(peer.inputsOf(frame), other.number) != other.settledInput(frame)) {
                    return false;
                }
            }
        }
        return true;
    }

    private boolean sumsAreWhole() {
        int told = toldByAll();
        Machine.reset(replayed, seed);
        for (int frames = 0; frames <= told; frames++) {
            if (!isSumOfAll(sumOf(replayed), frames)) {
                return false;
            }
            runWholly(frames);
        }
        return true;
    }

    /** Returns whether a sum is that of all who have as many frames sure and were not poked. */
    private boolean isSumOfAll(long sum, int frames) {
        for (Peer peer : peers) {
            boolean bare = !peer.left && !peer.poked && frames <= sureOf(peer);
            if (bare && sumOf(peer.stateBehind(frames)) != sum) {
                return false;
            }
        }
        return true;
    }

    /** The instructions, bank by bank. */
    private static final class Program {
        private final int[] sizes = new int[BANKS];
        private final int[] ops = new int[BANKS * PLACES];
        private final int[] firsts = new int[BANKS * PLACES];
        private final int[] seconds = new int[BANKS * PLACES];

        static boolean accepts(char op, int a, int b) {
            switch (op) {
                case '=':
                    return isCell(a) && within(b, NUMBERS - 1);
                case ':':
                case '+':
                case '-':
                case '*':
                case '/':
                case '<':
                case '[':
                case ']':
                    return isCell(a) && isCell(b);
                case 'i':
                    return isCell(a) && within(b, PEERS - 1);
                case 'r':
                    return isCell(a) && b >= 1 && within(b, NUMBERS);
                case 'j':
                    return within(a, PLACES - 1);
                case 'z':
                    return isCell(a) && within(b, PLACES - 1);
                case 'b':
                    return within(a, BANKS - 1);
                case 's':
                    return isCell(a);
                default:
                    return op == 'w';
            }
        }

        private static boolean isCell(int number) {
            return within(number, CELLS - 1);
        }

        void append(int bank, char op, int a, int b) {
            int index = indexOf(bank, size(bank));
            put(ops, index, op);
            put(firsts, index, a);
            put(seconds, index, b);
            put(sizes, bank, size(bank) + 1);
        }

        int size(int bank) {
            return at(sizes, bank);
        }

        int total() {
            int all = 0;
            for (int bank = 0; bank < BANKS; bank++) {
                all += size(bank);
            }
            return all;
        }

        int indexOf(int bank, int place) {
            return bank * PLACES + place;
        }

        int op(int index) {
            return at(ops, index);
        }

        int first(int index) {
            return at(firsts, index);
        }

        int second(int index) {
            return at(seconds, index);
        }
    }

    /** The changes that all have agreed on, in the order in which they did. */
    private static final class Changes {
        private final int[] frames = new int[MOST_CHANGES];
        private final int[] cells = new int[MOST_CHANGES];
        private final int[] numbers = new int[MOST_CHANGES];
        private int agreed;

        int count() {
            return agreed;
        }

        void clear() {
            agreed = 0;
        }

        void append(int frame, int cell, int number) {
            put(frames, agreed, frame);
            put(cells, agreed, cell);
            put(numbers, agreed, number);
            agreed++;
        }

        void makeIn(int[] state, int frame) {
            for (int n = 0; n < agreed; n++) {
                if (at(frames, n) == frame) {
                    put(state, at(cells, n), at(numbers, n));
                }
            }
        }
    }

    /** Runs frames: makes a state, in place, from the one ahead of the frame. */
    private static final class Machine {
        private final Program program;
        private final Changes changes;

        Machine(Program program, Changes changes) {
            this.program = program;
            this.changes = changes;
        }

        static void reset(int[] state, int seed) {
            Arrays.fill(state, 0);
            put(state, RANDOM, seed);
        }

        /** Runs a frame; the sounds are null when nobody shall hear them. */
        void runFrame(int[] state, int frame, int[] inputs, Sounds sounds) {
            changes.makeIn(state, frame);
            for (int step = 0; step < STEPS; step++) {
                int bank = at(state, BANK);
                int place = at(state, PLACE);
                if (place >= program.size(bank)) {
                    put(state, PLACE, 0);
                    return;
                }
                put(state, PLACE, place + 1);
                if (!obey(state, program.indexOf(bank, place), inputs, sounds)) {
                    return;
                }
            }
        }

        /** Does an instruction, with the place behind it already; returns whether the frame goes on. */
        private boolean obey(int[] state, int index, int[] inputs, Sounds sounds) {
            int op = program.op(index);
            int a = program.first(index);
            int b = program.second(index);
            if (isFault(state, op, a, b)) {
                put(state, FAULTS, at(state, FAULTS) + 1);
                return false;
            }
            switch (op) {
                case 'w':
                    return false;
                case 'j':
                case 'z':
                case 'b':
                    jump(state, op, a, b);
                    return true;
                case 's':
                    if (sounds != null) {
                        sounds.start(at(state, a));
                    }
                    return true;
                case 'i':
                    put(state, a, at(inputs, b));
                    return true;
                case 'r':
                    put(state, a, draw(state, b));
                    return true;
                case ']':
                    put(state, at(state, a), at(state, b));
                    return true;
                default:
                    put(state, a, computed(state, op, a, b));
                    return true;
            }
        }

        private static boolean isFault(int[] state, int op, int a, int b) {
            switch (op) {
                case '/':
                    return at(state, b) == 0;
                case '[':
                    return at(state, b) >= CELLS;
                case ']':
                    return at(state, a) >= CELLS;
                default:
                    return false;
            }
        }

        private static void jump(int[] state, int op, int a, int b) {
            if (op == 'j') {
                put(state, PLACE, a);
            } else if (op == 'b') {
                put(state, BANK, a);
                put(state, PLACE, 0);
            } else if (at(state, a) == 0) {
                put(state, PLACE, b);
            }
        }

        /** Returns the next random number modulo another one. */
        private static int draw(int[] state, int modulus) {
            int random = (at(state, RANDOM) * 75 + 74) % RANDOM_MODULUS;
            put(state, RANDOM, random);
            return modulus > 0 ? random % modulus : 0;
        }

        /** Returns what the cell a becomes by an instruction that only looks at cells. */
        private static int computed(int[] state, int op, int a, int b) {
            int x = at(state, a);
            int y = at(state, b);
            switch (op) {
                case '=':
                    return b;
                case '+':
                    return Math.floorMod(x + y, NUMBERS);
                case '-':
                    return Math.floorMod(x - y, NUMBERS);
                case '*':
                    return Math.floorMod(x * y, NUMBERS);
                case '/':
                    return y != 0 ? x / y : 0;
                case '<':
                    return x < y ? 1 : 0;
                case '[':
                    return at(state, y);
                default:
                    return y;
            }
        }
    }

    /** What a peer plays: for each frame, which sounds begin in it now, and which were ever played. */
    private static final class Sounds {
        // A frame has 256 numbers: a bit each, 64 in a word.
        private static final int WORDS = 4;
        private static final int MOST = FRAMES * NUMBERS;

        private final long[] begun = new long[FRAMES * WORDS];
        private final long[] heard = new long[FRAMES * WORDS];
        private int[] order = new int[64];
        private int count;
        private int frame;

        void clear() {
            Arrays.fill(begun, 0L);
            Arrays.fill(heard, 0L);
            count = 0;
            frame = 0;
        }

        /** Turns to a frame that is run now, from its beginning. */
        void open(int opened) {
            frame = opened;
            for (int n = 0; n < WORDS; n++) {
                putLong(begun, frame * WORDS + n, 0L);
            }
        }

        void start(int number) {
            int word = frame * WORDS + number / 64;
            long bit = 1L << (number % 64);
            putLong(begun, word, atLong(begun, word) | bit);
            if ((atLong(heard, word) & bit) == 0L) {
                putLong(heard, word, atLong(heard, word) | bit);
                append(1000 * frame + number);
            }
        }

        private void append(int sound) {
            if (count == order.length && count < MOST) {
                order = Arrays.copyOf(order, Math.min(MOST, 2 * count));
            }
            if (count < order.length) {
                order[count] = sound;
                count++;
            }
        }

        int count() {
            return count;
        }

        int soundAt(int index) {
            return at(order, index);
        }

        int countCut() {
            int silent = 0;
            for (int n = 0; n < FRAMES * WORDS; n++) {
                silent += Long.bitCount(atLong(heard, n) & ~atLong(begun, n));
            }
            return silent;
        }

        boolean allPlayed() {
            for (int n = 0; n < FRAMES * WORDS; n++) {
                if ((atLong(begun, n) & ~atLong(heard, n)) != 0L) {
                    return false;
                }
            }
            return true;
        }
    }

    /** A peer: its states, the inputs with which it ran its frames, and what it knows and has told. */
    private static final class Peer {
        final int number;
        final Sounds sounds = new Sounds();
        // The state ahead of each frame, and behind the last one.
        final int[][] states = new int[FRAMES + 1][STATE];
        final int[][] taken = new int[FRAMES][PEERS];
        final int[] told = new int[FRAMES + MOST_DELAY];
        // For each other one: how many inputs of it are known, and of how many of its own there is word.
        final int[] knows = new int[PEERS];
        final int[] word = new int[PEERS];
        int frame;
        int pressed;
        int runs;
        int stalls;
        int timesBack;
        int framesBack;
        int apartBehind;
        int lastKnown;
        boolean poked;
        boolean left;

        Peer(int number) {
            this.number = number;
        }

        void clear(int delay, int seed) {
            sounds.clear();
            Machine.reset(stateBehind(0), seed);
            Arrays.fill(told, 0);
            Arrays.fill(knows, delay);
            Arrays.fill(word, delay);
            frame = 0;
            pressed = 0;
            runs = 0;
            stalls = 0;
            timesBack = 0;
            framesBack = 0;
            apartBehind = -1;
            lastKnown = 0;
            poked = false;
            left = false;
        }

        int[] stateBehind(int frames) {
            return states[frames >= 0 && frames < states.length ? frames : 0];
        }

        int[] present() {
            return stateBehind(frame);
        }

        int[] inputsOf(int run) {
            return taken[run >= 0 && run < taken.length ? run : 0];
        }

        void tell(int delay) {
            put(told, frame + delay, pressed);
        }

        int toldFrames(int delay) {
            return frame + delay;
        }

        /** Returns its input for a frame as all others know it in the end. */
        int settledInput(int run) {
            return left && run >= lastKnown ? 0 : at(told, run);
        }
    }

    /** A packet: its inputs are those that the sender told from a start to an end. */
    private static final class Packet {
        final int from;
        final int to;
        int start;
        int end;
        int word;
        int sureFrames;
        long sum;

        Packet(int from, int to) {
            this.from = from;
            this.to = to;
        }
    }
}
