import java.util.Random;
import java.util.function.Supplier;

/** Holds the class against the plain game in many random runs, with wrong arguments among the calls. */
public final class RandomRunsTest {
    private static final String OPS = "=:+-*/<ir[]jzbsw";
    private static final int RUNS = 2000;

    private final Random random;
    private final Lagless real = new Lagless();
    private final PlainGame plain = new PlainGame();
    private final StringBuilder story = new StringBuilder();
    private final int calls;
    private int peers;
    private int packets;
    private boolean wrong;
    // In a steady run the peers go on side by side, so that they come to the last frame.
    private final boolean steady;

    private RandomRunsTest(int seed) {
        random = new Random(seed);
        steady = seed % 10 == 0;
        calls = steady ? 600 : 60 + random.nextInt(200);
    }

    public static void main(String[] args) {
        for (int seed = 0; seed < RUNS; seed++) {
            RandomRunsTest test = new RandomRunsTest(seed);
            test.play();
            if (test.wrong) {
                System.out.println("random run " + seed + " went wrong:\n" + test.story);
                System.exit(1);
            }
        }
        System.out.println(RUNS + " random runs are as due");
    }

    private static String outcome(Supplier<Object> call) {
        try {
            return String.valueOf(call.get());
        } catch (RuntimeException e) {
            return e.getClass().getSimpleName();
        }
    }

    private String same(String call, Supplier<Object> ofReal, Supplier<Object> ofPlain) {
        // What the Java machine threw in the class is never as due.
        String got = Checks.outcome(ofReal);
        String due = outcome(ofPlain);
        if (!got.equals(due)) {
            wrong = true;
            story.append(call).append(" answered ").append(got).append(", due is ").append(due).append('\n');
        }
        return due;
    }

    private void act(String call, Supplier<Object> ofReal, Supplier<Object> ofPlain) {
        String answer = same(call, ofReal, ofPlain);
        story.append(call).append(" -> ").append(answer).append('\n');
    }

    /** Returns a number from least to most, seldom one beside them. */
    private int number(int least, int most) {
        if (random.nextInt(60) == 0) {
            return random.nextBoolean() ? least - 1 - random.nextInt(3) : most + 1 + random.nextInt(3);
        }
        return least + random.nextInt(most - least + 1);
    }

    private int peer() {
        return number(0, Math.max(0, peers - 1));
    }

    private void play() {
        queryAll();
        if (random.nextInt(3) == 0) {
            hearInputs();
        }
        int instructions = random.nextInt(40);
        for (int n = 0; n < instructions; n++) {
            addInstruction();
        }
        begin();
        for (int n = instructions; n < calls && !wrong; n++) {
            if (random.nextInt(400) == 0) {
                begin();
            } else if (steady && random.nextInt(20) > 0) {
                n += goOn();
            } else {
                changeSomething();
            }
            queryAll();
        }
    }

    /** Lets the machine begin with sounds that tell its inputs, so that much is cut. */
    private void hearInputs() {
        for (int peer = 0; peer < 3; peer++) {
            addInstruction(0, 'i', peer, peer);
            addInstruction(0, 's', peer, 0);
            addInstruction(0, '+', 4, peer);
        }
    }

    private void addInstruction() {
        int bank = random.nextInt(3) == 0 ? number(0, 2) : 0;
        char op = random.nextInt(80) == 0 ? '?' : OPS.charAt(random.nextInt(OPS.length()));
        int a = operand("jb".indexOf(op), 2, 20);
        int b = operand("=irz".indexOf(op), 20, 256);
        addInstruction(bank, op, a, b);
    }

    private void addInstruction(int bank, char op, int a, int b) {
        act("addInstruction(" + bank + ", '" + op + "', " + a + ", " + b + ")",
                () -> real.addInstruction(bank, op, a, b), () -> plain.addInstruction(bank, op, a, b));
    }

    /** Returns an operand, of cells mostly a low one, so that the same ones are used again. */
    private int operand(int kind, int few, int many) {
        if (kind < 0) {
            return random.nextInt(3) == 0 ? number(0, 15) : number(0, 4);
        }
        return random.nextBoolean() ? number(0, few - 1) : number(0, many);
    }

    private void begin() {
        int count = random.nextInt(5) == 0 ? number(1, 3) : 2 + random.nextInt(2);
        int delay = number(0, 4);
        int bound = number(1, 10);
        int seed = number(0, 65536);
        act("begin(" + count + ", " + delay + ", " + bound + ", " + seed + ")",
                () -> real.begin(count, delay, bound, seed), () -> plain.begin(count, delay, bound, seed));
        boolean begun = count >= 1 && count <= 3 && delay >= 0 && delay <= 4
                && bound >= 1 && bound <= 10 && seed >= 0 && seed <= 65536;
        peers = begun ? count : peers;
        packets = begun ? 0 : packets;
    }

    /** Lets all peers advance and seldom exchange packets; returns how many more calls than one that took. */
    private int goOn() {
        for (int peer = 0; peer < peers; peer++) {
            int number = peer;
            act("advance(" + peer + ")", () -> real.advance(number), () -> plain.advance(number));
        }
        if (random.nextInt(3) == 0) {
            press();
        }
        if (random.nextInt(5) > 0) {
            return peers;
        }
        for (int from = 0; from < peers; from++) {
            for (int to = 0; to < peers; to++) {
                send(from, to);
                deliver(packets - 1);
            }
        }
        return peers * peers * 2;
    }

    private void changeSomething() {
        int kind = random.nextInt(100);
        if (kind < 40) {
            advance();
        } else if (kind < 50) {
            press();
        } else if (kind < 68) {
            send();
        } else if (kind < 88) {
            deliver();
        } else if (kind < 91) {
            agree();
        } else if (kind < 94) {
            poke();
        } else if (kind < 95) {
            leave();
        } else {
            askSomething();
        }
    }

    private void advance() {
        int peer = peer();
        act("advance(" + peer + ")", () -> real.advance(peer), () -> plain.advance(peer));
    }

    private void press() {
        int peer = peer();
        int input = number(0, 15);
        act("press(" + peer + ", " + input + ")", () -> real.press(peer, input), () -> plain.press(peer, input));
    }

    private void send() {
        int from = peer();
        send(from, random.nextInt(20) == 0 ? peer() : (from + 1 + random.nextInt(2)) % Math.max(1, peers));
    }

    private void send(int from, int to) {
        act("send(" + from + ", " + to + ")", () -> real.send(from, to), () -> plain.send(from, to));
        packets += plain.hasPacket(packets) ? 1 : 0;
    }

    private void deliver() {
        deliver(random.nextInt(3) > 0
                ? Math.max(0, packets - 1 - random.nextInt(4)) : number(0, Math.max(0, packets - 1)));
    }

    private void deliver(int packet) {
        act("deliver(" + packet + ")", () -> real.deliver(packet), () -> plain.deliver(packet));
    }

    private void agree() {
        int frame = random.nextBoolean() ? number(0, 119) : number(0, 30);
        int cell = number(0, 15);
        int value = number(0, 255);
        act("agree(" + frame + ", " + cell + ", " + value + ")",
                () -> real.agree(frame, cell, value), () -> plain.agree(frame, cell, value));
    }

    private void poke() {
        int peer = peer();
        int cell = number(0, 15);
        int value = number(0, 255);
        act("poke(" + peer + ", " + cell + ", " + value + ")",
                () -> real.poke(peer, cell, value), () -> plain.poke(peer, cell, value));
    }

    private void leave() {
        int peer = peer();
        act("leave(" + peer + ")", () -> real.leave(peer), () -> plain.leave(peer));
    }

    private void askSomething() {
        int peer = peer();
        int other = peer();
        int frame = random.nextBoolean() ? number(0, 10) : number(0, 125);
        int input = number(0, 15);
        int y = number(0, 7);
        act("fork(" + peer + ", " + other + ", " + frame + ", " + input + ")",
                () -> real.fork(peer, other, frame, input), () -> plain.fork(peer, other, frame, input));
        act("wholly(" + frame + ")", () -> real.wholly(frame), () -> plain.wholly(frame));
        act("cell(" + peer + ", " + input + ")", () -> real.cell(peer, input), () -> plain.cell(peer, input));
        act("tile(" + peer + ", " + input + ", " + y + ")",
                () -> real.tile(peer, input, y), () -> plain.tile(peer, input, y));
        act("sumBehind(" + peer + ", " + frame + ")",
                () -> real.sumBehind(peer, frame), () -> plain.sumBehind(peer, frame));
        act("sound(" + peer + ", " + frame + ")",
                () -> real.sound(peer, frame), () -> plain.sound(peer, frame));
        act("inputsIn(" + frame + ")", () -> real.inputsIn(frame), () -> plain.inputsIn(frame));
        addInstruction();
    }

    private void queryAll() {
        // Seldom with peers that there are not, for exceptions are slow.
        int beside = random.nextInt(20) == 0 ? 1 : 0;
        for (int n = -beside; n < peers + beside; n++) {
            int peer = n;
            same("frameOf(" + peer + ")", () -> real.frameOf(peer), () -> plain.frameOf(peer));
            same("sure(" + peer + ")", () -> real.sure(peer), () -> plain.sure(peer));
            same("goneBack(" + peer + ")", () -> real.goneBack(peer), () -> plain.goneBack(peer));
            same("runs(" + peer + ")", () -> real.runs(peer), () -> plain.runs(peer));
            same("stalls(" + peer + ")", () -> real.stalls(peer), () -> plain.stalls(peer));
            same("guesses(" + peer + ")", () -> real.guesses(peer), () -> plain.guesses(peer));
            same("played(" + peer + ")", () -> real.played(peer), () -> plain.played(peer));
            same("cut(" + peer + ")", () -> real.cut(peer), () -> plain.cut(peer));
            same("apart(" + peer + ")", () -> real.apart(peer), () -> plain.apart(peer));
            same("meanBack(" + peer + ")", () -> real.meanBack(peer), () -> plain.meanBack(peer));
            for (int m = -beside; m < peers + beside; m++) {
                int second = m;
                same("known(" + peer + ", " + second + ")",
                        () -> real.known(peer, second), () -> plain.known(peer, second));
            }
        }
        queryStates();
        same("againShare()", () -> real.againShare(), () -> plain.againShare());
        if (random.nextInt(8) == 0) {
            queryWhatIsDear();
        }
        same("inputsIn(last)", () -> real.inputsIn(packets - 1), () -> plain.inputsIn(packets - 1));
    }

    /** Asks what plays all again: not behind each call, or the runs would take minutes. */
    private void queryWhatIsDear() {
        for (int n = -1; n <= peers; n++) {
            int peer = n;
            int other = random.nextInt(3);
            same("again(" + peer + ")", () -> real.again(peer), () -> plain.again(peer));
            same("differs(" + peer + ", " + other + ")",
                    () -> real.differs(peer, other), () -> plain.differs(peer, other));
        }
        same("isSound()", () -> real.isSound(), () -> plain.isSound());
    }

    private void queryStates() {
        for (int n = 0; n < peers; n++) {
            int peer = n;
            for (int m = 0; m < 16; m++) {
                int cell = m;
                same("cell(" + peer + ", " + cell + ")", () -> real.cell(peer, cell), () -> plain.cell(peer, cell));
            }
            int sure = plain.sure(peer);
            same("sumBehind(sure)", () -> real.sumBehind(peer, sure), () -> plain.sumBehind(peer, sure));
            int last = plain.played(peer) - 1;
            same("sound(last)", () -> real.sound(peer, last), () -> plain.sound(peer, last));
            same("tile", () -> real.tile(peer, sure % 12, sure % 8), () -> plain.tile(peer, sure % 12, sure % 8));
        }
    }
}
