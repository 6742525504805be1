import java.util.NoSuchElementException;
import java.util.function.Supplier;

/** What the tests share: answers held against those that are due, and short ways to make a game. */
abstract class Checks {
    static final Class<? extends RuntimeException> INDEX = IndexOutOfBoundsException.class;
    static final Class<? extends RuntimeException> ARGUMENT = IllegalArgumentException.class;
    static final Class<? extends RuntimeException> STATE = IllegalStateException.class;
    static final Class<? extends RuntimeException> UNSUPPORTED = UnsupportedOperationException.class;
    static final Class<? extends RuntimeException> NO_SUCH = NoSuchElementException.class;
    static final Class<? extends RuntimeException> ARITHMETIC = ArithmeticException.class;

    /** Adds the inputs of the peers 0 and 1 up in the cells 2 and 3, and begins the sound of the latter. */
    static final String[] ADDING = {"i 0 0", "i 1 1", "+ 2 0", "+ 3 1", "s 1 0"};

    private static int wrong;
    private static String about = "";

    /** Tells what the answers from now on are about. */
    static void about(String what) {
        about = what + ": ";
    }

    static void complain(String what) {
        wrong++;
        System.out.println(about + what);
    }

    static void is(String what, Object got, Object due) {
        if (!got.equals(due)) {
            complain(what + ": " + got + ", due is " + due);
        }
    }

    static void fails(String what, Class<? extends RuntimeException> due, Runnable call) {
        String got = outcome(() -> {
            call.run();
            return "nothing";
        });
        is(what + " throws", got, due.getSimpleName());
    }

    /** Ends a test: with the exit code 1 if an answer was wrong. */
    static void end(String good) {
        if (wrong > 0) {
            System.out.println(wrong + " answers are not as promised");
            System.exit(1);
        }
        System.out.println(good);
    }

    static Lagless machine(String... bank) {
        Lagless x = new Lagless();
        program(x, 0, bank);
        return x;
    }

    /** Adds instructions that are written as "op a b". */
    static void program(Lagless x, int bank, String... instructions) {
        for (String instruction : instructions) {
            String[] parts = instruction.split(" ");
            x.addInstruction(bank, parts[0].charAt(0), Integer.parseInt(parts[1]), Integer.parseInt(parts[2]));
        }
    }

    /** Returns a game with the seed 0 that has begun. */
    static Lagless begun(int peers, int delay, int bound, String... bank) {
        Lagless x = machine(bank);
        x.begin(peers, delay, bound, 0);
        return x;
    }

    /** Lets a peer press each of some inputs, and advance with it. */
    static void run(Lagless x, int peer, int... inputs) {
        for (int input : inputs) {
            x.press(peer, input);
            is("advance(" + peer + ")", x.advance(peer), true);
        }
    }

    /** Sends a packet and delivers it at once. */
    static int pass(Lagless x, int from, int to) {
        return x.deliver(x.send(from, to));
    }

    /** A call that is told a peer. */
    interface PeerCall {
        Object of(Lagless x, int peer);
    }

    /** Holds what a promise says of its peer: that there must be such a one. */
    static void strangers(Sentences document, int promise, PeerCall call) {
        document.hold(promise, "- `peer`: the number of", () -> onlyPeers(call));
        document.hold(promise, "Throws `IndexOutOfBoundsException` if there is no such peer", () -> {
            Lagless x = machine(ADDING);
            for (int peer : new int[] {0, -1, Integer.MIN_VALUE, Integer.MAX_VALUE}) {
                fails("peer " + peer + " ahead of a game", INDEX, () -> call.of(x, peer));
            }
            x.begin(3, 0, 10, 0);
            x.begin(1, 0, 10, 0);
            for (int peer : new int[] {1, 2, 3, -1, Integer.MIN_VALUE, Integer.MAX_VALUE}) {
                fails("peer " + peer + " of a game of one", INDEX, () -> call.of(x, peer));
            }
        });
    }

    /** Makes a call for each peer of games of one to three, and for those beside them. */
    static void onlyPeers(PeerCall call) {
        for (int peers = 1; peers <= 3; peers++) {
            Lagless x = begun(peers, 0, 10, ADDING);
            for (int n = 0; n < peers; n++) {
                run(x, n, 0);
            }
            for (int n = -1; n <= peers; n++) {
                int peer = n;
                String answer = outcome(() -> call.of(x, peer));
                boolean stranger = peer < 0 || peer == peers;
                is("peer " + peer + " of " + peers, answer.equals(INDEX.getSimpleName()), stranger);
            }
        }
    }

    /** Returns what a call answers, or the name of what it throws. */
    static String outcome(Supplier<Object> call) {
        try {
            return String.valueOf(call.get());
        } catch (RuntimeException e) {
            return (isThrownByItself(e) ? "" : "the Java machine's ") + e.getClass().getSimpleName();
        }
    }

    /** Returns whether the class threw by a statement: not the Java machine, and not the library. */
    private static boolean isThrownByItself(RuntimeException e) {
        StackTraceElement[] trace = e.getStackTrace();
        return trace.length > 0 && trace[0].getClassName().startsWith("Lagless")
                && !"/ by zero".equals(e.getMessage());
    }

    /** Returns the sum of a state: some cells from 0 on, the bank, the place, the random number, the faults. */
    static long sum(int[] cells, int bank, int place, int random, int faults) {
        long sum = 17;
        for (int n = 0; n < 16; n++) {
            sum = 31 * sum + (n < cells.length ? cells[n] : 0);
        }
        sum = 31 * sum + bank;
        sum = 31 * sum + place;
        sum = 31 * sum + random;
        return 31 * sum + faults;
    }

    static int[] cells(int... cells) {
        return cells;
    }
}
