import java.util.Arrays;

/** The edges that the document's terms name of the machine: its cells, banks, frames and instructions. */
final class MachineEdges extends Checks {
    private MachineEdges() {
    }

    static void hold(Sentences document) {
        holdFirstState(document);
        holdFrames(document);
        holdCalculations(document);
        holdInputsAndRandom(document);
        holdCellsByNumber(document);
        holdJumps(document);
        holdFaults(document);
        holdSums(document);
    }

    /** Returns a game of one peer with the seed 7, which has run some frames with the input 0. */
    private static Lagless played(int frames, String... bank) {
        return playedOn(machine(bank), frames);
    }

    private static Lagless playedOn(Lagless x, int frames) {
        x.begin(1, 0, 1, 7);
        for (int n = 0; n < frames; n++) {
            x.advance(0);
        }
        return x;
    }

    /** Holds the state behind all frames, with the random number 7. */
    private static void stands(Lagless x, int[] cells, int bank, int place, int faults) {
        is("the state", x.sumBehind(0, x.frameOf(0)), sum(cells, bank, place, 7, faults));
    }

    /** Runs one frame of a bank, and looks at the cell 3. */
    private static void makes(int due, String... bank) {
        is(String.join(", ", bank), played(1, bank).cell(0, 3), due);
    }

    /** Does an instruction with the cells 3 and 4, which have some numbers, and looks at the cell 3. */
    private static void makesOf(char op, int first, int second, int due) {
        makes(due, "= 3 " + first, "= 4 " + second, op + " 3 4");
    }

    private static String[] times(int count, String instruction) {
        String[] all = new String[count];
        Arrays.fill(all, instruction);
        return all;
    }

    private static void holdFirstState(Sentences document) {
        document.hold(0, "It has 16 cells, 0 to 15, with numbers from 0 to 255, 0 at first", () -> {
            Lagless x = played(0, "= 0 0", "= 15 255");
            for (int cell = 0; cell < 16; cell++) {
                is("cell " + cell, x.cell(0, cell), 0);
            }
            x.advance(0);
            is("the last cell", x.cell(0, 15), 255);
            is("the first cell", x.cell(0, 0), 0);
            fails("cell 16", ARGUMENT, () -> x.cell(0, 16));
            fails("cell -1", ARGUMENT, () -> x.cell(0, -1));
        });
        document.hold(0, "at most 3 banks of at most 20 instructions each", () -> {
            Lagless x = new Lagless();
            for (int bank = 0; bank < 3; bank++) {
                int full = bank;
                for (int n = 1; n <= 20; n++) {
                    is("bank " + bank, x.addInstruction(bank, 'w', 0, 0), n);
                }
                fails("the 21st of the bank " + bank, STATE, () -> x.addInstruction(full, 'w', 0, 0));
            }
            fails("bank 3", INDEX, () -> x.addInstruction(3, 'w', 0, 0));
            is("all of them", x.begin(1, 0, 1, 0), 60);
        });
        document.hold(0, "a present bank and place, both 0 at first", () -> {
            Lagless x = machine("= 0 1", "= 0 2");
            program(x, 1, "= 0 9");
            playedOn(x, 0);
            stands(x, cells(), 0, 0, 0);
            x.advance(0);
            is("by the bank 0, from the place 0 on", x.cell(0, 0), 2);
        });
        document.hold(0, "a random number, which is a seed at first", () -> {
            for (int seed : new int[] {0, 1, 65535, 65536}) {
                Lagless x = new Lagless();
                x.begin(1, 0, 1, seed);
                is("the seed " + seed, x.sumBehind(0, 0), sum(cells(), 0, 0, seed, 0));
            }
        });
        document.hold(0, "and a number of faults, 0 at first", () -> {
            Lagless x = played(2);
            is("without any", x.sumBehind(0, 0), sum(cells(), 0, 0, 7, 0));
            stands(x, cells(), 0, 0, 0);
        });
    }

    private static void holdFrames(Sentences document) {
        String one = "one behind the other from the place on";
        document.hold(0, one, () -> {
            Lagless x = played(1, "= 0 5", "+ 0 0", "w 0 0", "+ 0 0", "w 0 0");
            stands(x, cells(10), 0, 3, 0);
            x.advance(0);
            stands(x, cells(20), 0, 5, 0);
        });
        document.hold(0, "at most 40, up to a 'w'", () -> {
            stands(played(1, "= 1 1", "+ 0 1", "j 1 0"), cells(20, 1), 0, 2, 0);
            stands(played(1, "w 0 0", "= 0 1"), cells(), 0, 1, 0);
            // The 40th is the last one of the bank 1, its 'w'.
            Lagless x = machine(times(19, "+ 0 1"));
            program(x, 0, "b 1 0");
            program(x, 1, times(19, "= 2 3"));
            program(x, 1, "w 0 0");
            playedOn(x, 1);
            stands(x, cells(0, 0, 3), 1, 20, 0);
        });
        document.hold(0, "behind the last one of a bank, or in one without any, the frame ends, and the place is 0",
                MachineEdges::endsBehindTheLast);
        document.hold(0, "Behind the 40th, the frame ends, too", () -> {
            // A jump is an instruction as well: 20 of each are done, and the last one counts.
            stands(played(1, "= 1 1", "j 0 0"), cells(0, 1), 0, 0, 0);
            stands(played(1, "j 1 0", "j 0 0", "= 0 1"), cells(), 0, 0, 0);
            stands(played(1, "j 1 0", "j 2 0", "j 1 0"), cells(), 0, 2, 0);
            stands(played(2, "= 1 1", "+ 0 1", "j 1 0"), cells(40, 1), 0, 2, 0);
            // The 40th leads to another bank, of which nothing is done any more.
            Lagless x = machine(times(19, "= 1 1"));
            program(x, 0, "b 1 0");
            program(x, 1, times(19, "= 2 2"));
            program(x, 1, "b 2 0");
            program(x, 2, "= 3 3");
            playedOn(x, 1);
            stands(x, cells(0, 1, 2), 2, 0, 0);
            x.advance(0);
            stands(x, cells(0, 1, 2, 3), 2, 0, 0);
        });
        document.hold(0, "the next one goes on behind it, also if nothing is there any more", () -> {
            Lagless x = machine("= 1 1");
            program(x, 0, times(18, "+ 0 1"));
            program(x, 0, "b 1 0");
            program(x, 1, times(20, "+ 0 1"));
            playedOn(x, 1);
            stands(x, cells(38, 1), 1, 20, 0);
            x.advance(0);
            stands(x, cells(38, 1), 1, 0, 0);
            x.advance(0);
            stands(x, cells(58, 1), 1, 0, 0);
        });
        document.hold(0, "'w' waits for the next frame", () -> {
            Lagless x = played(1, "= 1 1", "w 0 0", "w 0 0", "+ 0 1");
            stands(x, cells(0, 1), 0, 2, 0);
            x.advance(0);
            stands(x, cells(0, 1), 0, 3, 0);
            x.advance(0);
            stands(x, cells(1, 1), 0, 0, 0);
            Lagless last = played(1, "+ 0 1", "w 0 0");
            stands(last, cells(), 0, 2, 0);
            last.advance(0);
            stands(last, cells(), 0, 0, 0);
        });
    }

    private static void endsBehindTheLast() {
        stands(played(1, "= 0 1", "= 1 2"), cells(1, 2), 0, 0, 0);
        stands(played(1), cells(), 0, 0, 0);
        stands(played(3), cells(), 0, 0, 0);
        // A bank with 20 has the place 19; one with 19 has not.
        Lagless full = machine(times(19, "= 0 1"));
        program(full, 0, "= 1 2");
        stands(playedOn(full, 1), cells(1, 2), 0, 0, 0);
        // Behind the last one of a full bank comes nothing, not the next bank.
        Lagless next = machine(times(20, "= 0 1"));
        program(next, 1, "= 1 1", "w 0 0");
        stands(playedOn(next, 1), cells(1), 0, 0, 0);
        // The end is no instruction: 39 are done, and the place is 0.
        Lagless short39 = machine(times(19, "= 0 1"));
        program(short39, 0, "b 1 0");
        program(short39, 1, times(19, "+ 1 0"));
        stands(playedOn(short39, 1), cells(1, 19), 1, 0, 0);
        Lagless empty = machine("= 0 1", "b 1 0", "= 0 2");
        stands(playedOn(empty, 1), cells(1), 1, 0, 0);
        empty.advance(0);
        stands(empty, cells(1), 1, 0, 0);
        stands(played(1, "= 0 1", "j 3 0", "= 0 2"), cells(1), 0, 0, 0);
        stands(played(1, "= 0 1", "j 19 0", "= 0 2"), cells(1), 0, 0, 0);
        // The bank stays: the next frame begins at its place 0.
        Lagless other = machine("= 0 1", "b 2 0");
        program(other, 2, "+ 1 0");
        stands(playedOn(other, 1), cells(1, 1), 2, 0, 0);
        other.advance(0);
        stands(other, cells(1, 2), 2, 0, 0);
    }

    private static void holdCalculations(Sentences document) {
        document.hold(0, "'=' the cell a becomes b", () -> {
            makes(0, "= 3 9", "= 3 0");
            makes(255, "= 3 255");
        });
        document.hold(0, "':' the cell a becomes the cell b", () -> {
            makesOf(':', 1, 255, 255);
            makesOf(':', 1, 0, 0);
            makes(8, "= 3 8", ": 3 3");
        });
        document.hold(0, "the cell a and the cell b, modulo 256, which is not less than 0", () -> {
            makesOf('+', 255, 0, 255);
            makesOf('+', 255, 1, 0);
            makesOf('+', 255, 255, 254);
            makes(144, "= 3 200", "+ 3 3");
            makesOf('-', 5, 5, 0);
            makesOf('-', 0, 1, 255);
            makesOf('-', 0, 255, 1);
            makesOf('-', 255, 0, 255);
            makes(0, "= 3 200", "- 3 3");
            makesOf('*', 16, 16, 0);
            makesOf('*', 255, 1, 255);
            makesOf('*', 255, 255, 1);
            makesOf('*', 255, 0, 0);
            makes(64, "= 3 200", "* 3 3");
        });
        document.hold(0, "'/' the cell a divided by the cell b, cut", () -> {
            makesOf('/', 255, 2, 127);
            makesOf('/', 254, 255, 0);
            makesOf('/', 255, 255, 1);
            makesOf('/', 255, 1, 255);
            makesOf('/', 0, 5, 0);
            makes(1, "= 3 200", "/ 3 3");
        });
        document.hold(0, "'<' 1 if the cell a is less than the cell b, otherwise 0", () -> {
            makesOf('<', 254, 255, 1);
            makesOf('<', 255, 255, 0);
            makesOf('<', 255, 254, 0);
            makesOf('<', 0, 0, 0);
            makesOf('<', 0, 255, 1);
            makes(0, "= 3 200", "< 3 3");
        });
        document.hold(0, "all of these into the cell a", () -> {
            for (char op : ":+-*/<".toCharArray()) {
                Lagless x = played(1, "= 3 60", "= 4 20", op + " 3 4");
                is("the cell b of '" + op + "'", x.cell(0, 4), 20);
            }
            is("of the cell 0 into the cell 15", played(1, "= 0 9", ": 15 0").cell(0, 15), 9);
            is("of the cell 15 into the cell 0", played(1, "= 15 9", "- 0 15").cell(0, 0), 247);
        });
    }

    private static void holdInputsAndRandom(Sentences document) {
        document.hold(0, "'i' the cell a becomes the input of the peer b, 0 for one that there is not", () -> {
            Lagless x = machine("= 0 9", "= 1 9", "= 2 9", "i 0 0", "i 1 1", "i 2 2");
            for (int peers = 1; peers <= 3; peers++) {
                x.begin(peers, 0, 10, 0);
                run(x, 0, 15);
                is("of the first of " + peers, x.cell(0, 0), 15);
                is("of the second of " + peers, x.cell(0, 1), 0);
                is("of the third of " + peers, x.cell(0, 2), 0);
            }
            run(x, 2, 14);
            pass(x, 2, 0);
            is("of the third when it is known", x.cell(0, 2), 14);
            is("of the second when it is not", x.cell(0, 1), 0);
        });
        document.hold(0, "the random number becomes itself times 75 plus 74, modulo 65537", () -> {
            int[][] seedAndNext = {{0, 74}, {74, 5624}, {65536, 65536}, {873, 12}, {872, 65474}, {1, 149}};
            for (int[] pair : seedAndNext) {
                Lagless x = machine("r 0 1");
                x.begin(1, 0, 1, pair[0]);
                x.advance(0);
                is("behind " + pair[0], x.sumBehind(0, 1), sum(cells(), 0, 0, pair[1], 0));
            }
        });
        document.hold(0, "and the cell a becomes it modulo b", () -> {
            // Behind 7 comes 599, and behind that one 44999.
            makes(0, "= 3 5", "r 3 1");
            makes(1, "r 3 2");
            makes(599 % 255, "r 3 255");
            makes(599 % 256, "r 3 256");
            makes(44999 % 256, "r 3 256", "r 3 256");
            is("two frames", played(2, "r 3 256").cell(0, 3), 44999 % 256);
        });
    }

    private static void holdCellsByNumber(Sentences document) {
        document.hold(0, "'[' the cell a becomes the cell whose number the cell b has", () -> {
            makes(77, "= 15 77", "= 4 15", "[ 3 4");
            makes(66, "= 0 66", "[ 3 4");
            makes(3, "= 3 3", "[ 3 3");
            makes(9, "= 3 4", "= 4 9", "[ 3 3");
            is("the cell b stays", played(1, "= 15 77", "= 4 15", "[ 3 4").cell(0, 4), 15);
        });
        document.hold(0, "']' the cell whose number the cell a has becomes the cell b", () -> {
            is("the cell 15", played(1, "= 3 77", "= 4 15", "] 4 3").cell(0, 15), 77);
            is("the cell 0", played(1, "= 3 77", "] 4 3").cell(0, 0), 77);
            makes(15, "= 3 15", "] 3 3");
            is("itself", played(1, "= 3 15", "] 3 3").cell(0, 15), 15);
            is("the cell a stays", played(1, "= 3 77", "= 4 15", "] 4 3").cell(0, 4), 15);
        });
    }

    private static void holdJumps(Sentences document) {
        document.hold(0, "'j' goes on at the place a", () -> {
            stands(played(1, "j 2 0", "= 0 1", "= 1 1"), cells(0, 1), 0, 0, 0);
            stands(played(1, "j 0 0", "= 0 1"), cells(), 0, 0, 0);
            Lagless x = machine("j 19 0");
            program(x, 0, times(18, "= 0 1"));
            program(x, 0, "= 1 1");
            stands(playedOn(x, 1), cells(0, 1), 0, 0, 0);
        });
        document.hold(0, "'z' at the place b, if the cell a is 0", () -> {
            stands(played(1, "z 5 2", "= 0 1", "= 1 1"), cells(0, 1), 0, 0, 0);
            stands(played(1, "= 2 1", "z 2 3", "= 0 1", "= 1 1"), cells(1, 1, 1), 0, 0, 0);
            stands(played(1, "= 2 255", "z 2 3", "= 0 1", "= 1 1"), cells(1, 1, 255), 0, 0, 0);
            stands(played(1, "z 5 19", "= 0 1"), cells(), 0, 0, 0);
        });
        document.hold(0, "'b' at the place 0 of the bank a", () -> {
            Lagless x = machine("= 0 1", "= 0 2", "b 2 0", "= 0 3");
            program(x, 2, "= 1 4", "w 0 0", "b 0 0");
            playedOn(x, 1);
            stands(x, cells(2, 4), 2, 2, 0);
            x.advance(0);
            stands(x, cells(2, 4), 2, 2, 0);
            // Its own bank from the start again: 40 instructions of three.
            stands(played(1, "= 1 1", "+ 0 1", "b 0 0"), cells(13, 1), 0, 1, 0);
        });
        document.hold(0, "'s' begins the sound with the number in the cell a", () -> {
            Lagless x = played(2, "s 0 0", "= 1 255", "s 1 0", "s 1 0");
            is("each number once a frame", x.played(0), 4);
            is("the least", x.sound(0, 0), 0);
            is("the greatest", x.sound(0, 1), 255);
            is("the least of the next frame", x.sound(0, 2), 1000);
            is("the greatest of the next frame", x.sound(0, 3), 1255);
            stands(x, cells(0, 255), 0, 0, 0);
        });
    }

    private static void holdFaults(Sentences document) {
        document.hold(0, "A division by 0, and a number of a cell greater than 15, are faults", () -> {
            stands(played(1, "= 0 7", "/ 0 1", "= 2 9"), cells(7), 0, 2, 1);
            stands(played(1, "/ 0 0", "= 2 9"), cells(), 0, 1, 1);
            stands(played(1, "= 1 16", "[ 0 1", "= 2 9"), cells(0, 16), 0, 2, 1);
            stands(played(1, "= 1 255", "[ 0 1", "= 2 9"), cells(0, 255), 0, 2, 1);
            stands(played(1, "= 1 15", "[ 0 1", "= 2 9"), cells(0, 15, 9), 0, 0, 0);
            stands(played(1, "= 0 16", "] 0 1", "= 2 9"), cells(16), 0, 2, 1);
            stands(played(1, "= 0 255", "] 0 1", "= 2 9"), cells(255), 0, 2, 1);
            // The number of a cell in the cell a of '[' and in the cell b of ']' names none.
            stands(played(1, "= 0 16", "[ 0 1", "= 2 9"), cells(16, 0, 9), 0, 0, 0);
            stands(played(1, "= 1 16", "] 0 1", "= 2 9"), cells(16, 16, 9), 0, 0, 0);
        });
        document.hold(0, "the number of faults goes up by 1, and the frame ends behind this instruction", () -> {
            Lagless x = played(1, "s 0 0", "/ 0 1", "s 0 0", "+ 2 3", "/ 0 1");
            stands(x, cells(), 0, 2, 1);
            x.advance(0);
            stands(x, cells(), 0, 5, 2);
            x.advance(0);
            stands(x, cells(), 0, 0, 2);
            is("what is ahead of it is done", x.played(0), 2);
            Lagless y = machine(times(19, "= 1 1"));
            program(y, 0, "b 1 0");
            program(y, 1, times(19, "= 2 2"));
            program(y, 1, "/ 1 0");
            stands(playedOn(y, 1), cells(0, 1, 2), 1, 20, 1);
            y.advance(0);
            stands(y, cells(0, 1, 2), 1, 0, 1);
            // Each frame behind the first one jumps back and divides again.
            stands(played(120, "/ 0 1", "j 0 0"), cells(), 0, 1, 120);
        });
    }

    private static void holdSums(Sentences document) {
        document.hold(0, "The sum of a state is 17 at first, and then 31 times itself plus the next of these", () -> {
            Lagless x = new Lagless();
            for (int n = 0; n < 16; n++) {
                x.addInstruction(0, '=', n, n + 1);
            }
            x.addInstruction(0, 'b', 2, 0);
            program(x, 2, "w 0 0");
            x.begin(1, 0, 1, 65536);
            is("of nothing", x.sumBehind(0, 0), -5355959720735191663L);
            x.advance(0);
            is("of 1 to 16, the bank 2, the place 1, and the seed", x.sumBehind(0, 1), -6559218847548831976L);
        });
        document.hold(0, "the cells 0 to 15, the bank, the place, the random number and the faults", () -> {
            is("the seed 0", firstSum(0), -5355959720737223279L);
            is("1 in the cell 0", playedSum("= 0 1"), -7116288304050723856L);
            is("1 in the cell 15", playedSum("= 15 1"), -5355959720736299758L);
            is("1 as the bank", playedSum("b 1 0"), -5355959720737223279L + 31 * 31 * 31);
            is("1 as the place", playedSum("w 0 0"), -5355959720737223279L + 31 * 31);
            is("74 as the random number", playedSum("r 0 1"), -5355959720737223279L + 31 * 74);
            is("1 as the place, and a fault", playedSum("/ 0 1"), -5355959720737223279L + 31 * 31 + 1);
        });
        document.hold(0, "as longs go round", () -> {
            String[] bank = new String[16];
            for (int n = 0; n < 16; n++) {
                bank[n] = "= " + n + " 255";
            }
            is("of great numbers", playedSum(bank), 1189432455741090961L);
        });
    }

    private static long firstSum(int seed) {
        Lagless x = new Lagless();
        x.begin(1, 0, 1, seed);
        return x.sumBehind(0, 0);
    }

    /** Returns the sum behind a frame of a bank with the seed 0. */
    private static long playedSum(String... bank) {
        Lagless x = machine(bank);
        x.begin(1, 0, 1, 0);
        x.advance(0);
        return x.sumBehind(0, 1);
    }
}
