/** Holds each promise of the document, by its number, with answers that were worked out by hand. */
public final class PromiseTest extends Checks {
    private PromiseTest() {
    }

    public static void main(String[] args) {
        newObject();
        addInstruction();
        instructionsOnCells();
        faults();
        framesOfTheMachine();
        begin();
        press();
        advance();
        delay();
        cellAndTile();
        sums();
        goingBackWithSounds();
        sounds();
        lateSounds();
        send();
        deliver();
        apartAndDiffers();
        agree();
        poke();
        leave();
        leaveTwice();
        againAndFork();
        wholly();
        absentPeers();
        shares();
        isSound();
        end("all promises are kept");
    }

    // ---- promises

    private static void newObject() {
        Lagless x = new Lagless();
        fails("1: frameOf", INDEX, () -> x.frameOf(0));
        fails("1: known", INDEX, () -> x.known(0, 0));
        fails("1: deliver", INDEX, () -> x.deliver(0));
        fails("1: agree", UNSUPPORTED, () -> x.agree(0, 0, 0));
        fails("1: agree with a wrong cell", ARGUMENT, () -> x.agree(0, 16, 0));
        fails("1: wholly", NO_SUCH, () -> x.wholly(0));
        fails("1: againShare", ARITHMETIC, x::againShare);
        is("1: isSound", x.isSound(), true);
        is("1: without instructions", x.begin(1, 0, 1, 7), 0);
        is("1: first state", x.sumBehind(0, 0), sum(cells(), 0, 0, 7, 0));
        is("1: a frame without instructions", x.advance(0), true);
        is("1: behind it", x.sumBehind(0, 1), sum(cells(), 0, 0, 7, 0));
    }

    private static void addInstruction() {
        Lagless x = new Lagless();
        for (int n = 1; n <= 20; n++) {
            is("2: instructions of the bank 2", x.addInstruction(2, 'w', 0, 0), n);
        }
        fails("2: a full bank", STATE, () -> x.addInstruction(2, 'w', 0, 0));
        fails("2: a full bank, no such op", ARGUMENT, () -> x.addInstruction(2, '?', 0, 0));
        fails("2: bank -1", INDEX, () -> x.addInstruction(-1, '?', 0, 0));
        fails("2: bank 3", INDEX, () -> x.addInstruction(3, 'w', 0, 0));
        is("2: another bank", x.addInstruction(0, 'w', 0, 0), 1);
        is("2: all of them", x.begin(1, 0, 1, 0), 21);
        fails("2: begun", STATE, () -> x.addInstruction(0, 'w', 0, 0));
        fails("2: begun, no such op", ARGUMENT, () -> x.addInstruction(0, 'W', 0, 0));
        is("2: none more", x.begin(1, 0, 1, 0), 21);
    }

    /** Runs one frame of a bank by one peer that presses 9, and looks at a cell. */
    private static void makes(int cell, int due, String... bank) {
        Lagless x = machine(bank);
        x.begin(2, 0, 10, 65536);
        run(x, 0, 9);
        is("5: " + String.join(", ", bank) + ": cell " + cell, x.cell(0, cell), due);
    }

    private static void instructionsOnCells() {
        makes(3, 255, "= 3 255");
        makes(3, 8, "= 4 8", ": 3 4");
        makes(3, 4, "= 3 250", "= 4 10", "+ 3 4");
        makes(3, 251, "= 3 5", "= 4 10", "- 3 4");
        makes(3, 196, "= 3 250", "= 4 10", "* 3 4");
        makes(3, 3, "= 3 7", "= 4 2", "/ 3 4");
        makes(3, 1, "= 3 7", "= 4 8", "< 3 4");
        makes(3, 0, "= 3 8", "= 4 8", "< 3 4");
        makes(3, 0, "= 3 9", "= 4 8", "< 3 4");
        makes(3, 9, "i 3 0");
        makes(3, 0, "= 3 5", "i 3 1");
        makes(3, 0, "= 3 5", "i 3 2");
        // The seed 65536 is -1 modulo 65537: -75 + 74 is -1 again.
        makes(3, 0, "r 3 256");
        makes(3, 65536 % 200, "r 3 200");
        makes(3, 0, "= 3 4", "r 3 1");
        makes(3, 77, "= 15 77", "= 4 15", "[ 3 4");
        makes(15, 77, "= 3 77", "= 4 15", "] 4 3");
        makes(3, 1, "j 2 0", "= 3 2", "= 4 1", "+ 3 4");
        makes(3, 1, "z 5 2", "= 3 2", "= 4 1", "+ 3 4");
        makes(3, 3, "= 5 1", "z 5 3", "= 3 2", "= 4 1", "+ 3 4");
        makes(3, 0, "j 19 0", "= 3 2");
        makes(3, 0, "b 2 0", "= 3 2");
        makes(3, 0, "w 0 0", "= 3 2");
        Lagless x = machine("r 0 256");
        x.begin(1, 0, 1, 1000);
        x.advance(0);
        is("5: 1000 * 75 + 74 modulo 65537", x.sumBehind(0, 1), sum(cells(9537 % 256), 0, 0, 9537, 0));
        Lagless y = machine("= 0 5", "b 2 0");
        program(y, 2, "+ 0 0", "w 0 0", "b 1 0");
        y.begin(1, 0, 1, 3);
        y.advance(0);
        is("5: behind 'w' in the bank 2", y.sumBehind(0, 1), sum(cells(10), 2, 2, 3, 0));
        y.advance(0);
        is("5: in a bank without any", y.sumBehind(0, 2), sum(cells(10), 1, 0, 3, 0));
    }

    private static void faults() {
        String[][] banks = {
            {"= 0 7", "/ 0 1", "= 2 9"}, {"= 1 16", "[ 0 1", "= 2 9"}, {"= 0 16", "] 0 1", "= 2 9"}};
        int[][] cells = {{7}, {0, 16}, {16}};
        for (int n = 0; n < 3; n++) {
            Lagless x = machine(banks[n]);
            x.begin(1, 0, 1, 0);
            x.advance(0);
            is("5: a fault " + banks[n][1], x.sumBehind(0, 1), sum(cells[n], 0, 2, 0, 1));
            x.advance(0);
            is("5: the frame behind it", x.cell(0, 2), 9);
            x.advance(0);
            x.advance(0);
            is("5: more faults", x.sumBehind(0, 3) - x.sumBehind(0, 1), 9L * pow31(17) + 1);
        }
        Lagless last = machine("/ 0 1");
        last.begin(1, 0, 1, 0);
        last.advance(0);
        is("5: a fault at the end", last.sumBehind(0, 1), sum(cells(), 0, 1, 0, 1));
        last.advance(0);
        is("5: nothing is there", last.sumBehind(0, 2), sum(cells(), 0, 0, 0, 1));
    }

    /** Returns 31 to some power, the weight that so many later numbers of a sum give an earlier one. */
    private static long pow31(int times) {
        long power = 1;
        for (int n = 0; n < times; n++) {
            power *= 31;
        }
        return power;
    }

    private static void framesOfTheMachine() {
        Lagless loop = machine("= 1 1", "+ 0 1", "j 1 0");
        loop.begin(1, 0, 1, 0);
        loop.advance(0);
        is("5: 40 instructions", loop.sumBehind(0, 1), sum(cells(20, 1), 0, 2, 0, 0));
        loop.advance(0);
        is("5: 80 instructions", loop.sumBehind(0, 2), sum(cells(40, 1), 0, 2, 0, 0));
        Lagless wait = machine("= 1 1", "+ 0 1", "w 0 0");
        wait.begin(1, 0, 1, 0);
        wait.advance(0);
        is("5: behind a last 'w'", wait.sumBehind(0, 1), sum(cells(1, 1), 0, 3, 0, 0));
        wait.advance(0);
        is("5: nothing is there", wait.sumBehind(0, 2), sum(cells(1, 1), 0, 0, 0, 0));
        wait.advance(0);
        is("5: from the place 0", wait.cell(0, 0), 2);
        Lagless full = machine("= 1 1");
        for (int n = 0; n < 18; n++) {
            full.addInstruction(0, '+', 0, 1);
        }
        full.addInstruction(0, 'b', 1, 0);
        for (int n = 0; n < 20; n++) {
            full.addInstruction(1, '+', 0, 1);
        }
        full.begin(1, 0, 1, 0);
        full.advance(0);
        is("5: the 40th is the last one", full.sumBehind(0, 1), sum(cells(38, 1), 1, 20, 0, 0));
        full.advance(0);
        is("5: nothing behind it", full.sumBehind(0, 2), sum(cells(38, 1), 1, 0, 0, 0));
        full.advance(0);
        is("5: the bank stays", full.sumBehind(0, 3), sum(cells(58, 1), 1, 0, 0, 0));
    }

    private static void begin() {
        int[][] wrongs = {{0, 0, 1, 0}, {4, 0, 1, 0}, {1, -1, 1, 0}, {1, 5, 1, 0}, {1, 0, 0, 0}, {1, 0, 11, 0},
            {1, 0, 1, -1}, {1, 0, 1, 65537}};
        Lagless x = machine(ADDING);
        for (int[] w : wrongs) {
            fails("3: begin", ARGUMENT, () -> x.begin(w[0], w[1], w[2], w[3]));
        }
        is("3: not begun yet", x.addInstruction(2, 'w', 0, 0), 1);
        is("3: instructions", x.begin(2, 0, 3, 65536), 6);
        run(x, 0, 4, 4);
        run(x, 1, 5);
        pass(x, 1, 0);
        x.agree(5, 0, 1);
        x.poke(0, 9, 9);
        pass(x, 0, 1);
        x.leave(1);
        fails("3: a wrong begin in a game", ARGUMENT, () -> x.begin(3, 4, 11, 0));
        is("3: changes nothing", x.frameOf(0), 2);
        is("3: a new game", x.begin(3, 4, 10, 0), 6);
        for (int peer = 0; peer < 3; peer++) {
            is("3: frameOf", x.frameOf(peer), 0);
            is("3: runs", x.runs(peer), 0);
            is("3: stalls", x.stalls(peer), 0);
            is("3: goneBack", x.goneBack(peer), 0);
            is("3: played", x.played(peer), 0);
            is("3: cut", x.cut(peer), 0);
            is("3: known", x.known(0, peer), 4);
            is("3: press", x.press(peer, 0), 0);
            is("3: first state", x.sumBehind(peer, 0), sum(cells(), 0, 0, 0, 0));
        }
        fails("3: packets", INDEX, () -> x.inputsIn(0));
        is("3: the first packet", x.send(1, 2), 0);
        is("3: word", x.inputsIn(0), 0);
        is("3: changes", x.agree(0, 0, 0), 1);
        is("3: nobody has left", x.leave(0), 2);
        fails("3: begun", STATE, () -> x.addInstruction(0, 'w', 0, 0));
        x.begin(1, 0, 1, 0);
        fails("3: fewer peers", INDEX, () -> x.frameOf(1));
        run(x, 0, 3);
        is("3: an absent peer has no input", x.cell(0, 1), 0);
    }

    private static void press() {
        Lagless x = machine(ADDING);
        x.begin(2, 0, 3, 0);
        is("4: at first", x.press(0, 15), 0);
        is("4: again", x.press(0, 3), 15);
        is("4: of another one", x.press(1, 1), 0);
        fails("4: input -1", ARGUMENT, () -> x.press(0, -1));
        fails("4: input 16", ARGUMENT, () -> x.press(0, 16));
        fails("4: peer 2 and input 16", INDEX, () -> x.press(2, 16));
        fails("4: peer -1", INDEX, () -> x.press(-1, 0));
        x.advance(0);
        x.advance(0);
        is("4: from now on", x.cell(0, 2), 6);
        is("4: kept", x.press(0, 3), 3);
        x.leave(0);
        fails("4: left", UNSUPPORTED, () -> x.press(0, 1));
        fails("4: left and input 16", ARGUMENT, () -> x.press(0, 16));
    }

    private static void advance() {
        Lagless x = machine(ADDING);
        x.begin(2, 0, 2, 0);
        run(x, 0, 1, 1);
        is("5: stalls", x.advance(0), false);
        is("5: stalls", x.advance(0), false);
        is("14: stalls", x.stalls(0), 2);
        is("14: of another one", x.stalls(1), 0);
        is("6: frameOf", x.frameOf(0), 2);
        is("13: runs", x.runs(0), 2);
        is("8: what stalls tells nothing", x.known(0, 0), 2);
        run(x, 1, 0);
        pass(x, 1, 0);
        is("7: sure", x.sure(0), 1);
        is("5: on", x.advance(0), true);
        is("5: stalls again", x.advance(0), false);
        fails("5: peer 2", INDEX, () -> x.advance(2));
        fails("5: peer -1", INDEX, () -> x.advance(-1));
        x.leave(0);
        fails("5: left", UNSUPPORTED, () -> x.advance(0));
        is("5: the other one", x.advance(1), true);
        Lagless y = machine(ADDING);
        y.begin(2, 4, 1, 0);
        y.leave(1);
        for (int n = 0; n < 120; n++) {
            run(y, 0, n % 2);
        }
        is("9: all inputs were used", y.cell(0, 2), 58);
        y.poke(0, 9, 9);
        is("11: behind none", y.sumBehind(0, 0), sum(cells(), 0, 0, 0, 0));
        is("11: behind all", y.sumBehind(0, 120), sum(new int[] {1, 0, 58, 0, 0, 0, 0, 0, 0, 9}, 0, 0, 0, 0));
        is("6: at the end", y.frameOf(0), 120);
        is("8: ahead of the end", y.known(0, 0), 124);
        is("7: all are sure", y.sure(0), 120);
        fails("5: 120 frames", STATE, () -> y.advance(0));
        is("14: that is no stall", y.stalls(0), 0);
        fails("24: all were run", UNSUPPORTED, () -> y.agree(119, 0, 0));
        fails("29: greater than 120", NO_SUCH, () -> y.wholly(121));
        is("29: all frames", y.wholly(120), sum(cells(1, 0, 58), 0, 0, 0, 0));
        is("27: all frames", y.again(0), y.wholly(120));
        is("28: the last frame", y.fork(0, 0, 119, 0), 120);
        Lagless z = machine(ADDING);
        z.begin(2, 0, 10, 0);
        for (int n = 0; n < 120; n++) {
            z.advance(0);
            z.advance(1);
            if (n % 10 == 9 && n < 119) {
                pass(z, 0, 1);
                pass(z, 1, 0);
            }
        }
        is("7: at the bound", z.sure(0), 110);
        fails("5: 120 frames at the bound", STATE, () -> z.advance(0));
        z.leave(0);
        fails("5: left with 120 frames", UNSUPPORTED, () -> z.advance(0));
    }

    private static void delay() {
        Lagless x = machine(ADDING);
        x.begin(2, 2, 3, 0);
        is("8: at first", x.known(0, 0), 2);
        is("8: of another one", x.known(0, 1), 2);
        run(x, 0, 7, 8, 9);
        is("8: with a delay", x.known(0, 0), 5);
        is("9: the first input is of the frame 2", x.cell(0, 2), 7);
        is("7: sure", x.sure(0), 2);
        is("15: guesses", x.guesses(0), 1);
        is("5: still below the bound", x.advance(0), true);
        is("9: the second input", x.cell(0, 2), 15);
        is("5: below it", x.advance(0), true);
        is("5: at the bound", x.advance(0), false);
        is("15: guesses", x.guesses(0), 3);
        fails("6: frameOf", INDEX, () -> x.frameOf(2));
        fails("7: sure", INDEX, () -> x.sure(2));
        fails("8: known", INDEX, () -> x.known(2, 0));
        fails("8: known", INDEX, () -> x.known(0, -1));
        fails("14: stalls", INDEX, () -> x.stalls(2));
        fails("15: guesses", INDEX, () -> x.guesses(-1));
    }

    private static void cellAndTile() {
        Lagless x = machine("= 0 1", "= 2 17", "= 11 6", "= 15 13");
        x.begin(1, 0, 1, 0);
        is("10: at first", x.tile(0, 5, 6), 6);
        x.advance(0);
        is("9: cell", x.cell(0, 15), 13);
        is("10: scrolled by one", x.tile(0, 1, 0), 1);
        is("10: with the row", x.tile(0, 1, 7), 0);
        is("10: round", x.tile(0, 11, 3), 4);
        is("10: the last column", x.tile(0, 10, 1), 7);
        fails("9: cell -1", ARGUMENT, () -> x.cell(0, -1));
        fails("9: cell 16", ARGUMENT, () -> x.cell(0, 16));
        fails("9: peer 1, cell 16", INDEX, () -> x.cell(1, 16));
        fails("10: column 12", ARGUMENT, () -> x.tile(0, 12, 0));
        fails("10: column -1", ARGUMENT, () -> x.tile(0, -1, 0));
        fails("10: row 8", ARGUMENT, () -> x.tile(0, 0, 8));
        fails("10: row -1", ARGUMENT, () -> x.tile(0, 0, -1));
        fails("10: peer 1, row 8", INDEX, () -> x.tile(1, 0, 8));
    }

    private static void sums() {
        Lagless x = machine("i 0 0", "i 1 1", "w 0 0", "/ 2 3", "w 0 0");
        x.begin(2, 0, 5, 42);
        run(x, 0, 3, 4, 5);
        is("11: behind none", x.sumBehind(0, 0), sum(cells(), 0, 0, 42, 0));
        fails("11: more than sure", NO_SUCH, () -> x.sumBehind(0, 1));
        fails("11: less than 0", NO_SUCH, () -> x.sumBehind(0, -1));
        fails("11: peer 2", INDEX, () -> x.sumBehind(2, -1));
        run(x, 1, 6, 7);
        pass(x, 1, 0);
        is("11: behind one", x.sumBehind(0, 1), sum(cells(3, 6), 0, 3, 42, 0));
        is("11: behind two", x.sumBehind(0, 2), sum(cells(3, 6), 0, 4, 42, 1));
        fails("11: more than sure", NO_SUCH, () -> x.sumBehind(0, 3));
    }

    private static void goingBackWithSounds() {
        Lagless x = machine(ADDING);
        x.begin(2, 0, 3, 0);
        run(x, 1, 5, 5);
        run(x, 0, 1, 1, 1);
        is("15: guesses", x.guesses(0), 3);
        is("16: played", x.played(0), 3);
        is("12: not yet", x.goneBack(0), 0);
        fails("31: never went back", ARITHMETIC, () -> x.meanBack(0));
        is("21: inputsIn", x.inputsIn(x.send(1, 0)), 2);
        is("20: deliver", x.deliver(0), 2);
        is("12: goneBack", x.goneBack(0), 1);
        is("13: runs", x.runs(0), 6);
        is("9: with the guess of the last known", x.cell(0, 3), 15);
        is("15: guesses", x.guesses(0), 1);
        is("7: sure", x.sure(0), 2);
        is("8: known", x.known(0, 1), 2);
        is("16: played", x.played(0), 6);
        is("18: cut", x.cut(0), 3);
        is("17: the first", x.sound(0, 0), 0);
        is("17: the third", x.sound(0, 2), 2000);
        is("17: the fourth", x.sound(0, 3), 5);
        is("17: the last", x.sound(0, 5), 2005);
        run(x, 1, 0);
        is("19: send", x.send(1, 0), 1);
        is("21: no word yet", x.inputsIn(1), 3);
        is("20: one is new", x.deliver(1), 1);
        is("13: the last frame again", x.runs(0), 7);
        is("16: not played again", x.played(0), 6);
        is("18: not cut any more", x.cut(0), 3);
        is("31: (3 + 1) / 2", x.meanBack(0), 2.0);
        is("30: 4 of 10", x.againShare(), 0.4f);
        is("20: late and twice", x.deliver(0), 0);
        is("12: for nothing", x.goneBack(0), 2);
        is("12: of another one", x.goneBack(1), 0);
        run(x, 0, 1, 2);
        pass(x, 0, 1);
        run(x, 1, 0);
        is("20: as was guessed", pass(x, 1, 0), 1);
        is("12: not for what was guessed", x.goneBack(0), 2);
        run(x, 1, 9);
        pass(x, 1, 0);
        is("31: (3 + 1 + 1) / 3", x.meanBack(0), 5.0 / 3.0);
        fails("12: peer 2", INDEX, () -> x.goneBack(2));
        fails("13: peer 2", INDEX, () -> x.runs(2));
        fails("31: peer 2", INDEX, () -> x.meanBack(2));
    }

    private static void sounds() {
        Lagless x = machine("= 0 7", "s 0 0", "s 0 0", "i 1 1", "s 1 0", "= 0 255", "s 0 0");
        x.begin(2, 0, 5, 0);
        run(x, 0, 0, 0);
        is("16: each number once a frame", x.played(0), 6);
        is("17: in their order", x.sound(0, 1), 0);
        is("17: the greatest number", x.sound(0, 5), 1255);
        run(x, 1, 7, 7);
        pass(x, 1, 0);
        is("16: 7 was played", x.played(0), 6);
        is("18: 0 is cut in both frames", x.cut(0), 2);
        is("16: of the other one", x.played(1), 4);
        is("18: of the other one", x.cut(1), 0);
        fails("16: peer 2", INDEX, () -> x.played(2));
        fails("17: peer 2", INDEX, () -> x.sound(2, 0));
        fails("17: place 6", INDEX, () -> x.sound(0, 6));
        fails("17: place -1", INDEX, () -> x.sound(0, -1));
        fails("18: peer 2", INDEX, () -> x.cut(2));
    }

    /** Sounds up to the last frame, more than a short list of them holds. */
    private static void lateSounds() {
        Lagless x = machine(ADDING);
        x.begin(2, 0, 10, 0);
        for (int n = 0; n < 11; n++) {
            run(x, 0, 0, 0, 0, 0, 0, 0, 0, 0, 0, 0);
            run(x, 1, 0, 0, 0, 0, 0, 0, 0, 0, 0, 0);
            pass(x, 0, 1);
            pass(x, 1, 0);
        }
        run(x, 0, 0, 0, 0, 0, 0, 0, 0, 0, 0, 0);
        is("16: one a frame", x.played(0), 120);
        is("18: none is cut", x.cut(0), 0);
        run(x, 1, 0, 5, 5, 5, 5, 5, 5, 5, 5, 5);
        is("20: deliver", pass(x, 1, 0), 10);
        is("16: nine more", x.played(0), 129);
        is("17: in the last frame", x.sound(0, 128), 119005);
        is("17: in the frame 64", x.sound(0, 64), 64000);
        is("18: nine are cut", x.cut(0), 9);
        is("31: nine frames", x.meanBack(0), 9.0);
        is("32: sound", x.isSound(), true);
    }

    private static void send() {
        Lagless x = machine(ADDING);
        x.begin(3, 1, 5, 0);
        fails("19: from 3", INDEX, () -> x.send(3, 3));
        fails("19: to 3", INDEX, () -> x.send(0, 3));
        fails("19: to -1", INDEX, () -> x.send(0, -1));
        fails("19: both the same", ARGUMENT, () -> x.send(1, 1));
        fails("21: inputsIn", INDEX, () -> x.inputsIn(0));
        run(x, 0, 1, 2, 3);
        is("19: the first", x.send(0, 1), 0);
        is("21: from behind the delay", x.inputsIn(0), 3);
        x.deliver(0);
        is("19: without word", x.send(0, 1), 1);
        is("21: all again", x.inputsIn(1), 3);
        int old = x.send(1, 0);
        run(x, 0, 4);
        x.deliver(x.send(0, 1));
        x.deliver(x.send(1, 0));
        is("19: the sixth", x.send(0, 1), 5);
        is("21: with word", x.inputsIn(5), 0);
        x.deliver(old);
        is("21: old word takes nothing back", x.inputsIn(x.send(0, 1)), 0);
        is("21: no word of the third", x.inputsIn(x.send(0, 2)), 4);
        is("21: an old one keeps its inputs", x.inputsIn(1), 3);
        x.leave(2);
        fails("19: left", UNSUPPORTED, () -> x.send(2, 0));
        fails("19: left, to itself", ARGUMENT, () -> x.send(2, 2));
        is("19: to one that has left", x.send(0, 2), 8);
        is("21: for one that has left", x.inputsIn(8), 4);
        for (int n = 9; n < 200; n++) {
            is("19: number", x.send(0, 1), n);
        }
        fails("19: 200 packets", STATE, () -> x.send(0, 1));
        fails("19: 200 packets, left", UNSUPPORTED, () -> x.send(2, 1));
        fails("21: no more", INDEX, () -> x.inputsIn(200));
        is("20: the last one", x.deliver(199), 0);
    }

    private static void deliver() {
        Lagless x = machine(ADDING);
        x.begin(3, 0, 9, 0);
        run(x, 0, 1, 2, 3);
        x.send(0, 1);
        run(x, 0, 4);
        x.send(0, 1);
        x.send(0, 2);
        is("20: the later one first", x.deliver(1), 4);
        is("20: the earlier one", x.deliver(0), 0);
        is("8: known", x.known(1, 0), 4);
        is("8: not by the third", x.known(2, 0), 0);
        fails("20: packet 3", INDEX, () -> x.deliver(3));
        fails("20: packet -1", INDEX, () -> x.deliver(-1));
        x.leave(2);
        fails("20: its receiver has left", UNSUPPORTED, () -> x.deliver(2));
        run(x, 1, 7);
        is("9: by its inputs", x.cell(1, 2), 1);
        is("9: its own", x.cell(1, 3), 7);
        is("20: to the first", pass(x, 1, 0), 1);
        is("9: with a guess", x.cell(0, 3), 28);
    }

    private static void apartAndDiffers() {
        Lagless x = machine(ADDING);
        x.begin(2, 0, 9, 0);
        run(x, 0, 1, 2, 3);
        run(x, 1, 4, 5, 6);
        int early = x.send(0, 1);
        x.deliver(x.send(1, 0));
        x.deliver(early);
        fails("22: not apart", NO_SUCH, () -> x.apart(0));
        is("23: never", x.differs(0, 1), -1);
        x.poke(0, 9, 1);
        is("23: behind three", x.differs(0, 1), 3);
        is("23: and the other way", x.differs(1, 0), 3);
        is("23: of the same", x.differs(0, 0), -1);
        fails("22: not told yet", NO_SUCH, () -> x.apart(1));
        run(x, 0, 1);
        pass(x, 0, 1);
        is("22: three sure ones were told", x.apart(1), 3);
        fails("22: not told", NO_SUCH, () -> x.apart(0));
        run(x, 1, 1);
        int four = x.send(1, 0);
        pass(x, 0, 1);
        is("22: the least", x.apart(1), 3);
        x.deliver(four);
        is("22: of the other one", x.apart(0), 4);
        is("23: first", x.differs(0, 1), 3);
        fails("22: peer 2", INDEX, () -> x.apart(2));
        fails("23: peer 2", INDEX, () -> x.differs(2, 0));
        fails("23: other -1", INDEX, () -> x.differs(0, -1));
        Lagless y = machine(ADDING);
        y.begin(2, 0, 9, 0);
        y.poke(0, 0, 5);
        is("23: behind none", y.differs(0, 1), 0);
        int ahead = y.send(1, 0);
        run(y, 0, 0);
        run(y, 1, 0);
        pass(y, 0, 1);
        is("22: not as many sure: compared behind none", y.apart(1), 0);
        int later = y.send(1, 0);
        y.deliver(later);
        fails("22: the cell was overwritten", NO_SUCH, () -> y.apart(0));
        y.deliver(ahead);
        is("22: an old sum", y.apart(0), 0);
        Lagless z = machine(ADDING);
        z.begin(2, 0, 9, 0);
        run(z, 0, 1, 1);
        z.poke(1, 9, 9);
        run(z, 1, 1, 1);
        pass(z, 0, 1);
        int two = z.send(1, 0);
        z.begin(2, 0, 9, 0);
        fails("20: of the game before", INDEX, () -> z.deliver(two));
        z.poke(0, 9, 9);
        run(z, 0, 1, 1);
        run(z, 1, 1, 1);
        int none = z.send(1, 0);
        pass(z, 0, 1);
        z.deliver(z.send(1, 0));
        is("22: behind two", z.apart(0), 2);
        z.deliver(none);
        is("22: behind none is less", z.apart(0), 0);
    }

    private static void agree() {
        Lagless x = machine("+ 0 1", "= 1 1");
        x.begin(2, 0, 9, 0);
        run(x, 0, 0);
        fails("24: frame 120", ARGUMENT, () -> x.agree(120, 0, 0));
        fails("24: frame -1", ARGUMENT, () -> x.agree(-1, 0, 0));
        fails("24: cell 16", ARGUMENT, () -> x.agree(0, 16, 0));
        fails("24: cell -1", ARGUMENT, () -> x.agree(0, -1, 0));
        fails("24: number 256", ARGUMENT, () -> x.agree(0, 0, 256));
        fails("24: number -1", ARGUMENT, () -> x.agree(0, 0, -1));
        fails("24: was run by one", UNSUPPORTED, () -> x.agree(0, 0, 0));
        is("24: the present one", x.agree(1, 0, 10), 1);
        is("24: again", x.agree(1, 0, 20), 2);
        is("24: another one", x.agree(2, 1, 5), 3);
        is("24: not yet in the state", x.cell(0, 0), 0);
        run(x, 0, 0, 0);
        is("24: the last one counts, ahead of the first instruction", x.cell(0, 0), 26);
        run(x, 1, 0, 0, 0);
        is("24: by the other one", x.cell(1, 0), 26);
        is("24: wholly", x.wholly(3), sum(cells(26, 1), 0, 0, 0, 0));
        pass(x, 1, 0);
        is("24: again", x.again(0), sum(cells(26, 1), 0, 0, 0, 0));
        for (int n = 4; n <= 10; n++) {
            is("24: changes", x.agree(119, 15, 255), n);
        }
        fails("24: 10 changes", STATE, () -> x.agree(119, 15, 255));
        fails("24: 10 changes, was run", UNSUPPORTED, () -> x.agree(2, 15, 255));
        is("24: sound", x.isSound(), true);
        Lagless y = machine(ADDING);
        y.begin(2, 0, 9, 0);
        y.agree(1, 3, 50);
        run(y, 0, 0, 0, 0);
        run(y, 1, 2, 2, 2);
        pass(y, 1, 0);
        is("24: run again", y.cell(0, 3), 54);
    }

    private static void poke() {
        Lagless x = machine(ADDING);
        x.begin(2, 0, 9, 0);
        run(x, 0, 0, 0, 0);
        is("25: the number before", x.poke(0, 3, 100), 0);
        is("25: then", x.poke(0, 3, 200), 100);
        is("9: poked", x.cell(0, 3), 200);
        is("25: not of the other one", x.cell(1, 3), 0);
        run(x, 0, 0, 0);
        run(x, 1, 0, 0, 0, 1);
        pass(x, 1, 0);
        is("31: back to the frame of the poke", x.meanBack(0), 2.0);
        is("25: the poke stays", x.cell(0, 3), 202);
        x.poke(0, 2, 60);
        x.poke(0, 15, 255);
        run(x, 0, 0);
        is("25: it counts on", x.cell(0, 2), 60);
        run(x, 1, 7);
        pass(x, 1, 0);
        is("25: the frame ahead was run again: it is gone", x.cell(0, 2), 0);
        is("25: the earlier one is not", x.cell(0, 3), 200 + 1 + 7 + 7);
        fails("25: cell 16", ARGUMENT, () -> x.poke(0, 16, 0));
        fails("25: cell -1", ARGUMENT, () -> x.poke(0, -1, 0));
        fails("25: number 256", ARGUMENT, () -> x.poke(0, 0, 256));
        fails("25: number -1", ARGUMENT, () -> x.poke(0, 0, -1));
        fails("25: peer 2, cell 16", INDEX, () -> x.poke(2, 16, 0));
        is("25: nothing changed", x.cell(0, 0), 0);
        x.leave(0);
        is("25: of one that has left", x.poke(0, 0, 4), 0);
        is("32: sound all the same", x.isSound(), true);
    }

    private static void leave() {
        Lagless x = machine(ADDING);
        x.begin(3, 0, 9, 0);
        run(x, 1, 4, 5, 6, 7);
        int underWay = x.send(1, 2);
        fails("26: peer 3", INDEX, () -> x.leave(3));
        run(x, 0, 0, 0, 0, 0);
        run(x, 2, 0, 0, 0, 0);
        run(x, 1, 8);
        int late = x.send(1, 0);
        x.deliver(underWay);
        is("9: guessed", x.cell(2, 3), 22);
        is("26: two are left", x.leave(1), 2);
        is("8: of one that has left", x.known(0, 1), 999);
        is("8: by itself, too", x.known(1, 1), 999);
        is("8: what it knows", x.known(1, 0), 0);
        is("9: what one knew, all know", x.cell(0, 3), 22);
        is("12: it went back", x.goneBack(0), 1);
        is("12: it did not", x.goneBack(2), 1);
        is("20: nothing new", x.deliver(late), 0);
        is("9: nothing new", x.cell(0, 3), 22);
        run(x, 0, 0);
        is("9: 0 from there on", x.cell(0, 3), 22);
        is("9: its own state", x.cell(1, 3), 30);
        is("15: no guesses of it", x.guesses(0), 5);
        fails("26: left", UNSUPPORTED, () -> x.leave(1));
        is("26: one is left", x.leave(0), 1);
        fails("26: the last one", UNSUPPORTED, () -> x.leave(2));
        is("7: all are sure now", x.sure(2), 4);
        is("32: sound", x.isSound(), true);
        Lagless z = machine(ADDING);
        z.begin(2, 1, 9, 0);
        run(z, 0, 3, 3, 3);
        run(z, 1, 9, 9, 9);
        pass(z, 1, 0);
        run(z, 1, 9);
        run(z, 0, 3, 3);
        is("9: guesses 9", z.cell(0, 3), 36);
        z.leave(1);
        is("9: 0 behind what is known", z.cell(0, 3), 27);
        is("31: one frame back", z.meanBack(0), (2 + 1) / 2.0);
        is("18: a sound is cut", z.cut(0), 3);
        Lagless one = machine(ADDING);
        one.begin(1, 0, 1, 0);
        fails("26: the only one", UNSUPPORTED, () -> one.leave(0));
    }

    /** What one that has left knows counts too, and it learns what all others do. */
    private static void leaveTwice() {
        Lagless x = machine(ADDING);
        x.begin(3, 0, 9, 0);
        run(x, 1, 4, 5, 6);
        run(x, 0, 0, 0);
        pass(x, 1, 0);
        x.leave(0);
        run(x, 2, 0, 0, 0, 0);
        is("9: nothing known", x.cell(2, 3), 0);
        is("26: one is left", x.leave(1), 1);
        is("9: what the first knew", x.cell(2, 3), 15);
        is("8: by one that has left", x.known(0, 1), 999);
        is("32: sound", x.isSound(), true);
        Lagless y = machine(ADDING);
        y.begin(3, 0, 9, 0);
        run(y, 1, 4, 5);
        run(y, 0, 0, 0);
        pass(y, 1, 2);
        y.leave(0);
        y.leave(1);
        is("9: it goes back, too", y.cell(0, 3), 9);
        is("12: once", y.goneBack(0), 1);
    }

    private static void againAndFork() {
        Lagless x = machine("i 1 1", "i 0 0", "/ 0 1", "w 0 0", "+ 2 0");
        x.begin(2, 0, 9, 5);
        run(x, 0, 8, 8, 8, 8);
        is("27: nothing is sure", x.again(0), sum(cells(), 0, 0, 5, 0));
        run(x, 1, 4, 2, 1);
        pass(x, 1, 0);
        long due = sum(cells(8, 1, 2), 0, 4, 5, 0);
        is("27: behind three", x.again(0), due);
        is("27: as it was", x.sumBehind(0, 3), due);
        x.poke(0, 2, 77);
        run(x, 1, 1, 9);
        pass(x, 1, 0);
        is("28: of the frame 1 nothing is read", x.fork(0, 1, 1, 3), -1);
        is("28: at once", x.fork(0, 1, 0, 8), 1);
        is("28: a fault", x.fork(0, 1, 2, 0), 3);
        is("28: the same input", x.fork(0, 1, 0, 4), -1);
        is("28: its own", x.fork(0, 0, 2, 7), 3);
        is("27: without the poke", x.again(0), sum(cells(8, 1, 10), 0, 0, 5, 0));
        is("11: with the poke", x.sumBehind(0, 4), sum(cells(8, 1, 77), 0, 0, 5, 0));
        fails("28: peer 2", INDEX, () -> x.fork(2, 0, 0, 16));
        fails("28: other 2", INDEX, () -> x.fork(0, 2, 0, 16));
        fails("28: other -1", INDEX, () -> x.fork(0, -1, 0, 0));
        fails("28: input 16", ARGUMENT, () -> x.fork(0, 0, 9, 16));
        fails("28: input -1", ARGUMENT, () -> x.fork(0, 0, 0, -1));
        fails("28: frame 4", NO_SUCH, () -> x.fork(0, 0, 4, 0));
        fails("28: frame -1", NO_SUCH, () -> x.fork(0, 0, -1, 0));
        fails("27: peer 2", INDEX, () -> x.again(2));
        is("16: nobody hears it", x.played(0), 0);
        is("13: and it is no run", x.runs(0), 4 + 4);
        Lagless y = machine("i 0 0", "+ 1 0", "< 2 1");
        y.begin(1, 1, 1, 0);
        run(y, 0, 1, 2, 3);
        is("28: later", y.fork(0, 0, 1, 0), 2);
        y.begin(1, 0, 1, 0);
        y.poke(0, 9, 9);
        run(y, 0, 1);
        is("27: from the first state of the machine", y.again(0), sum(cells(1, 1, 1), 0, 0, 0, 0));
    }

    private static void wholly() {
        Lagless x = machine(ADDING);
        x.begin(2, 1, 9, 3);
        is("29: behind none", x.wholly(0), sum(cells(), 0, 0, 3, 0));
        is("29: behind the delay", x.wholly(1), sum(cells(), 0, 0, 3, 0));
        fails("29: not told", NO_SUCH, () -> x.wholly(2));
        fails("29: less than 0", NO_SUCH, () -> x.wholly(-1));
        run(x, 0, 3, 4, 5);
        fails("29: not told by one", NO_SUCH, () -> x.wholly(2));
        run(x, 1, 6, 7);
        is("29: nothing need be sent", x.wholly(3), sum(cells(4, 7, 7, 13), 0, 0, 3, 0));
        fails("29: not told by one", NO_SUCH, () -> x.wholly(4));
        x.leave(1);
        is("29: one left", x.wholly(4), sum(cells(5, 0, 12, 0), 0, 0, 3, 0));
        fails("29: not told by the other one", NO_SUCH, () -> x.wholly(5));
        is("32: sound", x.isSound(), true);
    }

    /** Inputs of a third peer must not stay behind in the next game, which has two. */
    private static void absentPeers() {
        Lagless x = machine("i 0 2", "+ 1 0");
        x.begin(3, 0, 9, 0);
        run(x, 2, 7, 7);
        pass(x, 2, 0);
        run(x, 1, 0, 0);
        pass(x, 1, 0);
        run(x, 0, 0, 0);
        is("9: the third one's", x.cell(0, 1), 14);
        is("28: the third one's", x.fork(0, 2, 1, 9), 2);
        x.begin(2, 0, 9, 0);
        run(x, 0, 1, 1);
        run(x, 1, 1, 1);
        is("9: of none", x.cell(0, 1), 0);
        is("29: of none", x.wholly(2), sum(cells(), 0, 0, 0, 0));
        pass(x, 1, 0);
        is("27: of none", x.again(0), sum(cells(), 0, 0, 0, 0));
    }

    private static void shares() {
        Lagless x = machine(ADDING);
        x.begin(2, 0, 9, 0);
        fails("30: none was run", ARITHMETIC, x::againShare);
        run(x, 0, 0, 0, 0);
        is("30: none again", x.againShare(), 0.0f);
        fails("31: peer 2", INDEX, () -> x.meanBack(2));
        fails("31: never", ARITHMETIC, () -> x.meanBack(0));
        run(x, 1, 1);
        pass(x, 1, 0);
        is("30: 3 of 7", x.againShare(), 3.0f / 7.0f);
        x.leave(0);
        is("30: with one that has left", x.againShare(), 3.0f / 7.0f);
        is("31: of one that has left", x.meanBack(0), 3.0);
    }

    private static void isSound() {
        Lagless x = machine("i 0 0", "i 1 1", "r 2 100", "+ 3 2", "- 3 1", "s 3 0", "] 3 1");
        is("32: not begun", x.isSound(), true);
        x.begin(3, 2, 6, 99);
        for (int n = 0; n < 60; n++) {
            for (int peer = 0; peer < 3; peer++) {
                int other = (peer + 1 + n % 2) % 3;
                x.press(peer, (n * 7 + peer * 5) % 16);
                x.advance(peer);
                if (n % 3 == peer) {
                    pass(x, peer, other);
                }
            }
            if (n % 10 == 4) {
                is("32: sound", x.isSound(), true);
            }
        }
        x.poke(2, 3, 4);
        is("32: poked", x.isSound(), true);
    }
}
