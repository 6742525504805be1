import java.lang.reflect.Field;

/**
 * Holds that isSound sees what is wrong. No run of calls makes a game unsound, so each test here
 * spoils a sound one inside.
 */
public final class SoundnessTest extends Checks {
    private SoundnessTest() {
    }

    public static void main(String[] args) throws ReflectiveOperationException {
        seesWhoIsTooFarAhead();
        seesWhatWasNotTold();
        seesOtherSums();
        seesSoundsThatWereNotPlayed();
        leavesOutWhoLeft();
        end("isSound sees what is wrong");
    }

    /** Returns a game of two: the first has run five frames, of which three are sure, the second four. */
    private static Lagless game() {
        Lagless x = begun(2, 0, 10, ADDING);
        run(x, 1, 4, 5, 6, 7);
        run(x, 0, 1, 2, 3);
        pass(x, 0, 1);
        int three = x.send(1, 0);
        x.deliver(three);
        run(x, 0, 1, 2);
        is("a sound game", x.isSound(), true);
        return x;
    }

    private static Object inside(Object whole, String name) throws ReflectiveOperationException {
        return field(whole, name).get(whole);
    }

    private static Field field(Object whole, String name) throws ReflectiveOperationException {
        Field field = whole.getClass().getDeclaredField(name);
        field.setAccessible(true);
        return field;
    }

    private static Object peer(Lagless x, int number) throws ReflectiveOperationException {
        return ((Object[]) inside(x, "peers"))[number];
    }

    private static void seesWhoIsTooFarAhead() throws ReflectiveOperationException {
        Lagless x = game();
        is("sure", x.sure(0), 4);
        is("frameOf", x.frameOf(0), 5);
        field(x, "bound").setInt(x, 1);
        is("as far as it may be", x.isSound(), true);
        field(x, "bound").setInt(x, 0);
        is("further than it may be", x.isSound(), false);
    }

    private static void seesWhatWasNotTold() throws ReflectiveOperationException {
        Lagless x = game();
        int[] knows = (int[]) inside(peer(x, 0), "knows");
        knows[1] = 5;
        is("more than was told", x.isSound(), false);
        for (int frame = 0; frame < 4; frame++) {
            Lagless y = game();
            int[][] taken = (int[][]) inside(peer(y, 0), "taken");
            taken[frame][1]++;
            is("another input of another one", y.isSound(), false);
            taken[frame][1]--;
            taken[frame][0]++;
            is("another input of its own", y.isSound(), false);
        }
        Lagless z = game();
        ((int[][]) inside(peer(z, 0), "taken"))[4][1]++;
        is("another guess", z.isSound(), true);
    }

    private static void seesOtherSums() throws ReflectiveOperationException {
        for (int frames = 0; frames <= 5; frames++) {
            for (int number = 0; number < 20; number++) {
                Lagless x = game();
                ((int[][]) inside(peer(x, 0), "states"))[frames][number]++;
                is("another number " + number + " behind " + frames, x.isSound(), frames == 5);
                x.poke(0, 0, x.cell(0, 0));
                is("of one that was poked", x.isSound(), true);
            }
        }
    }

    private static void seesSoundsThatWereNotPlayed() throws ReflectiveOperationException {
        for (int frame = 0; frame < 5; frame++) {
            Lagless x = game();
            long[] heard = (long[]) inside(inside(peer(x, 0), "sounds"), "heard");
            for (int n = 0; n < 4; n++) {
                heard[4 * frame + n] = 0;
            }
            is("silent in the frame " + frame, x.isSound(), false);
        }
    }

    private static void leavesOutWhoLeft() throws ReflectiveOperationException {
        Lagless x = game();
        x.leave(0);
        ((int[][]) inside(peer(x, 0), "states"))[1][0]++;
        ((int[][]) inside(peer(x, 0), "taken"))[1][1]++;
        long[] heard = (long[]) inside(inside(peer(x, 0), "sounds"), "heard");
        heard[0] = 0;
        is("one that has left", x.isSound(), true);
        ((int[][]) inside(peer(x, 1), "states"))[1][0]++;
        is("one that has not", x.isSound(), false);
    }
}
