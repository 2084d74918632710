/** Promises 26 and 27: undo and checksum. */
public final class ChangeTest {
    public static void main(String[] args) {
        nothingToUndo();
        eachChangeIsUndone();
        onlyEightCanBeUndone();
        finalChangesStayFinal();
        undoneChangesDoNotCount();
        undoOfLoad();
        undoOfLaidLetters();
        undoKeepsTheBuffer();
        checksumOfANewObject();
        checksumByItsWords();
        Check.end();
    }

    private static void nothingToUndo() {
        RhymeRoofs x = new RhymeRoofs();
        Check.due("undo", x.undo(), -1);
        x.pass();
        Check.due("undo", x.undo(), 0);
        long before = x.checksum();
        Check.due("undo", x.undo(), -1);
        Check.due("nothing changes", x.checksum(), before);
    }

    private static void eachChangeIsUndone() {
        RhymeRoofs x = new RhymeRoofs();
        long[] sums = new long[6];
        sums[0] = x.checksum();
        Check.load(x, "roof 9 5;need 1;rank left;hand 0 cat at;hand 1 bat hat;");
        sums[1] = x.checksum();
        x.lay(0, 0);
        sums[2] = x.checksum();
        x.pass();
        sums[3] = x.checksum();
        Check.give(x, 1, "zat");
        sums[4] = x.checksum();
        x.auto(3);
        sums[5] = x.checksum();
        for (int i = 4; i >= 0; i--) {
            Check.due("undo to " + i, x.undo(), i);
            Check.due("checksum of " + i, x.checksum(), sums[i]);
        }
        Check.due("undo", x.undo(), -1);
    }

    private static void onlyEightCanBeUndone() {
        RhymeRoofs x = Check.loaded("roof 40;need 1;hand 0 a b c d e f g h;");
        long[] sums = new long[11];
        for (int i = 0; i < 11; i++) {
            sums[i] = x.checksum();
            if (i < 7) {
                Check.give(x, 1, "xyz");
            } else {
                x.auto(1);
            }
        }
        for (int i = 7; i >= 0; i--) {
            Check.due("undo", x.undo(), i);
            Check.due("checksum " + (i + 3), x.checksum(), sums[i + 3]);
        }
        Check.due("undo of a final change", x.undo(), -1);
        Check.due("checksum", x.checksum(), sums[3]);
    }

    private static void finalChangesStayFinal() {
        RhymeRoofs x = new RhymeRoofs();
        for (int i = 0; i < 9; i++) {
            x.auto(1);
        }
        for (int i = 7; i >= 0; i--) {
            Check.due("undo", x.undo(), i);
        }
        Check.due("the first change is final", x.undo(), -1);
        Check.due("it stands", x.state(7), 1);
        x.auto(1);
        Check.due("undo", x.undo(), 0);
        Check.due("it still stands", x.undo(), -1);
    }

    private static void undoneChangesDoNotCount() {
        RhymeRoofs x = new RhymeRoofs();
        Check.give(x, 0, "cat");
        for (int i = 0; i < 20; i++) {
            Check.give(x, 1, "dog");
            Check.due("undo", x.undo(), 1);
        }
        for (int i = 0; i < 7; i++) {
            Check.give(x, 1, "dog");
        }
        for (int i = 7; i >= 0; i--) {
            Check.due("undo", x.undo(), i);
        }
        Check.due("no words", x.state(11), 0);
    }

    private static void undoOfLoad() {
        RhymeRoofs x = Check.loaded("roof 9 5 3;players 4;need 4;bonus 9;crown 99;alike ab;rank 77;hand 3 cat;");
        long before = x.checksum();
        Check.load(x, "roof 40;hand 0 dog;rank 88;alike cd;");
        Check.due("rank", x.play(0, 0, 1), 88);
        x.undo();
        Check.due("checksum", x.checksum(), before);
        Check.due("alike", x.alike(0, 1), true);
        Check.due("not alike", x.alike(2, 3), false);
        x.pass();
        x.pass();
        x.pass();
        Check.due("rank", x.play(0, 0, 1), 77);
    }

    private static void undoOfLaidLetters() {
        RhymeRoofs x = Check.loaded("roof 9;hand 0 cat;hand 1 a;");
        x.lay(0, 0);
        Check.load(x, "roof 9;hand 0 dog;hand 1 a;");
        x.lay(0, 0);
        Check.due("tile", x.tile(0, 0), 'd' - 'a');
        x.undo();
        x.undo();
        Check.due("tile 0", x.tile(0, 0), 'c' - 'a');
        Check.due("tile 2", x.tile(0, 2), 't' - 'a');
    }

    private static void undoKeepsTheBuffer() {
        RhymeRoofs x = new RhymeRoofs();
        x.pass();
        Check.append(x, "roof 9;");
        x.undo();
        Check.due("load of what was appended before", x.load(7), 0);
        Check.due("row", x.row(0, 0), 9);
    }

    private static void checksumOfANewObject() {
        int[] numbers = {1, 2, 2, 1, 5, 0, 0, 0, 0, 0, 0, 0, 10, 10, 0, -1,
            -1, -1, -1, -1, -1, -1, -1, -1, -1, -1, 0, 0, 0, 0, 0, 0, 0, 0};
        long sum = 0;
        for (int n : numbers) {
            sum = 31 * sum + n;
        }
        Check.due("checksum of a new object", new RhymeRoofs().checksum(), sum);
    }

    private static void checksumByItsWords() {
        RhymeRoofs x = Check.loaded("roof 4 2;need 1;players 3;hand 0 cat z;hand 1 at;hand 2 ba c;");
        x.lay(0, 0);
        int[] numbers = {2, 3, 1, 1, 5, 1, 0, 0, 1, 0, 1, 4, 4, 1, 1, 0, 2, 0, 19, -1, 2, 2, 0, -1, -1, -1,
            1, 1, 3, 1, 25, 1, 2, 0, 0, 0, 19, 2, 3, 0, 0, 1, 0, 2};
        long sum = 0;
        for (int n : numbers) {
            sum = 31 * sum + n;
        }
        Check.due("checksum", x.checksum(), sum);
    }
}
