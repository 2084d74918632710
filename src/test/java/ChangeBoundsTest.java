import java.math.BigInteger;
import java.util.ArrayList;
import java.util.List;
import java.util.NoSuchElementException;

/** The boundary cases that 'Changes' and the promises undo and checksum name: a test for each sentence. */
public final class ChangeBoundsTest {
    private static final String SETUP =
            "roof 9 5;players 3;need 2;bonus 3;crown 4;alike ae;rank 7;hand 0 cat dog;hand 1 bet hat;hand 2 rat;";

    public static void main(String[] args) {
        loadIsAChange();
        layIsAChange();
        passIsAChange();
        autoIsAChange();
        giveIsAChange();
        changesThatChangeNothing();
        queriesAreNoChanges();
        throwingCallsAreNoChanges();
        latestEightChanges();
        latestFirst();
        finalChanges();
        finalBehindUndoneChanges();
        undoneChangesDoNotCount();
        allDataAreUndone();
        beforeTheFirstLoad();
        exceptionListedFirst();
        exceptionListedFirstByGive();
        throwingCallsChangeNothing();
        undoKeepsTheBuffer();
        undoKeepsTheErrorOffset();
        changesThatCanStillBeUndone();
        nothingToUndo();
        checksumStartsAtZero();
        checksumOfEachNumber();
        checksumWrapsAround();
        Check.end();
    }

    private static void loadIsAChange() {
        Check.sentence("The changing methods are load (when it succeeds), lay, pass, auto and give");
        RhymeRoofs x = Check.loaded(SETUP);
        long before = x.checksum();
        Check.load(x, "roof 0;");
        Check.load(x, "roof 7;");
        Check.due("undo of the second load", x.undo(), 1);
        Check.due("checksum", x.checksum(), before);
        Check.due("undo of the first load", x.undo(), 0);
        Check.due("tiles", x.row(0, 0), 10);
        Check.due("the load with an error is none", x.undo(), -1);
    }

    private static void layIsAChange() {
        Check.sentence("The changing methods are load (when it succeeds), lay, pass, auto and give");
        RhymeRoofs x = Check.loaded(SETUP);
        long before = x.checksum();
        x.lay(1, 0);
        Check.due("undo", x.undo(), 1);
        Check.due("checksum", x.checksum(), before);
        Check.due("letter of the word in its place again", x.letter(0, 1, 0), 'd' - 'a');
    }

    private static void passIsAChange() {
        Check.sentence("The changing methods are load (when it succeeds), lay, pass, auto and give");
        RhymeRoofs x = Check.loaded(SETUP);
        x.pass();
        x.pass();
        x.pass();
        Check.due("over", x.state(6), 1);
        Check.due("undo of the last pass", x.undo(), 3);
        Check.due("over", x.state(6), 0);
        Check.due("turn", x.state(5), 2);
        Check.due("passes", x.state(7), 2);
    }

    private static void autoIsAChange() {
        Check.sentence("The changing methods are load (when it succeeds), lay, pass, auto and give");
        RhymeRoofs x = Check.loaded(SETUP);
        long before = x.checksum();
        Check.due("all steps", x.auto(50), 7);
        Check.due("one change, however many steps", x.undo(), 1);
        Check.due("checksum", x.checksum(), before);
    }

    private static void giveIsAChange() {
        Check.sentence("The changing methods are load (when it succeeds), lay, pass, auto and give");
        RhymeRoofs x = Check.loaded(SETUP);
        Check.give(x, 2, "mat");
        Check.due("words", x.player(2, 0), 2);
        Check.due("undo", x.undo(), 1);
        Check.due("words", x.player(2, 0), 1);
    }

    private static void changesThatChangeNothing() {
        Check.sentence("each such call that does not throw an exception is a change, also if all data stay as they were");
        RhymeRoofs x = new RhymeRoofs();
        Check.load(x, "roof 10;");
        Check.load(x, "roof 10;");
        Check.due("undo of the same setup", x.undo(), 1);
        x.auto(2);
        Check.due("steps when over", x.auto(1), 0);
        Check.due("steps when over", x.auto(50), 0);
        Check.due("undo of no step", x.undo(), 3);
        Check.due("undo of no step", x.undo(), 2);
        Check.due("still over", x.state(6), 1);
        Check.due("undo of two steps", x.undo(), 1);
        Check.due("not over", x.state(6), 0);
    }

    private static void queriesAreNoChanges() {
        Check.sentence("The changing methods are load (when it succeeds), lay, pass, auto and give");
        RhymeRoofs x = Check.loaded(SETUP);
        x.lay(0, 0);
        long before = x.checksum();
        x.append(1, 2, 3, 4, 5);
        x.errorOffset();
        x.state(10);
        x.row(0, 1);
        x.tile(0, 0);
        x.player(0, 1);
        x.letter(1, 0, 0);
        x.alike(0, 1);
        x.rhyme(1, 0, 0);
        x.why(0, 0);
        x.play(0, 0, 1);
        x.best();
        x.chain(1, 0);
        x.worth(1, 0);
        x.fillings(1, 0);
        x.threats(0);
        x.winner();
        x.stepsToEnd();
        x.covered();
        Check.due("checksum", x.checksum(), before);
        Check.due("undo of lay", x.undo(), 1);
        Check.due("undo of load", x.undo(), 0);
    }

    private static void throwingCallsAreNoChanges() {
        Check.sentence("each such call that does not throw an exception is a change");
        RhymeRoofs x = Check.loaded("roof 2;hand 0 cat;");
        Check.dueIllegalState("lay", () -> x.lay(0, 0));
        Check.dueOutOfBounds("lay", () -> x.lay(1, 0));
        Check.dueIllegalArgument("auto", () -> x.auto(0));
        Check.dueIllegalArgument("give", () -> x.give(0, 1));
        Check.dueIllegalArgument("load", () -> x.load(1));
        x.auto(2);
        Check.dueIllegalState("pass", x::pass);
        Check.due("undo of auto", x.undo(), 1);
        Check.due("undo of load", x.undo(), 0);
        Check.due("nothing left", x.undo(), -1);
    }

    /** Makes changes of each kind, one by one, and notes the checksum before each. */
    private static long[] change(RhymeRoofs x, int changes) {
        long[] sums = new long[changes + 1];
        for (int i = 0; i < changes; i++) {
            sums[i] = x.checksum();
            switch (i % 5) {
                case 0 -> Check.load(x, "roof " + (i + 5) + " 40;need 1;hand 0 at bt;hand 1 ct dt;");
                case 1 -> x.lay(0, 0);
                case 2 -> Check.give(x, 0, "zt");
                case 3 -> x.pass();
                default -> x.auto(1);
            }
        }
        sums[changes] = x.checksum();
        return sums;
    }

    private static void latestEightChanges() {
        Check.sentence("The latest 8 changes can be undone");
        for (int changes = 0; changes <= 20; changes++) {
            RhymeRoofs x = new RhymeRoofs();
            long[] sums = change(x, changes);
            int most = Math.min(changes, 8);
            for (int i = 1; i <= most; i++) {
                Check.due("undo " + i + " of " + changes, x.undo(), most - i);
            }
            Check.due("checksum", x.checksum(), sums[changes - most]);
            Check.due("no further undo of " + changes, x.undo(), -1);
        }
    }

    private static void latestFirst() {
        Check.sentence("the latest one first");
        RhymeRoofs x = new RhymeRoofs();
        long[] sums = change(x, 13);
        for (int i = 12; i >= 5; i--) {
            x.undo();
            Check.due("checksum before change " + i, x.checksum(), sums[i]);
        }
    }

    private static void finalChanges() {
        Check.sentence("a change is final as soon as 8 later ones, none of them undone, have been made");
        RhymeRoofs seven = new RhymeRoofs();
        long[] sums = change(seven, 8);
        for (int i = 7; i >= 1; i--) {
            seven.undo();
        }
        Check.due("7 later ones: the first can be undone", seven.undo(), 0);
        Check.due("checksum", seven.checksum(), sums[0]);
        RhymeRoofs eight = new RhymeRoofs();
        sums = change(eight, 9);
        for (int i = 8; i >= 1; i--) {
            eight.undo();
        }
        Check.due("8 later ones: the first is final", eight.undo(), -1);
        Check.due("checksum", eight.checksum(), sums[1]);
    }

    private static void finalBehindUndoneChanges() {
        Check.sentence("a change is final as soon as 8 later ones");
        RhymeRoofs x = new RhymeRoofs();
        long[] sums = change(x, 9);
        for (int i = 8; i >= 1; i--) {
            x.undo();
        }
        Check.give(x, 0, "abc");
        Check.give(x, 0, "abc");
        Check.due("undo of the second", x.undo(), 1);
        Check.due("undo of the first", x.undo(), 0);
        Check.due("what was final stays so", x.undo(), -1);
        Check.due("checksum", x.checksum(), sums[1]);
    }

    private static void undoneChangesDoNotCount() {
        Check.sentence("none of them undone");
        RhymeRoofs x = new RhymeRoofs();
        long first = x.checksum();
        Check.load(x, "roof 7;");
        for (int i = 0; i < 9; i++) {
            Check.give(x, 0, "abc");
            Check.due("undo of a later one", x.undo(), 1);
        }
        for (int i = 0; i < 7; i++) {
            Check.give(x, 0, "abc");
        }
        Check.due("undo", x.undo(), 7);
        Check.give(x, 1, "abc");
        for (int i = 7; i >= 1; i--) {
            Check.due("undo of a later one", x.undo(), i);
        }
        Check.due("undo of the first", x.undo(), 0);
        Check.due("checksum", x.checksum(), first);
    }

    private static void allDataAreUndone() {
        Check.sentence("Undoes the latest change that is not final and has not been undone.");
        RhymeRoofs x = Check.loaded(SETUP);
        x.lay(0, 0);
        long before = x.checksum();
        int rank = x.play(0, 0, 1);
        Check.load(x, "roof 40 40 40;players 4;need 4;bonus 9;crown 99;alike tz;rank 8;hand 0 zzzz;");
        x.lay(0, 0);
        x.undo();
        x.undo();
        Check.due("checksum", x.checksum(), before);
        Check.due("rank", x.play(0, 0, 1), rank);
        Check.due("letters alike", x.alike(0, 4), true);
        Check.due("letters alike no more", x.alike('t' - 'a', 25), false);
        Check.due("rhyme with the last word", x.rhyme(1, 0, 0), 2);
        Check.dueOutOfBounds("row 2", () -> x.row(2, 0));
        Check.dueOutOfBounds("player 3", () -> x.player(3, 0));
        x.undo();
        Check.due("no word lies on the row", x.rhyme(1, 0, 0), -1);
        Check.due("owner", x.row(0, 3), -1);
    }

    private static void beforeTheFirstLoad() {
        Check.sentence("Before the first successful load there is one row of 10 tiles, and all is as without statements.");
        RhymeRoofs x = new RhymeRoofs();
        Check.load(x, "roof 40 40;need 4;alike ab;rank 7;x");
        Check.due("checksum", x.checksum(), Check.loaded("roof 10;").checksum());
        Check.due("rows", x.state(0), 1);
        Check.due("tiles", x.row(0, 0), 10);
        int[] want = {2, 2, 1, 5};
        for (int what = 1; what <= 4; what++) {
            Check.due("state(" + what + ")", x.state(what), want[what - 1]);
        }
        Check.due("a and b", x.alike(0, 1), false);
        Check.give(x, 0, "abc");
        Check.due("the rank is the points", x.play(0, 0, 1), 3);
        Check.due("a word can be laid", x.lay(0, 0), 3);
    }

    private static void exceptionListedFirst() {
        Check.sentence("If several exceptions apply to a call, the one that is listed first with the method is thrown.");
        RhymeRoofs x = Check.loaded("roof 2;hand 0 abc;");
        Check.dueOutOfBounds("row: no row, no what", () -> x.row(1, 4));
        Check.dueOutOfBounds("tile: no row, no tile", () -> x.tile(1, 2));
        Check.dueOutOfBounds("player: no player, no what", () -> x.player(2, 4));
        Check.dueOutOfBounds("letter: no player, no letter", () -> x.letter(2, 0, 3));
        Check.dueOutOfBounds("letter: no place, no letter", () -> x.letter(0, 1, 3));
        Check.dueOutOfBounds("play: no place, no what", () -> x.play(1, 0, 2));
        Check.dueOutOfBounds("play: no row, no what, not to be laid", () -> x.play(0, 1, 2));
        Check.dueOutOfBounds("play: no row, not to be laid", () -> x.play(0, 1, 0));
        Check.dueIllegalArgument("play: no what, not to be laid", () -> x.play(0, 0, 2));
        Check.dueIllegalArgument("play: no what, not to be laid", () -> x.play(0, 0, -1));
        Check.dueNoSuchElement("play: not to be laid", () -> x.play(0, 0, 1));
        Check.dueOutOfBounds("lay: no place", () -> x.lay(1, 0));
        Check.dueOutOfBounds("lay: no row, not to be laid", () -> x.lay(0, 1));
        x.auto(50);
        Check.dueIllegalArgument("auto: no steps, over", () -> x.auto(51));
        x.undo();
        x.pass();
        Check.dueOutOfBounds("lay: a place of the other hand", () -> x.lay(0, 0));
        RhymeRoofs y = Check.loaded("roof 9;hand 1 abc;");
        y.auto(50);
        Check.dueOutOfBounds("lay: no row, over", () -> y.lay(0, 1));
        Check.dueIllegalArgument("play: no what, over", () -> Check.loaded("roof 1;hand 0 a;").play(0, 0, 2));
    }

    private static void exceptionListedFirstByGive() {
        Check.sentence("the one that is listed first with the method is thrown");
        RhymeRoofs x = Check.loaded("roof 9;hand 0 a b c d e f g h;");
        Check.append(x, "abc!");
        Check.dueOutOfBounds("no player, no length", () -> x.give(2, 0));
        Check.dueOutOfBounds("no player, not a letter", () -> x.give(-1, 4));
        Check.dueIllegalArgument("no length, a full hand", () -> x.give(0, 0));
        Check.dueIllegalArgument("no length, a full hand", () -> x.give(0, 9));
        Check.dueIllegalArgument("not a letter, a full hand", () -> x.give(0, 4));
        Check.dueIllegalState("a full hand", () -> x.give(0, 3));
        x.pass();
        x.pass();
        Check.dueOutOfBounds("no player, over", () -> x.give(2, 3));
        Check.dueIllegalArgument("no length, over", () -> x.give(1, 9));
        Check.dueIllegalArgument("not a letter, over", () -> x.give(1, 4));
        Check.dueIllegalState("over", () -> x.give(1, 3));
        RhymeRoofs y = new RhymeRoofs();
        y.auto(2);
        Check.dueIllegalArgument("longer than the buffer, over", () -> y.give(0, 1));
    }

    private interface CallOf {
        void run(RhymeRoofs x);
    }

    private static void dueNoTrace(String name, CallOf call) {
        RhymeRoofs x = Check.loaded("roof 3 2;players 3;need 2;alike ae;rank 7;hand 0 cat dog;hand 1 cat a b c d e f g;");
        Check.load(x, "roof 3;;");
        x.lay(0, 0);
        Check.append(x, "mat");
        long before = x.checksum();
        boolean thrown = false;
        try {
            call.run(x);
        } catch (RuntimeException e) {
            thrown = true;
        }
        Check.due(name + ": throws", thrown, true);
        Check.due(name + ": checksum", x.checksum(), before);
        Check.due(name + ": errorOffset", x.errorOffset(), 7);
        Check.due(name + ": rank", x.play(1, 1, 1), 7);
        Check.due(name + ": a and e", x.alike(0, 4), true);
        Check.due(name + ": length of the buffer", x.append(0, 0, 0, 0, 0), 40);
        Check.due(name + ": undo of lay", x.undo(), 1);
        Check.due(name + ": give of what the buffer holds", x.give(0, 3), 2);
        Check.due(name + ": letter of mat", x.letter(0, 2, 0), 'm' - 'a');
        x.undo();
        Check.due(name + ": undo of load", x.undo(), 0);
        Check.due(name + ": nothing to undo", x.undo(), -1);
    }

    private static void throwingCallsChangeNothing() {
        Check.sentence("A method that throws an exception changes nothing.");
        dueNoTrace("load(-1)", x -> x.load(-1));
        dueNoTrace("load(21)", x -> x.load(21));
        dueNoTrace("state(12)", x -> x.state(12));
        dueNoTrace("row(2, 0)", x -> x.row(2, 0));
        dueNoTrace("row(0, 4)", x -> x.row(0, 4));
        dueNoTrace("tile(0, 3)", x -> x.tile(0, 3));
        dueNoTrace("player(0, 4)", x -> x.player(0, 4));
        dueNoTrace("letter(0, 0, 3)", x -> x.letter(0, 0, 3));
        dueNoTrace("alike(26, 0)", x -> x.alike(26, 0));
        dueNoTrace("rhyme(0, 1, 0)", x -> x.rhyme(0, 1, 0));
        dueNoTrace("why(8, 0)", x -> x.why(8, 0));
        dueNoTrace("play(0, 0, 0)", x -> x.play(0, 0, 0));
        dueNoTrace("play(0, 0, 2)", x -> x.play(0, 0, 2));
        dueNoTrace("chain(3, 0)", x -> x.chain(3, 0));
        dueNoTrace("worth(0, 2)", x -> x.worth(0, 2));
        dueNoTrace("fillings(3, 0)", x -> x.fillings(3, 0));
        dueNoTrace("threats(2)", x -> x.threats(2));
        dueNoTrace("lay(8, 0)", x -> x.lay(8, 0));
        dueNoTrace("lay(0, 2)", x -> x.lay(0, 2));
        dueNoTrace("lay(0, 0)", x -> x.lay(0, 0));
        dueNoTrace("auto(0)", x -> x.auto(0));
        dueNoTrace("auto(51)", x -> x.auto(51));
        dueNoTrace("give(3, 3)", x -> x.give(3, 3));
        dueNoTrace("give(0, 0)", x -> x.give(0, 0));
        dueNoTrace("give(0, 4)", x -> x.give(0, 4));
        dueNoTrace("give(1, 3)", x -> x.give(1, 3));
        RhymeRoofs over = Check.loaded("roof 9;");
        over.auto(50);
        Check.append(over, "abc");
        long before = over.checksum();
        Check.dueIllegalState("pass", over::pass);
        Check.dueIllegalState("give", () -> over.give(0, 3));
        Check.due("over: checksum", over.checksum(), before);
        Check.due("over: length of the buffer", over.append(0, 0, 0, 0, 0), 40);
        Check.due("over: undo", over.undo(), 1);
    }

    private static void undoKeepsTheBuffer() {
        Check.sentence("The input buffer and the error offset are not affected.");
        RhymeRoofs x = new RhymeRoofs();
        Check.append(x, "abc");
        x.pass();
        Check.append(x, "def");
        x.undo();
        Check.due("length of the buffer", x.append(0, 0, 0, 0, 0), 60);
        Check.due("undo of nothing", x.undo(), -1);
        Check.due("length of the buffer", x.append(0, 0, 0, 0, 0), 80);
        Check.due("give", x.give(0, 3), 0);
        x.undo();
        Check.due("the bytes of give do not come back", x.append(0, 0, 0, 0, 0), 20);
        x.load(0);
        Check.load(x, "roof 9;");
        x.undo();
        Check.due("the bytes of load do not come back", x.append(0, 0, 0, 0, 0), 20);
    }

    private static void undoKeepsTheErrorOffset() {
        Check.sentence("and the error offset are not affected");
        RhymeRoofs x = new RhymeRoofs();
        x.pass();
        Check.load(x, "roof 9;x");
        Check.due("undo of pass", x.undo(), 0);
        Check.due("errorOffset", x.errorOffset(), 7);
        Check.load(x, "roof 9;");
        Check.due("undo of load", x.undo(), 0);
        Check.due("errorOffset", x.errorOffset(), -1);
    }

    private static void changesThatCanStillBeUndone() {
        Check.sentence("Returns the number of changes that can still be undone");
        RhymeRoofs x = new RhymeRoofs();
        change(x, 8);
        for (int i = 7; i >= 0; i--) {
            Check.due("undo", x.undo(), i);
        }
        change(x, 2);
        Check.due("undo", x.undo(), 1);
        change(x, 1);
        Check.due("undo", x.undo(), 1);
        Check.due("undo", x.undo(), 0);
    }

    private static void nothingToUndo() {
        Check.sentence("-1 if there was none to undo, and nothing changes then");
        RhymeRoofs x = new RhymeRoofs();
        long before = x.checksum();
        Check.due("a new object", x.undo(), -1);
        Check.due("again", x.undo(), -1);
        Check.due("checksum", x.checksum(), before);
        x.pass();
        Check.due("undo", x.undo(), 0);
        Check.due("undo", x.undo(), -1);
        Check.due("checksum", x.checksum(), before);
        RhymeRoofs y = Check.loaded(SETUP);
        y.lay(0, 0);
        y.pass();
        Check.load(y, "roof");
        for (int i = 0; i < 8; i++) {
            y.auto(1);
        }
        for (int i = 0; i < 8; i++) {
            y.undo();
        }
        Check.append(y, "abc");
        long behindThePass = y.checksum();
        Check.due("only final changes", y.undo(), -1);
        Check.due("checksum", y.checksum(), behindThePass);
        Check.due("passes", y.state(7), 1);
        Check.due("turn", y.state(5), 2);
        Check.due("errorOffset", y.errorOffset(), 4);
        Check.due("length of the buffer", y.append(0, 0, 0, 0, 0), 40);
    }

    /** The numbers of the checksum, by what the other methods tell. */
    private static List<Integer> told(RhymeRoofs x) {
        List<Integer> numbers = new ArrayList<>();
        for (int what = 0; what <= 11; what++) {
            numbers.add(x.state(what));
        }
        for (int r = 0; r < x.state(0); r++) {
            for (int what = 0; what <= 3; what++) {
                numbers.add(x.row(r, what));
            }
            for (int t = 0; t < x.row(r, 0); t++) {
                numbers.add(x.tile(r, t));
            }
        }
        for (int p = 0; p < x.state(1); p++) {
            for (int what = 0; what <= 3; what++) {
                numbers.add(x.player(p, what));
            }
            for (int place = 0; place < x.player(p, 0); place++) {
                for (int k = 0; hasLetter(x, p, place, k); k++) {
                    numbers.add(x.letter(p, place, k));
                }
            }
        }
        return numbers;
    }

    private static long sumOf(List<Integer> numbers) {
        long sum = 0;
        for (int n : numbers) {
            sum = 31 * sum + n;
        }
        return sum;
    }

    private static boolean hasLetter(RhymeRoofs x, int player, int place, int k) {
        try {
            return x.letter(player, place, k) >= 0;
        } catch (NoSuchElementException e) {
            return false;
        }
    }

    private static void checksumStartsAtZero() {
        Check.sentence("It starts at 0; each number n in the following order replaces it by 31 * checksum + n");
        List<Integer> numbers = List.of(1, 2, 2, 1, 5, 0, 0, 0, 0, 0, 0, 0, 2, 2, 0, -1, -1, -1, 0, 0, 0, 0, 0, 0, 0, 0);
        Check.due("two free tiles, no words", Check.loaded("roof 2;").checksum(), sumOf(numbers));
    }

    private static void checksumOfEachNumber() {
        Check.sentence("state(0) to state(11); for each row what row(int, int) tells of it for 0 to 3");
        RhymeRoofs x = Check.loaded(SETUP);
        for (int step = 0; step < 8; step++) {
            Check.due("checksum behind " + step + " steps", x.checksum(), sumOf(told(x)));
            x.auto(1);
        }
        Check.due("over", x.state(6), 1);
        Check.due("checksum when over", x.checksum(), sumOf(told(x)));
    }

    private static void checksumWrapsAround() {
        Check.sentence("wrapping around on overflow of a long");
        RhymeRoofs x = Check.loaded("roof 40 40 40 40 40 40;players 4;hand 0 abcdefgh zzzzzzzz;hand 3 yyyyyyyy;");
        x.lay(1, 5);
        x.pass();
        x.pass();
        x.lay(0, 0);
        BigInteger sum = BigInteger.ZERO;
        for (int n : told(x)) {
            sum = sum.multiply(BigInteger.valueOf(31)).add(BigInteger.valueOf(n));
        }
        Check.due("it overflows", sum.bitLength() > 64, true);
        Check.due("six rows, four players", x.checksum(), sum.longValue());
    }
}
