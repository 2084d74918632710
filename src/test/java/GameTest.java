/** Promises 19 to 25: games played on by rank, covered tiles, and the changes lay, pass, auto and give. */
public final class GameTest {
    public static void main(String[] args) {
        laidWords();
        layExceptions();
        turnsGoRound();
        passesEndTheGame();
        aWordBreaksThePasses();
        lastWordEndsTheGame();
        ownersArePaid();
        emptyHandsFromTheBeginning();
        stepsByRank();
        autoExceptions();
        autoWhenOver();
        winnerAndSteps();
        winnerOfEqualPoints();
        queriesChangeNothing();
        coveredTiles();
        sixRowsAndFourPlayers();
        givenWords();
        giveExceptions();
        giveKeepsPasses();
        Check.end();
    }

    private static void laidWords() {
        RhymeRoofs x = Check.loaded("roof 9 9;bonus 2;hand 0 cat dog ox;hand 1 hat;");
        Check.due("lay dog", x.lay(1, 1), 3);
        Check.due("hand", x.player(0, 0), 2);
        Check.due("words behind come ahead", x.letter(0, 1, 0), 'o' - 'a');
        Check.due("words ahead stay", x.letter(0, 0, 0), 'c' - 'a');
        Check.due("row", x.row(1, 1), 6);
        Check.due("owner", x.row(1, 3), 0);
        Check.due("turn", x.state(5), 1);
        Check.due("lay hat", x.lay(0, 0), 3);
        Check.due("lay cat", x.lay(0, 0), 3 + 4);
        Check.due("owner", x.row(0, 3), 0);
        Check.due("points", x.player(0, 2), 10);
    }

    private static void layExceptions() {
        RhymeRoofs x = Check.loaded("roof 4;hand 0 abcde abc;hand 1 cat cat cat;");
        long before = x.checksum();
        Check.dueOutOfBounds("lay(2, 0)", () -> x.lay(2, 0));
        Check.dueOutOfBounds("lay(-1, 0)", () -> x.lay(-1, 0));
        Check.dueOutOfBounds("lay(0, 1)", () -> x.lay(0, 1));
        Check.dueOutOfBounds("lay(0, -1)", () -> x.lay(0, -1));
        Check.dueIllegalState("lay(0, 0)", () -> x.lay(0, 0));
        Check.due("checksum behind exceptions", x.checksum(), before);
        Check.due("undo of the load", x.undo(), 0);
        RhymeRoofs y = Check.loaded("roof 9;hand 0 cat;hand 1 dog cat;");
        y.pass();
        y.pass();
        Check.dueIllegalState("lay when over", () -> y.lay(0, 0));
        Check.dueOutOfBounds("no such place when over", () -> y.lay(2, 0));
    }

    private static void turnsGoRound() {
        RhymeRoofs x = Check.loaded("roof 9;players 4;hand 3 a b;");
        Check.due("pass of 0", x.pass(), 1);
        Check.due("pass of 1", x.pass(), 2);
        Check.due("pass of 2", x.pass(), 3);
        x.lay(0, 0);
        Check.due("turn behind player 3", x.state(5), 0);
    }

    private static void passesEndTheGame() {
        RhymeRoofs x = Check.loaded("roof 9;players 3;hand 0 a;");
        Check.due("pass", x.pass(), 1);
        Check.due("pass", x.pass(), 2);
        Check.due("passes", x.state(7), 2);
        Check.due("the last pass", x.pass(), 2);
        Check.due("over", x.state(6), 1);
        Check.dueIllegalState("pass when over", x::pass);
        Check.due("passes", x.state(7), 3);
        Check.due("undo", x.undo(), 3);
    }

    private static void aWordBreaksThePasses() {
        RhymeRoofs x = Check.loaded("roof 9;need 1;hand 0 a ba;hand 1 ca da;");
        x.pass();
        x.lay(0, 0);
        Check.due("passes behind a word", x.state(7), 0);
        x.pass();
        Check.due("not over", x.state(6), 0);
        x.pass();
        Check.due("over", x.state(6), 1);
    }

    private static void lastWordEndsTheGame() {
        RhymeRoofs x = Check.loaded("roof 9;need 1;players 3;hand 0 a;hand 1 ba;");
        x.lay(0, 0);
        Check.due("not over while a hand has words", x.state(6), 0);
        x.lay(0, 0);
        Check.due("over", x.state(6), 1);
        Check.due("turn stays", x.state(5), 1);
        Check.dueIllegalState("pass", x::pass);
    }

    private static void ownersArePaid() {
        RhymeRoofs x = Check.loaded("roof 9 5 3 8;bonus 0;crown 0;need 1;hand 0 abc abcde xyz;hand 1 zc fgh zz;");
        Check.due("lay abc", x.lay(0, 0), 3);
        Check.due("lay zc behind it", x.lay(0, 0), 2);
        Check.due("lay abcde, filling", x.lay(0, 1), 5);
        Check.due("lay fgh, filling", x.lay(0, 2), 3);
        Check.due("lay xyz", x.lay(0, 3), 3);
        Check.due("points of 0 before the end", x.player(0, 2), 11);
        Check.due("points of 1 before the end", x.player(1, 2), 5);
        Check.due("pass", x.pass(), 0);
        Check.due("the last pass", x.pass(), 0);
        Check.due("half of 3 for 0", x.player(0, 2), 12);
        Check.due("half of 5 for 1", x.player(1, 2), 7);
        RhymeRoofs y = Check.loaded("roof 9 9;need 1;hand 0 a;hand 1 b;");
        y.lay(0, 0);
        Check.due("points of the last word, without the half", y.lay(0, 1), 1);
        Check.due("half of 1 is cut for each row", y.player(0, 2) + y.player(1, 2), 2);
        RhymeRoofs w = Check.loaded("roof 5;hand 0 abcd;");
        Check.due("a row with one free tile", w.lay(0, 0), 4);
        Check.due("half of 4", w.player(0, 2), 6);
        RhymeRoofs z = Check.loaded("roof 9 9;need 1;hand 0 abc xyz;");
        z.lay(0, 0);
        z.pass();
        z.lay(0, 1);
        Check.due("halves of 3 and 3", z.player(0, 2), 6 + 1 + 1);
    }

    private static void emptyHandsFromTheBeginning() {
        RhymeRoofs x = Check.loaded("roof 9;players 3;");
        Check.due("not over", x.state(6), 0);
        Check.due("steps to the end", x.stepsToEnd(), 3);
        x.pass();
        x.pass();
        Check.due("not over", x.state(6), 0);
        x.pass();
        Check.due("over", x.state(6), 1);
    }

    private static void stepsByRank() {
        RhymeRoofs x = Check.loaded("roof 9 4;need 2;rank letters;hand 0 cat flat rat;hand 1 hat ab;");
        Check.due("auto(1)", x.auto(1), 1);
        Check.due("flat on row 0", x.row(0, 1), 5);
        Check.due("auto(2)", x.auto(2), 2);
        Check.due("hat and nothing", x.row(0, 1), 2);
        Check.due("cat on row 1", x.row(1, 1), 1);
        Check.due("turn", x.state(5), 1);
        Check.due("auto(50)", x.auto(50), 2);
        Check.due("over", x.state(6), 1);
        Check.due("passes", x.state(7), 2);
        RhymeRoofs y = Check.loaded("roof 9;rank 0-letters;hand 0 abc ab;");
        y.auto(1);
        Check.due("ab", y.row(0, 1), 7);
    }

    private static void autoExceptions() {
        RhymeRoofs x = Check.loaded("roof 9;hand 0 abc ab;");
        Check.dueIllegalArgument("auto(0)", () -> x.auto(0));
        Check.dueIllegalArgument("auto(51)", () -> x.auto(51));
        Check.dueIllegalArgument("auto(-1)", () -> x.auto(-1));
        Check.dueIllegalArgument("auto(MIN)", () -> x.auto(Integer.MIN_VALUE));
        Check.due("words on rows", x.state(8), 0);
        Check.due("undo of the load", x.undo(), 0);
        Check.due("auto(50)", x.auto(50), 2);
    }

    private static void autoWhenOver() {
        RhymeRoofs x = new RhymeRoofs();
        Check.due("auto(50) of nothing", x.auto(50), 2);
        Check.due("auto(1) when over", x.auto(1), 0);
        Check.dueIllegalArgument("auto(0) when over", () -> x.auto(0));
        Check.due("undo of auto that made no step", x.undo(), 1);
        Check.due("still over", x.state(6), 1);
        Check.due("undo of auto", x.undo(), 0);
        Check.due("not over", x.state(6), 0);
    }

    private static void winnerAndSteps() {
        RhymeRoofs x = Check.loaded("roof 9 4;need 2;bonus 1;crown 5;hand 0 cat rat;hand 1 flat oat dog;");
        // cat on 0; flat fills 1 (9); rat on 0; oat fills 0 (3 + 2 + 15); pass; dog cannot be laid, pass.
        Check.due("steps", x.stepsToEnd(), 6);
        Check.due("winner", x.winner(), 1);
        Check.due("auto", x.auto(50), 6);
        Check.due("winner when over", x.winner(), 1);
        Check.due("steps when over", x.stepsToEnd(), 0);
        Check.due("points of 1", x.player(1, 2), 9 + 20);
        Check.due("points of 0", x.player(0, 2), 3 + 5);
        RhymeRoofs y = Check.loaded("roof 9;players 3;hand 2 abc;");
        Check.due("winner by the half", y.winner(), 2);
        Check.due("steps that end with a word", y.stepsToEnd(), 3);
    }

    private static void winnerOfEqualPoints() {
        RhymeRoofs x = Check.loaded("roof 3 3 3;players 3;hand 1 abc;hand 2 xyz;");
        Check.due("smallest of equal points", x.winner(), 1);
        RhymeRoofs y = Check.loaded("roof 3;players 3;");
        Check.due("all have none", y.winner(), 0);
    }

    private static void queriesChangeNothing() {
        RhymeRoofs x = Check.loaded("roof 9 4;need 2;hand 0 cat rat;hand 1 flat oat dog;");
        x.lay(0, 0);
        long before = x.checksum();
        x.winner();
        x.stepsToEnd();
        x.best();
        x.chain(1, 0);
        x.worth(1, 0);
        x.fillings(1, 0);
        x.threats(0);
        Check.load(x, "roof 0");
        x.winner();
        Check.due("checksum behind queries", x.checksum(), before);
        Check.due("undo", x.undo(), 1);
    }

    private static void coveredTiles() {
        RhymeRoofs x = Check.loaded("roof 3 4;hand 0 cat a;hand 1 dog;");
        Check.dueFloat("covered", x.covered(), 0f);
        x.lay(0, 1);
        Check.dueFloat("covered", x.covered(), 3f / 7f);
        x.lay(0, 0);
        Check.dueFloat("covered", x.covered(), 6f / 7f);
        RhymeRoofs y = Check.loaded("roof 3;hand 0 cat;");
        y.lay(0, 0);
        Check.dueFloat("covered", y.covered(), 1f);
        RhymeRoofs z = Check.loaded("roof 1;hand 0 a;");
        z.lay(0, 0);
        Check.dueFloat("one tile covered", z.covered(), 1f);
    }

    private static void sixRowsAndFourPlayers() {
        RhymeRoofs x = Check.loaded("roof 3 3 3 3 3 1;players 4;crown 0;hand 3 abc d;hand 0 a;hand 2 bb;hand 1 c cc;");
        x.lay(0, 0);
        x.lay(0, 1);
        x.lay(0, 2);
        x.lay(1, 5);
        Check.due("words on rows", x.state(8), 4);
        Check.due("filled rows", x.state(9), 1);
        Check.due("rows of 3", x.player(3, 3), 1);
        Check.dueFloat("covered", x.covered(), 5f / 16f);
        Check.due("winner", x.winner(), 1);
        x.pass();
        x.lay(0, 4);
        x.pass();
        x.lay(0, 3);
        Check.due("over", x.state(6), 1);
        Check.due("points of 1", x.player(1, 2), 4);
        Check.due("points of 2", x.player(2, 2), 3);
        Check.due("points of 3", x.player(3, 2), 4);
        Check.due("smallest of the most points", x.winner(), 1);
    }

    private static void givenWords() {
        RhymeRoofs x = Check.loaded("roof 9;players 3;hand 1 cat;");
        Check.append(x, "hatchets and more");
        Check.due("give", x.give(1, 8), 1);
        Check.due("letter", x.letter(1, 1, 7), 's' - 'a');
        Check.dueIllegalArgument("the buffer is empty", () -> x.give(1, 1));
        Check.due("give to another", Check.give(x, 2, "z"), 0);
        Check.due("words of all hands", x.state(11), 3);
        Check.due("turn stays", x.state(5), 0);
        Check.due("undo", x.undo(), 2);
        Check.due("words of all hands", x.state(11), 2);
        Check.dueIllegalArgument("undo fills no buffer", () -> x.give(1, 1));
    }

    private static void giveExceptions() {
        RhymeRoofs x = Check.loaded("roof 9;hand 0 a b c d e f g h;hand 1 a;");
        Check.append(x, "ab1zz{zz`zzAzz zz zz");
        Check.dueOutOfBounds("no such player", () -> x.give(2, 0));
        Check.dueOutOfBounds("no such player", () -> x.give(-1, 1));
        Check.dueIllegalArgument("length 0", () -> x.give(1, 0));
        Check.dueIllegalArgument("length -1", () -> x.give(1, -1));
        Check.dueIllegalArgument("length 9", () -> x.give(1, 9));
        Check.dueIllegalArgument("length MAX", () -> x.give(1, Integer.MAX_VALUE));
        Check.dueIllegalArgument("not a letter", () -> x.give(1, 3));
        Check.dueIllegalArgument("a full hand, but not a letter", () -> x.give(0, 3));
        Check.dueIllegalState("a full hand", () -> x.give(0, 2));
        Check.due("the buffer stays", x.give(1, 2), 1);
        RhymeRoofs y = Check.loaded("roof 9;hand 1 a;");
        y.pass();
        y.pass();
        Check.append(y, "ab");
        Check.dueIllegalState("over", () -> y.give(0, 2));
        Check.dueIllegalArgument("over, but not a letter", () -> y.give(0, 3));
        y.undo();
        Check.due("the buffer stays", y.give(0, 2), 0);
        for (String wrong : new String[] {"{", "`", "A", " ", "\0", "\u00e1"}) {
            Check.dueIllegalArgument("give of a byte that is no letter", () -> Check.give(new RhymeRoofs(), 0, wrong));
        }
        for (String right : new String[] {"a", "z", "abcdefgh"}) {
            Check.due("give of letters", Check.give(new RhymeRoofs(), 0, right), 0);
        }
    }

    private static void giveKeepsPasses() {
        RhymeRoofs x = new RhymeRoofs();
        x.pass();
        Check.give(x, 0, "cat");
        Check.due("passes behind give", x.state(7), 1);
        x.pass();
        Check.due("over", x.state(6), 1);
    }
}
