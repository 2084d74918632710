/** Promises 5 to 14: what is told of the state, rows, tiles, players, letters, rhymes and plays. */
public final class QueryTest {
    private static final String SETUP =
            "roof 10 4;players 3;need 2;bonus 3;crown 7;alike ae;hand 0 cat oat ox;hand 1 bet t;hand 2 frost;";

    public static void main(String[] args) {
        stateNumbers();
        stateOfPlaysThatCanBeMade();
        turnWhenOver();
        rowNumbers();
        tiles();
        playerNumbers();
        letters();
        alikeLetters();
        rhymes();
        rhymesOfUnequalWords();
        whyNot();
        whyInTheOrderOfReasons();
        whyWhenOver();
        playPoints();
        playExceptions();
        rankFacts();
        rankOperations();
        rankLimits();
        bestOfEqualRanks();
        bestByRank();
        Check.end();
    }

    private static void dueStates(String name, RhymeRoofs x, int... want) {
        for (int what = 0; what < want.length; what++) {
            Check.due(name + ": state(" + what + ")", x.state(what), want[what]);
        }
    }

    private static void stateNumbers() {
        RhymeRoofs x = Check.loaded(SETUP);
        dueStates("loaded", x, 2, 3, 2, 3, 7, 0, 0, 0, 0, 0, 6, 6);
        x.lay(0, 0);
        dueStates("cat laid", x, 2, 3, 2, 3, 7, 1, 0, 0, 1, 0, 3, 5);
        x.pass();
        dueStates("passed", x, 2, 3, 2, 3, 7, 2, 0, 1, 1, 0, 0, 5);
        x.pass();
        dueStates("passed again", x, 2, 3, 2, 3, 7, 0, 0, 2, 1, 0, 3, 5);
        x.lay(0, 0);
        dueStates("oat laid", x, 2, 3, 2, 3, 7, 1, 0, 0, 2, 0, 3, 4);
        Check.dueIllegalArgument("state(-1)", () -> x.state(-1));
        Check.dueIllegalArgument("state(12)", () -> x.state(12));
        Check.dueIllegalArgument("state(MIN)", () -> x.state(Integer.MIN_VALUE));
        Check.dueIllegalArgument("state(MAX)", () -> x.state(Integer.MAX_VALUE));
        RhymeRoofs y = Check.loaded("roof 2 3 4;hand 0 ab xyz;hand 1 abc;");
        y.lay(0, 0);
        Check.due("filled rows", y.state(9), 1);
        y.lay(0, 1);
        Check.due("filled rows", y.state(9), 2);
    }

    private static void stateOfPlaysThatCanBeMade() {
        RhymeRoofs x = Check.loaded("roof 1 2 3;hand 0 a bb ccc dddd;");
        Check.due("plays", x.state(10), 6);
        x.pass();
        Check.due("plays of an empty hand", x.state(10), 0);
        x.pass();
        Check.due("plays of a game that is over", x.state(10), 0);
    }

    private static void turnWhenOver() {
        RhymeRoofs x = Check.loaded("roof 9;players 4;hand 1 a;");
        x.pass();
        x.lay(0, 0);
        Check.due("over", x.state(6), 1);
        Check.due("the one who laid last", x.state(5), 1);
        Check.due("passes behind a word", x.state(7), 0);
        RhymeRoofs y = Check.loaded("roof 9;players 3;hand 1 a;");
        y.pass();
        y.pass();
        Check.due("not over", y.state(6), 0);
        y.pass();
        Check.due("over", y.state(6), 1);
        Check.due("the one who passed last", y.state(5), 2);
        Check.due("passes when over", y.state(7), 3);
    }

    private static void rowNumbers() {
        RhymeRoofs x = Check.loaded(SETUP);
        x.pass();
        x.lay(0, 1);
        int[][] want = {{10, 10, 0, -1}, {4, 1, 1, 1}};
        for (int r = 0; r < 2; r++) {
            for (int what = 0; what < 4; what++) {
                Check.due("row(" + r + ", " + what + ")", x.row(r, what), want[r][what]);
            }
        }
        x.lay(0, 0);
        x.pass();
        Check.due("owner of frost", x.row(0, 3), 2);
        Check.dueOutOfBounds("row(-1, 0)", () -> x.row(-1, 0));
        Check.dueOutOfBounds("row(2, 0)", () -> x.row(2, 0));
        Check.dueOutOfBounds("row(2, 4)", () -> x.row(2, 4));
        Check.dueOutOfBounds("row(MIN, 0)", () -> x.row(Integer.MIN_VALUE, 0));
        Check.dueIllegalArgument("row(1, 4)", () -> x.row(1, 4));
        Check.dueIllegalArgument("row(1, -1)", () -> x.row(1, -1));
    }

    private static void tiles() {
        RhymeRoofs x = Check.loaded(SETUP);
        x.lay(0, 0);
        x.lay(0, 0);
        int[] want = {2, 0, 19, 1, 4, 19, -1, -1, -1, -1};
        for (int t = 0; t < want.length; t++) {
            Check.due("tile(0, " + t + ")", x.tile(0, t), want[t]);
        }
        Check.due("tile(1, 3)", x.tile(1, 3), -1);
        Check.dueNoSuchElement("tile(0, 10)", () -> x.tile(0, 10));
        Check.dueNoSuchElement("tile(1, 4)", () -> x.tile(1, 4));
        Check.dueNoSuchElement("tile(0, -1)", () -> x.tile(0, -1));
        Check.dueNoSuchElement("tile(0, MAX)", () -> x.tile(0, Integer.MAX_VALUE));
        Check.dueOutOfBounds("tile(2, 0)", () -> x.tile(2, 0));
        Check.dueOutOfBounds("tile(-1, 99)", () -> x.tile(-1, 99));
        RhymeRoofs y = Check.loaded("roof 40 40 40 40 40 40;hand 0 abcdefgh;");
        y.lay(0, 5);
        Check.due("tile(5, 7)", y.tile(5, 7), 7);
        Check.due("tile(5, 39)", y.tile(5, 39), -1);
        Check.due("tile(4, 39)", y.tile(4, 39), -1);
    }

    private static void playerNumbers() {
        RhymeRoofs x = Check.loaded(SETUP);
        Check.due("words of hand 0", x.player(0, 0), 3);
        Check.due("letters of hand 0", x.player(0, 1), 8);
        Check.due("letters of hand 1", x.player(1, 1), 4);
        x.lay(0, 0);
        x.lay(0, 0);
        Check.due("words of hand 0", x.player(0, 0), 2);
        Check.due("letters of hand 0", x.player(0, 1), 5);
        Check.due("points of 0", x.player(0, 2), 3);
        Check.due("points of 1", x.player(1, 2), 9);
        Check.due("rows of 0", x.player(0, 3), 0);
        Check.due("rows of 1", x.player(1, 3), 1);
        Check.dueOutOfBounds("player(-1, 0)", () -> x.player(-1, 0));
        Check.dueOutOfBounds("player(3, 0)", () -> x.player(3, 0));
        Check.dueOutOfBounds("player(3, 9)", () -> x.player(3, 9));
        Check.dueIllegalArgument("player(2, 4)", () -> x.player(2, 4));
        Check.dueIllegalArgument("player(2, -1)", () -> x.player(2, -1));
    }

    private static void letters() {
        RhymeRoofs x = Check.loaded("roof 9;hand 0 az zyxwvuts a;hand 1 q;");
        Check.due("letter(0, 0, 0)", x.letter(0, 0, 0), 0);
        Check.due("letter(0, 0, 1)", x.letter(0, 0, 1), 25);
        for (int k = 0; k < 8; k++) {
            Check.due("letter(0, 1, " + k + ")", x.letter(0, 1, k), 25 - k);
        }
        Check.due("letter(1, 0, 0)", x.letter(1, 0, 0), 16);
        Check.dueNoSuchElement("letter(0, 0, 2)", () -> x.letter(0, 0, 2));
        Check.dueNoSuchElement("letter(0, 1, 8)", () -> x.letter(0, 1, 8));
        Check.dueNoSuchElement("letter(0, 0, -1)", () -> x.letter(0, 0, -1));
        Check.dueOutOfBounds("letter(0, 3, 0)", () -> x.letter(0, 3, 0));
        Check.dueOutOfBounds("letter(1, 1, 9)", () -> x.letter(1, 1, 9));
        Check.dueOutOfBounds("letter(0, -1, 0)", () -> x.letter(0, -1, 0));
        Check.dueOutOfBounds("letter(2, 0, 0)", () -> x.letter(2, 0, 0));
        Check.dueOutOfBounds("letter(-1, 0, 0)", () -> x.letter(-1, 0, 0));
        x.lay(0, 0);
        Check.due("letter behind a word that was laid", x.letter(0, 1, 0), 0);
        Check.dueOutOfBounds("place behind the hand", () -> x.letter(0, 2, 0));
    }

    private static void alikeLetters() {
        RhymeRoofs x = Check.loaded("roof 9;alike ace;alike zy;alike b;");
        for (int a = 0; a < 26; a++) {
            for (int b = 0; b < 26; b++) {
                boolean ace = (a == 0 || a == 2 || a == 4) && (b == 0 || b == 2 || b == 4);
                boolean want = a == b || ace || a >= 24 && b >= 24;
                Check.due("alike(" + a + ", " + b + ")", Check.loaded("roof 9;alike ace;alike zy;alike b;").alike(a, b),
                        want);
            }
        }
        Check.dueIllegalArgument("alike(-1, 0)", () -> x.alike(-1, 0));
        Check.dueIllegalArgument("alike(0, -1)", () -> x.alike(0, -1));
        Check.dueIllegalArgument("alike(26, 26)", () -> x.alike(26, 26));
        Check.dueIllegalArgument("alike(0, 26)", () -> x.alike(0, 26));
        Check.dueIllegalArgument("alike(26, 0)", () -> x.alike(26, 0));
    }

    private static void rhymes() {
        RhymeRoofs x = Check.loaded(SETUP);
        Check.due("rhyme with no word", x.rhyme(0, 0, 0), -1);
        x.lay(0, 0);
        Check.due("oat with cat", x.rhyme(0, 0, 0), 2);
        Check.due("ox with cat", x.rhyme(0, 1, 0), 0);
        Check.due("bet with cat", x.rhyme(1, 0, 0), 2);
        Check.due("t with cat", x.rhyme(1, 1, 0), 1);
        Check.due("frost with cat", x.rhyme(2, 0, 0), 1);
        Check.due("frost with no word", x.rhyme(2, 0, 1), -1);
        Check.dueOutOfBounds("rhyme(3, 0, 0)", () -> x.rhyme(3, 0, 0));
        Check.dueOutOfBounds("rhyme(-1, 0, 0)", () -> x.rhyme(-1, 0, 0));
        Check.dueOutOfBounds("rhyme(0, 2, 0)", () -> x.rhyme(0, 2, 0));
        Check.dueOutOfBounds("rhyme(0, -1, 0)", () -> x.rhyme(0, -1, 0));
        Check.dueOutOfBounds("rhyme(0, 0, 2)", () -> x.rhyme(0, 0, 2));
        Check.dueOutOfBounds("rhyme(0, 0, -1)", () -> x.rhyme(0, 0, -1));
    }

    private static void rhymesOfUnequalWords() {
        RhymeRoofs x = Check.loaded("roof 40;alike ae;hand 0 abcdefgh abcdefgh ebcdafgh xbcdefgh h gh abcdefg ab;");
        x.lay(0, 0);
        int[] want = {8, 8, 7, 1, 2, 0, 0};
        for (int place = 0; place < want.length; place++) {
            Check.due("rhyme of place " + place, x.rhyme(0, place, 0), want[place]);
        }
        x.pass();
        Check.due("the same word", x.why(0, 0), 3);
        Check.due("a word that is only alike", x.why(1, 0), 0);
    }

    private static void whyNot() {
        RhymeRoofs x = Check.loaded("roof 6;need 2;hand 0 cat cat hat at t frog;hand 1 cat mat yat;");
        Check.due("7 letters fit not", Check.loaded("roof 6;hand 0 abcdefg;").why(0, 0), 2);
        Check.due("6 letters fit", Check.loaded("roof 6;hand 0 abcdef;").why(0, 0), 0);
        x.lay(0, 0);
        Check.due("same word of another hand", x.why(0, 0), 3);
        Check.due("mat", x.why(1, 0), 0);
        x.pass();
        Check.due("same word", x.why(0, 0), 3);
        Check.due("hat", x.why(1, 0), 0);
        Check.due("at", x.why(2, 0), 0);
        Check.due("t", x.why(3, 0), 4);
        Check.due("frog", x.why(4, 0), 2);
        Check.dueOutOfBounds("why(5, 0)", () -> x.why(5, 0));
        Check.dueOutOfBounds("why(-1, 0)", () -> x.why(-1, 0));
        Check.dueOutOfBounds("why(0, 1)", () -> x.why(0, 1));
        Check.dueOutOfBounds("why(0, -1)", () -> x.why(0, -1));
    }

    private static void whyInTheOrderOfReasons() {
        RhymeRoofs x = Check.loaded("roof 5;need 4;hand 0 cat cat dog;hand 1 cat;");
        x.lay(0, 0);
        Check.due("the same word that fits not", x.why(0, 0), 2);
        RhymeRoofs y = Check.loaded("roof 6;need 4;hand 0 cat cat dog;hand 1 cat hat;");
        y.lay(0, 0);
        Check.due("the same word whose rhyme is too short", y.why(0, 0), 3);
        Check.due("a rhyme that is too short", y.why(1, 0), 4);
    }

    private static void whyWhenOver() {
        RhymeRoofs x = Check.loaded("roof 2;hand 0 cat;hand 1 a;");
        x.pass();
        x.pass();
        Check.due("why, over, of the one who passed last", x.why(0, 0), 1);
        Check.dueOutOfBounds("place of the other hand", () -> x.why(1, 0));
        Check.dueOutOfBounds("no such row, over", () -> x.why(0, 1));
        Check.dueNoSuchElement("play when over", () -> x.play(0, 0, 0));
        Check.due("best when over", x.best(), -1);
    }

    private static void playPoints() {
        RhymeRoofs x = Check.loaded("roof 9 3;need 2;bonus 3;crown 7;hand 0 cat bat;hand 1 that oat;");
        Check.due("letters", x.play(0, 0, 0), 3);
        Check.due("letters and crown", x.play(0, 1, 0), 10);
        x.lay(0, 0);
        Check.due("that: letters and bonus", x.play(0, 0, 0), 10);
        Check.due("oat: letters and bonus", x.play(1, 0, 0), 9);
        x.lay(1, 0);
        Check.due("bat: letters, bonus and crown for 3 words", x.play(0, 0, 0), 3 + 6 + 21);
        Check.due("lay", x.lay(0, 0), 30);
        RhymeRoofs y = Check.loaded("roof 4;bonus 0;crown 0;need 1;hand 0 ab;hand 1 bb;");
        y.lay(0, 0);
        Check.due("without bonus and crown", y.play(0, 0, 0), 2);
    }

    private static void playExceptions() {
        RhymeRoofs x = Check.loaded("roof 4;hand 0 abcde abc;");
        Check.dueOutOfBounds("play(2, 0, 0)", () -> x.play(2, 0, 0));
        Check.dueOutOfBounds("play(-1, 0, 9)", () -> x.play(-1, 0, 9));
        Check.dueOutOfBounds("play(0, 1, 0)", () -> x.play(0, 1, 0));
        Check.dueOutOfBounds("play(0, -1, 2)", () -> x.play(0, -1, 2));
        Check.dueIllegalArgument("play(0, 0, 2)", () -> x.play(0, 0, 2));
        Check.dueIllegalArgument("play(0, 0, -1)", () -> x.play(0, 0, -1));
        Check.dueNoSuchElement("play(0, 0, 0)", () -> x.play(0, 0, 0));
        Check.dueNoSuchElement("play(0, 0, 1)", () -> x.play(0, 0, 1));
        Check.due("play(1, 0, 1)", x.play(1, 0, 1), 3);
    }

    private static void dueRank(String rank, int want) {
        RhymeRoofs x = Check.loaded("roof 9 3;bonus 2;crown 7;rank " + rank + ";hand 0 cat;hand 1 at oat that a b;");
        x.lay(0, 0);
        Check.due("rank of oat: " + rank, x.play(1, 0, 1), want);
    }

    private static void rankFacts() {
        dueRank("points", 7);
        dueRank("letters", 3);
        dueRank("rhyme", 2);
        dueRank("left", 3);
        dueRank("full", 0);
        dueRank("hand", 4);
        dueRank("9999", 9999);
        RhymeRoofs x = Check.loaded("roof 3;rank full*100+rhyme*10+left;hand 0 cat;");
        Check.due("rank of a play on a row without words", x.play(0, 0, 1), 100);
    }

    private static void rankOperations() {
        dueRank("1+2*3", 7);
        dueRank("(1+2)*3", 9);
        dueRank("20-5-3", 12);
        dueRank("20-(5-3)", 18);
        dueRank("100/7/2", 7);
        dueRank("100/(7/2)", 33);
        dueRank("7/2*2", 6);
        dueRank("7*2/4", 3);
        dueRank("(0-7)/2", -3);
        dueRank("7/(0-2)", -3);
        dueRank("5/0", 0);
        dueRank("5/(3-3)+1", 1);
        dueRank("0/0", 0);
        dueRank("2*3+4*5-6/2", 23);
        dueRank("1-2*3-4", -9);
        dueRank("((((1+1)*2+1)*2+1)*2+1)", 23);
        dueRank("1+1*(2+2*(3+3*(4+4*(5+5*6))))", 1 + 2 + 2 * (3 + 3 * (4 + 4 * 35)));
    }

    private static void rankLimits() {
        dueRank("9999*9999", 1000000);
        dueRank("0-9999*9999", -1000000);
        dueRank("(0-9999)*9999", -1000000);
        dueRank("1000*1000", 1000000);
        dueRank("1000*1000+1", 1000000);
        dueRank("1000*1000+1-1", 999999);
        dueRank("1-1000*1000-1-1+1", -999999);
        dueRank("9999*9999*0+5", 5);
        dueRank("9999*9999/1000", 1000);
        dueRank("9999*9999*9999*9999/9999", 100);
        dueRank("(0-9999*9999)*9999*(0-1)", 1000000);
    }

    private static void bestOfEqualRanks() {
        RhymeRoofs x = Check.loaded("roof 5 5 5;rank 7;hand 0 abcdef abc abc;");
        Check.due("smallest place, then row", x.best(), 10);
        RhymeRoofs y = Check.loaded("roof 2 3 3;crown 0;hand 0 ab xyz xyz;");
        Check.due("smallest place with the greatest rank, then row", y.best(), 11);
        RhymeRoofs z = Check.loaded("roof 40 40 40 40 40 5;hand 0 a a a a a a a abcde;");
        Check.due("place 7, row 5", z.best(), 75);
    }

    private static void bestByRank() {
        RhymeRoofs x = Check.loaded("roof 9 3;rank 0-points;hand 0 cat to a;");
        Check.due("least points", x.best(), 20);
        RhymeRoofs y = Check.loaded("roof 9 3;rank 0-9999*9999;hand 0 cat to a;");
        Check.due("all ranks at the lower bound", y.best(), 0);
        RhymeRoofs z = Check.loaded("roof 9 3;rank 0-left;hand 0 cat to a;");
        Check.due("least left", z.best(), 1);
        Check.due("no play", Check.loaded("roof 2;hand 0 abc;").best(), -1);
        Check.due("no words", Check.loaded("roof 2;hand 1 a;").best(), -1);
    }
}
