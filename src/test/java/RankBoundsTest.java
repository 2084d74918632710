/** The boundary cases that 'Plays by a rank' names, and those of the promises play and best: a test for each sentence. */
public final class RankBoundsTest {
    private static final int LIMIT = 1000000;

    public static void main(String[] args) {
        playOfThePlayerOnTurn();
        rankOfPoints();
        rankOfLetters();
        rankOfRhyme();
        rankOfLeft();
        rankOfFull();
        rankOfHand();
        divisionByZero();
        divisionTowardZero();
        fromLeftToRight();
        upperLimit();
        lowerLimit();
        limitOfEachResult();
        rankWithoutStatement();
        greatestRank();
        smallestPlace();
        smallestRow();
        stepByRank();
        numberOfTheBestPlay();
        noBestPlay();
        Check.end();
    }

    /** A play with 5 letters of a hand of 3 words, behind a rhyme of 3: points 5 + 2 * 3, 4 tiles left. */
    private static int rankOfAPlay(String rank) {
        RhymeRoofs x = Check.loaded("roof 12;need 2;bonus 2;crown 7;rank " + rank + ";hand 0 cat;hand 1 a b zzcat;");
        x.lay(0, 0);
        return x.play(2, 0, 1);
    }

    private static void dueRank(String rank, int want) {
        Check.due("rank " + rank, rankOfAPlay(rank), want);
    }

    private static void playOfThePlayerOnTurn() {
        Check.sentence("A play is a word of the hand of the player on turn, by its place, and a row on which it can be laid.");
        RhymeRoofs x = Check.loaded("roof 3 4;need 1;hand 0 abc abcd;hand 1 c xc xyzc abcde;");
        Check.due("abc on both rows, abcd on one", x.state(10), 3);
        x.lay(0, 1);
        Check.due("c on both rows, xc on one", x.state(10), 3);
        x.pass();
        Check.due("player 0 again: abcd nowhere", x.state(10), 0);
    }

    private static void rankOfPoints() {
        Check.sentence("in which points is the points for it");
        dueRank("points", 11);
        RhymeRoofs x = Check.loaded("roof 4;crown 99;rank points;hand 0 abcd a;");
        Check.due("points with the crown", x.play(0, 0, 1), 103);
        Check.due("points without", x.play(1, 0, 1), 1);
    }

    private static void rankOfLetters() {
        Check.sentence("letters its letters");
        dueRank("letters", 5);
        RhymeRoofs x = Check.loaded("roof 8;rank letters;hand 0 a abcdefgh;");
        Check.due("1 letter", x.play(0, 0, 1), 1);
        Check.due("8 letters", x.play(1, 0, 1), 8);
    }

    private static void rankOfRhyme() {
        Check.sentence("rhyme its rhyme with the last word of the row (0 if there is none)");
        dueRank("rhyme", 3);
        RhymeRoofs x = Check.loaded("roof 40;alike ab;rank rhyme;hand 0 aaaaaaaa;hand 1 bbbbbbbb;");
        Check.due("without words", x.play(0, 0, 1), 0);
        x.lay(0, 0);
        Check.due("all 8 letters", x.play(0, 0, 1), 8);
    }

    private static void rankOfLeft() {
        Check.sentence("left the free tiles behind it");
        dueRank("left", 4);
        RhymeRoofs x = Check.loaded("roof 40 1;rank left;hand 0 a;");
        Check.due("39 of 40", x.play(0, 0, 1), 39);
        Check.due("none of 1", x.play(0, 1, 1), 0);
    }

    private static void rankOfFull() {
        Check.sentence("full 1 if there are none, otherwise 0");
        dueRank("full", 0);
        RhymeRoofs x = Check.loaded("roof 3 4;rank full;hand 0 abc;");
        Check.due("no tile left", x.play(0, 0, 1), 1);
        Check.due("one tile left", x.play(0, 1, 1), 0);
    }

    private static void rankOfHand() {
        Check.sentence("and hand the words that the hand has then");
        dueRank("hand", 2);
        RhymeRoofs x = Check.loaded("roof 40;rank hand;hand 0 a b c d e f g h;hand 1 bh;");
        Check.due("7 of 8", x.play(0, 0, 1), 7);
        Check.due("the last one has the same", x.play(7, 0, 1), 7);
        x.pass();
        Check.due("none of 1", x.play(0, 0, 1), 0);
    }

    private static void divisionByZero() {
        Check.sentence("Division by 0 gives 0");
        dueRank("9/0", 0);
        dueRank("0/0", 0);
        dueRank("(0-9)/0", 0);
        dueRank("9/full", 0);
        dueRank("9/(letters-5)", 0);
        dueRank("9/0/0", 0);
        dueRank("9/0+8", 8);
        dueRank("9/0*8+1", 1);
        dueRank("7-9/0", 7);
        dueRank("9/(1/2)", 0);
    }

    private static void divisionTowardZero() {
        Check.sentence("Division rounds toward zero.");
        dueRank("7/2", 3);
        dueRank("(0-7)/2", -3);
        dueRank("7/(0-2)", -3);
        dueRank("(0-7)/(0-2)", 3);
        dueRank("1/2", 0);
        dueRank("(0-1)/2", 0);
        dueRank("0/9", 0);
        dueRank("9999/9999", 1);
        dueRank("9998/9999", 0);
        dueRank("(0-9999)/1", -9999);
    }

    private static void fromLeftToRight() {
        Check.sentence("the operations of one sum or term are made from the left to the right");
        dueRank("9-5-3", 1);
        dueRank("9-5+3", 7);
        dueRank("9+5-3-1", 10);
        dueRank("100/10/5", 2);
        dueRank("100/10*5", 50);
        dueRank("7/2*2", 6);
        dueRank("2*7/4", 3);
        dueRank("8-6/2-1", 4);
        dueRank("2+3*4", 14);
        dueRank("2*3+4", 10);
        dueRank("2*3-4*5", -14);
        dueRank("9-(5-3)", 7);
        dueRank("100/(10/5)", 50);
        dueRank("2*(3-4)*5", -10);
        dueRank("9-2*(8/(5-(4-1)))", 1);
    }

    private static void upperLimit() {
        Check.sentence("the result of each one is limited to the range -1000000 to 1000000");
        dueRank("1000*1000", LIMIT);
        dueRank("1000*1000-1", LIMIT - 1);
        dueRank("9999*100+99", LIMIT - 1);
        dueRank("9999*100+100", LIMIT);
        dueRank("9999*100+101", LIMIT);
        dueRank("9999*100+9999", LIMIT);
        dueRank("9999*9999", LIMIT);
        dueRank("(1000*1000)*(1000*1000)", LIMIT);
        dueRank("(0-1000*1000)*(0-1000*1000)", LIMIT);
        dueRank("1000*1000-(0-1000*1000)", LIMIT);
        dueRank("1000*1000/1", LIMIT);
    }

    private static void lowerLimit() {
        Check.sentence("it becomes the nearer bound if it is outside of it");
        dueRank("0-1000*1000", -LIMIT);
        dueRank("0-1000*1000+1", 1 - LIMIT);
        dueRank("0-9999*100-99", 1 - LIMIT);
        dueRank("0-9999*100-100", -LIMIT);
        dueRank("0-9999*100-101", -LIMIT);
        dueRank("(0-9999)*9999", -LIMIT);
        dueRank("9999*(0-9999)", -LIMIT);
        dueRank("(1000*1000)*(0-1000*1000)", -LIMIT);
        dueRank("0-1000*1000-1000*1000", -LIMIT);
        dueRank("(0-1000*1000)+(0-1)", -LIMIT);
    }

    private static void limitOfEachResult() {
        Check.sentence("and the result of each one is limited");
        dueRank("1000*1000+1-1", LIMIT - 1);
        dueRank("0-1000*1000-1+1", 1 - LIMIT);
        dueRank("9999*9999/9999", 100);
        dueRank("9999*9999*9999*9999/1000", 1000);
        dueRank("(0-9999)*9999/1000", -1000);
        dueRank("9999*9999*0", 0);
        dueRank("9999*9999-9999*9999", 0);
        dueRank("1000*1000+(1000*1000-1000*1000)", LIMIT);
        dueRank("9999*9999*(0-1)+1", 1 - LIMIT);
    }

    private static void rankWithoutStatement() {
        Check.sentence("Without a rank statement the rank is the points.");
        RhymeRoofs x = Check.loaded("roof 9 3;bonus 3;crown 4;hand 0 cat;hand 1 hat;");
        Check.due("letters", x.play(0, 0, 1), 3);
        Check.due("letters and crown", x.play(0, 1, 1), 7);
        x.lay(0, 0);
        Check.due("letters and bonus", x.play(0, 0, 1), 9);
        Check.load(x, "roof 9;rank 0-5;hand 0 cat;");
        Check.due("with a rank", x.play(0, 0, 1), -5);
        Check.due("points of the same play", x.play(0, 0, 0), 3);
        Check.load(x, "roof 9;hand 0 cat;");
        Check.due("without a rank again", x.play(0, 0, 1), 3);
    }

    private static void greatestRank() {
        Check.sentence("The best play is the one with the greatest rank");
        Check.due("by letters", Check.loaded("roof 9;rank letters;hand 0 a bbb cc;").best(), 10);
        Check.due("by few letters", Check.loaded("roof 9;rank 0-letters;hand 0 bbb a cc;").best(), 10);
        Check.due("by the last place", Check.loaded("roof 9;rank letters;hand 0 a bb ccc dddd;").best(), 30);
        Check.due("by the last row", Check.loaded("roof 7 8 9;rank left;hand 0 a b;").best(), 2);
        Check.due("by the first row", Check.loaded("roof 7 8 9;rank 0-left;hand 0 a bb;").best(), 10);
        Check.due("by the points", Check.loaded("roof 9 8 7;crown 1;hand 0 abcdefg abcdefgh;").best(), 11);
    }

    private static void smallestPlace() {
        Check.sentence("of several the one with the smallest place");
        Check.due("equal ranks", Check.loaded("roof 9;rank 4;hand 0 a b c;").best(), 0);
        Check.due("equal ranks of places 1 and 2", Check.loaded("roof 9;rank letters;hand 0 a bb cc;").best(), 10);
        RhymeRoofs x = Check.loaded("roof 3 2;rank 7;hand 0 abcd ab abc;");
        Check.due("place 1 on row 0 or 1, place 2 on row 0", x.best(), 10);
        RhymeRoofs y = Check.loaded("roof 9 2;need 2;rank 7;hand 0 xyz;hand 1 ab xyyz;");
        y.lay(0, 0);
        Check.due("place 0 on row 1, place 1 on row 0", y.best(), 1);
        RhymeRoofs z = Check.loaded("roof 9;rank 9999*9999+letters;hand 0 a bb ccc;");
        Check.due("equal at the limit", z.best(), 0);
    }

    private static void smallestRow() {
        Check.sentence("of these the one with the smallest row");
        Check.due("equal rows", Check.loaded("roof 9 9 9;hand 0 abc;").best(), 0);
        Check.due("a row where it fits not", Check.loaded("roof 2 9 9;hand 0 abc;").best(), 1);
        Check.due("equal ranks of rows 1 and 3", Check.loaded("roof 8 3 8 3;hand 0 a abc;").best(), 11);
    }

    private static void stepByRank() {
        Check.sentence("One step by rank is the best play, if there is a play, otherwise a pass.");
        RhymeRoofs x = Check.loaded("roof 9 5;need 2;rank 0-9999*9999;hand 0 cat;hand 1 dog a frog;");
        Check.due("a play of the least rank", x.auto(1), 1);
        Check.due("is laid", x.row(0, 2), 1);
        Check.due("not passed", x.state(7), 0);
        Check.due("the best one", x.best(), 1);
        x.auto(1);
        Check.due("dog on row 1", x.tile(1, 0), 'd' - 'a');
        Check.due("no play", x.best(), -1);
        x.auto(1);
        Check.due("a pass", x.state(7), 1);
        Check.due("turn", x.state(5), 1);
    }

    private static void numberOfTheBestPlay() {
        Check.sentence("Returns the best play, as 10 * the place of its word + its row");
        RhymeRoofs x = Check.loaded("roof 1 1 1 1 1 2;hand 0 abc abc abc abc abc abc abc ab;");
        Check.due("place 7, row 5", x.best(), 75);
        Check.due("place 0, row 5", Check.loaded("roof 1 1 1 1 1 2;hand 0 ab;").best(), 5);
        Check.due("place 7, row 0", Check.loaded("roof 2 1;hand 0 abc abc abc abc abc abc abc ab;").best(), 70);
    }

    private static void noBestPlay() {
        Check.sentence("-1 if there is none");
        Check.due("no words", new RhymeRoofs().best(), -1);
        Check.due("no word fits", Check.loaded("roof 2 1;hand 0 abc;hand 1 a;").best(), -1);
        RhymeRoofs x = Check.loaded("roof 9;hand 0 cat;hand 1 dog cat;");
        x.lay(0, 0);
        Check.due("no word rhymes", x.best(), -1);
        RhymeRoofs y = Check.loaded("roof 9;hand 0 cat;hand 1 dog;");
        y.pass();
        y.pass();
        Check.due("over", y.best(), -1);
    }
}
