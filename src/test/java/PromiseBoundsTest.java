/** The boundary cases that the promises 1 to 13 and 19 to 25 name: a test for each sentence. */
public final class PromiseBoundsTest {
    public static void main(String[] args) {
        newObject();
        emptyBuffer();
        fourBytesOfEachArgument();
        newLengthOfTheBuffer();
        fullBuffer();
        firstBytesOfTheBuffer();
        allDataReplaced();
        bufferEmptyBehindLoad();
        errorLeavesTheData();
        emptyText();
        wordsOfAllHands();
        lengthOfLoad();
        errorOfTheLatestLoad();
        noErrorOffset();
        numbersOfTheState();
        stateOver();
        statePasses();
        stateWordsOnRows();
        stateFullRows();
        statePlays();
        playerOnTurnWhenOver();
        whatOfState();
        numbersOfARow();
        ownerWithoutWords();
        whatOfARow();
        letterOnATile();
        freeTile();
        missingTile();
        numbersOfAPlayer();
        whatOfAPlayer();
        letterOfAWord();
        missingLetter();
        alikeOutOfRange();
        rhymeWithTheLastWord();
        rhymeWithoutWords();
        whyOver();
        whyTooFewTiles();
        whySameWord();
        whyNoRhyme();
        whyFirstThatApplies();
        playOfAWord();
        whatOfAPlay();
        wordThatCannotBeLaid();
        winnerWhenOver();
        winnerOfEqualPoints();
        winnerPlayedOn();
        stepsUntilOver();
        stepsWhenOver();
        coveredTiles();
        layAWord();
        layThatCannotBe();
        passToTheNext();
        passWhenOver();
        autoUntilOver();
        autoOutOfRange();
        giveAWord();
        giveEmptiesTheBuffer();
        giveOfAWrongLength();
        giveOfOtherBytes();
        giveToAFullHand();
        giveWhenOver();
        Check.end();
    }

    private static void newObject() {
        Check.sentence("Creates an object with one row and 2 players");
        RhymeRoofs x = new RhymeRoofs();
        Check.due("rows", x.state(0), 1);
        Check.due("players", x.state(1), 2);
        Check.dueOutOfBounds("row 1", () -> x.row(1, 0));
        Check.dueOutOfBounds("player 2", () -> x.player(2, 0));
        Check.due("words of all hands", x.state(11), 0);
    }

    private static void emptyBuffer() {
        Check.sentence("with an empty input buffer");
        RhymeRoofs x = new RhymeRoofs();
        Check.dueIllegalArgument("load(1)", () -> x.load(1));
        Check.dueIllegalArgument("give(0, 1)", () -> x.give(0, 1));
        Check.due("append", x.append(0, 0, 0, 0, 0), 20);
    }

    private static void fourBytesOfEachArgument() {
        Check.sentence("the 4 bytes of each argument, the most significant byte first");
        RhymeRoofs x = new RhymeRoofs();
        x.append(0x726f6f66, 0x33342035, 0x3b68616e, 0x64316162, 0x63642020);
        x.append(0x65666768, 0x20203b62, 0x6f6e7573, 0x20202020, 0x2020373b);
        Check.due("load of \"roof34 5;hand1abcd  efgh  ;bonus      7;\"", x.load(40), 2);
        Check.due("row 0", x.row(0, 0), 34);
        Check.due("row 1", x.row(1, 0), 5);
        Check.due("bonus", x.state(3), 7);
        for (int k = 0; k < 4; k++) {
            Check.due("letter " + k + " of abcd", x.letter(1, 0, k), k);
            Check.due("letter " + k + " of efgh", x.letter(1, 1, k), k + 4);
        }
        x.append(0xff000080, 0x7fffffff, Integer.MIN_VALUE, -1, 0);
        Check.due("bytes above 127", x.load(20), RhymeRoofs.SYNTAX_ERROR);
        Check.due("their offset", x.errorOffset(), 0);
    }

    private static void newLengthOfTheBuffer() {
        Check.sentence("Returns the new length of the buffer");
        RhymeRoofs x = new RhymeRoofs();
        for (int i = 1; i <= 30; i++) {
            Check.due("append " + i, x.append(i, -i, 0, -1, Integer.MIN_VALUE), 20 * i);
        }
    }

    private static void fullBuffer() {
        Check.sentence("-1 if it would exceed 600 bytes, and the buffer is unchanged then");
        RhymeRoofs x = new RhymeRoofs();
        Check.append(x, "roof 7;hand 0 a b c;");
        for (int i = 0; i < 28; i++) {
            Check.append(x, "                    ");
        }
        Check.due("600 bytes", Check.append(x, "          hand 1 d;"), 600);
        Check.due("one more", x.append(0x3f3f3f3f, 0x3f3f3f3f, 0x3f3f3f3f, 0x3f3f3f3f, 0x3f3f3f3f), -1);
        Check.due("one more again", x.append(0x3f3f3f3f, 0x3f3f3f3f, 0x3f3f3f3f, 0x3f3f3f3f, 0x3f3f3f3f), -1);
        Check.dueIllegalArgument("load(601)", () -> x.load(601));
        Check.dueIllegalArgument("load(620)", () -> x.load(620));
        Check.due("load(600)", x.load(600), 4);
        Check.due("row", x.row(0, 0), 7);
        Check.due("append to the emptied buffer", x.append(0, 0, 0, 0, 0), 20);
    }

    private static void firstBytesOfTheBuffer() {
        Check.sentence("Reads the first bytes of the input buffer as a setup text");
        for (int length = 0; length <= 40; length++) {
            RhymeRoofs x = new RhymeRoofs();
            Check.append(x, "roof 9;hand 0 a;hand 0 bc;?");
            boolean right = length == 7 || length == 16 || length == 26;
            int words = length == 7 ? 0 : length == 16 ? 1 : 2;
            int at = length < 4 ? 0 : length > 7 && length < 11 ? 7 : length > 16 && length < 20 ? 16 : Math.min(length, 26);
            Check.due("load(" + length + ")", x.load(length), right ? words : RhymeRoofs.SYNTAX_ERROR);
            Check.due("errorOffset of " + length, x.errorOffset(), right ? -1 : at);
        }
    }

    private static void allDataReplaced() {
        Check.sentence("and replaces all data by it");
        RhymeRoofs x = Check.loaded("roof 3 40;players 4;need 1;bonus 9;crown 99;alike abc;rank 7;hand 0 abc b;hand 3 c;");
        x.lay(0, 0);
        x.pass();
        long bare = Check.loaded("roof 8;hand 0 ab;").checksum();
        Check.load(x, "roof 8;hand 0 ab;");
        Check.due("checksum", x.checksum(), bare);
        Check.due("a and b", x.alike(0, 1), false);
        Check.due("rank", x.play(0, 0, 1), 2);
        Check.due("steps to the end", x.stepsToEnd(), 1);
        Check.due("winner", x.winner(), 0);
        Check.dueFloat("covered", x.covered(), 0f);
        for (int i = 0; i < 3; i++) {
            Check.due("the same statements again", Check.load(x,
                    "roof 8;players 4;need 1;bonus 9;crown 99;alike abc;rank 7;hand 3 a b c d e f g h;"), 8);
        }
    }

    private static void bufferEmptyBehindLoad() {
        Check.sentence("The input buffer is empty afterwards, also if the text has an error.");
        for (String text : new String[] {"roof 9;", "roof 0;", "?"}) {
            RhymeRoofs x = new RhymeRoofs();
            Check.append(x, text + "hand 0 a b c d e f g;");
            x.load(text.length());
            Check.dueIllegalArgument("load(1) behind " + text, () -> x.load(1));
            Check.dueIllegalArgument("give(0, 1) behind " + text, () -> x.give(0, 1));
            Check.due("append behind " + text, x.append(0, 0, 0, 0, 0), 20);
        }
        RhymeRoofs y = new RhymeRoofs();
        Check.append(y, "roof 9;");
        y.load(0);
        Check.due("append behind an empty text", y.append(0, 0, 0, 0, 0), 20);
    }

    private static void errorLeavesTheData() {
        Check.sentence("An error leaves all other data unchanged.");
        RhymeRoofs x = Check.loaded("roof 9 5;players 3;need 1;alike ab;rank left;hand 0 xa;hand 1 xb yc;");
        x.lay(0, 0);
        long before = x.checksum();
        for (String text : new String[] {"roof 40 40 40;players 4;need 4;bonus 9;crown 99;rank 1;hand 0 a;alike cd;?",
            "roof 7;alike xx;", "roof 1 2 3 4 5 6 7;", "roof 7;rank (((((", "roof 7;hand 0 abcdefghi;", ""}) {
            Check.due("load", Check.load(x, text) < -1, true);
            Check.due("checksum behind " + text, x.checksum(), before);
            Check.due("a and b", x.alike(0, 1), true);
            Check.due("c and d", x.alike(2, 3), false);
            Check.due("rank", x.play(0, 0, 1), 5);
        }
    }

    private static void emptyText() {
        Check.sentence("An empty text has a SYNTAX_ERROR.");
        RhymeRoofs x = new RhymeRoofs();
        Check.due("load(0) of an empty buffer", x.load(0), -2);
        Check.due("errorOffset", x.errorOffset(), 0);
        Check.append(x, "roof 9;");
        Check.due("load(0) of a full one", x.load(0), -2);
        Check.due("errorOffset", x.errorOffset(), 0);
        Check.dueError(" ", RhymeRoofs.SYNTAX_ERROR, 1);
    }

    private static void wordsOfAllHands() {
        Check.sentence("Returns the number of words of all hands; or the error code of the first error.");
        Check.dueLoaded("roof 9;", 0);
        Check.dueLoaded("roof 9;players 4;hand 3 a b;hand 0 c;hand 2 d e f;", 6);
        RhymeRoofs x = Check.loaded("roof 9;hand 0 a b c;");
        Check.due("only words of this text", Check.load(x, "roof 9;hand 1 d;"), 1);
        Check.due("the first error", Check.load(x, "roof 9;hand 1 d;need 9;alike aa;?"), RhymeRoofs.OUT_OF_RANGE);
    }

    private static void lengthOfLoad() {
        Check.sentence("if length is negative or greater than the length of the buffer; the buffer is unchanged then");
        RhymeRoofs x = new RhymeRoofs();
        Check.append(x, "roof 9;hand 1 a b c;");
        for (int length : new int[] {-1, 21, 600, 601, Integer.MIN_VALUE, Integer.MAX_VALUE}) {
            Check.dueIllegalArgument("load(" + length + ")", () -> x.load(length));
        }
        Check.due("load of the whole buffer", x.load(20), 3);
        Check.dueIllegalArgument("load(1) of an empty buffer", () -> x.load(1));
        Check.dueIllegalArgument("load(-1) of an empty buffer", () -> x.load(-1));
    }

    private static void errorOfTheLatestLoad() {
        Check.sentence("Returns the offset of the error found by the latest call of load that did not throw");
        RhymeRoofs x = new RhymeRoofs();
        Check.load(x, "roof 9;x");
        Check.due("errorOffset", x.errorOffset(), 7);
        Check.dueIllegalArgument("load(-1)", () -> x.load(-1));
        Check.due("behind a load that threw", x.errorOffset(), 7);
        Check.load(x, "?");
        Check.due("an offset of 0", x.errorOffset(), 0);
        Check.load(x, "roof");
        Check.due("the latest of three", x.errorOffset(), 4);
        x.pass();
        Check.due("behind a pass", x.errorOffset(), 4);
    }

    private static void noErrorOffset() {
        Check.sentence("-1 if it found none or if there was no such call");
        RhymeRoofs x = new RhymeRoofs();
        Check.due("no load", x.errorOffset(), -1);
        Check.dueIllegalArgument("load(1)", () -> x.load(1));
        Check.due("only a load that threw", x.errorOffset(), -1);
        Check.load(x, "roof 0;");
        Check.load(x, "roof 9;");
        Check.due("no error", x.errorOffset(), -1);
    }

    private static void numbersOfTheState() {
        Check.sentence("10 plays that can be made now, 11 words of all hands");
        RhymeRoofs x = Check.loaded("roof 6 3;players 3;need 1;bonus 7;crown 55;hand 0 cat at;hand 1 dog it;hand 2 x;");
        dueStates("loaded", x, 2, 3, 1, 7, 55, 0, 0, 0, 0, 0, 4, 5);
        x.lay(0, 1);
        dueStates("cat fills row 1", x, 2, 3, 1, 7, 55, 1, 0, 0, 1, 1, 2, 4);
        x.pass();
        dueStates("passed", x, 2, 3, 1, 7, 55, 2, 0, 1, 1, 1, 1, 4);
        x.lay(0, 0);
        dueStates("x behind nothing", x, 2, 3, 1, 7, 55, 0, 0, 0, 2, 1, 0, 3);
        x.auto(50);
        dueStates("over", x, 2, 3, 1, 7, 55, 2, 1, 3, 2, 1, 0, 3);
    }

    private static void dueStates(String name, RhymeRoofs x, int... want) {
        for (int what = 0; what < want.length; what++) {
            Check.due(name + ": state(" + what + ")", x.state(what), want[what]);
        }
    }

    private static void stateOver() {
        Check.sentence("6 1 if the game is over, otherwise 0");
        RhymeRoofs x = Check.loaded("roof 9;players 3;hand 1 a;");
        Check.due("at first", x.state(6), 0);
        x.pass();
        Check.due("passed", x.state(6), 0);
        x.lay(0, 0);
        Check.due("the last word laid", x.state(6), 1);
        x.undo();
        Check.due("undone", x.state(6), 0);
        x.pass();
        x.pass();
        Check.due("passed by all", x.state(6), 1);
        Check.load(x, "roof 9;");
        Check.due("loaded", x.state(6), 0);
    }

    private static void statePasses() {
        Check.sentence("7 passes one after the other so far");
        RhymeRoofs x = Check.loaded("roof 9;players 3;need 1;hand 0 a ca;hand 2 ba;");
        Check.due("at first", x.state(7), 0);
        x.pass();
        Check.due("one", x.state(7), 1);
        x.pass();
        Check.due("two", x.state(7), 2);
        x.lay(0, 0);
        Check.due("behind a word", x.state(7), 0);
        x.auto(1);
        x.auto(1);
        Check.due("a pass by auto", x.state(7), 1);
        Check.load(x, "roof 9;");
        Check.due("loaded", x.state(7), 0);
    }

    private static void stateWordsOnRows() {
        Check.sentence("8 words that lie on rows");
        RhymeRoofs x = Check.loaded("roof 9 9 9 9 9 9;need 1;hand 0 a b c;hand 1 xa xb xc;");
        for (int i = 0; i < 6; i++) {
            Check.due("words laid", x.state(8), i);
            x.lay(0, i % 2 == 0 ? 5 - i : 6 - i);
        }
        Check.due("words laid", x.state(8), 6);
    }

    private static void stateFullRows() {
        Check.sentence("9 rows without free tiles");
        RhymeRoofs x = Check.loaded("roof 1 2 3 2 2 4;need 1;hand 0 a bb ccc;hand 1 dd eee ff;");
        int[][] plays = {{0, 0}, {0, 1}, {0, 3}, {0, 2}, {0, 5}, {0, 4}};
        int[] full = {1, 2, 3, 4, 4, 5};
        Check.due("at first", x.state(9), 0);
        for (int i = 0; i < plays.length; i++) {
            x.lay(plays[i][0], plays[i][1]);
            Check.due("full rows behind " + (i + 1) + " words", x.state(9), full[i]);
        }
    }

    private static void statePlays() {
        Check.sentence("10 plays that can be made now");
        RhymeRoofs x = Check.loaded("roof 1 2 3 4 5 6;hand 0 a bb ccc dddd eeeee ffffff ggggggg;hand 1 a;");
        Check.due("of 7 words on 6 rows", x.state(10), 6 + 5 + 4 + 3 + 2 + 1);
        x.pass();
        Check.due("of 1 word on 6 rows", x.state(10), 6);
        x.pass();
        Check.due("over", x.state(10), 0);
        Check.due("of no words", new RhymeRoofs().state(10), 0);
    }

    private static void playerOnTurnWhenOver() {
        Check.sentence("5 the player on turn (the one who laid or passed last, if the game is over)");
        for (int last = 0; last < 4; last++) {
            RhymeRoofs laid = Check.loaded("roof 9;players 4;hand " + last + " a;");
            RhymeRoofs passed = Check.loaded("roof 9;players 4;need 1;hand " + last + " a ba;");
            for (int i = 0; i < last; i++) {
                laid.pass();
                passed.pass();
            }
            laid.lay(0, 0);
            Check.due("laid by " + last + ": over", laid.state(6), 1);
            Check.due("the one who laid last", laid.state(5), last);
            passed.lay(0, 0);
            for (int i = 0; i < 4; i++) {
                passed.pass();
            }
            Check.due("passed by " + last + ": over", passed.state(6), 1);
            Check.due("the one who passed last", passed.state(5), last);
        }
    }

    private static void whatOfState() {
        Check.sentence("Throws IllegalArgumentException if what is out of range");
        RhymeRoofs x = new RhymeRoofs();
        for (int what : new int[] {-1, 12, 13, Integer.MIN_VALUE, Integer.MAX_VALUE}) {
            Check.dueIllegalArgument("state(" + what + ")", () -> x.state(what));
        }
        Check.due("state(11)", x.state(11), 0);
    }

    private static void numbersOfARow() {
        Check.sentence("0 its tiles, 1 its free tiles, 2 its words, 3 its owner");
        RhymeRoofs x = Check.loaded("roof 1 40 7;need 1;players 3;hand 0 cat;hand 1 hat;hand 2 at o;");
        x.lay(0, 1);
        x.lay(0, 2);
        x.lay(0, 1);
        int[][] want = {{1, 1, 0, -1}, {40, 35, 2, 2}, {7, 4, 1, 1}};
        for (int r = 0; r < 3; r++) {
            for (int what = 0; what < 4; what++) {
                Check.due("row(" + r + ", " + what + ")", x.row(r, what), want[r][what]);
            }
        }
    }

    private static void ownerWithoutWords() {
        Check.sentence("3 its owner (-1 without words)");
        RhymeRoofs x = Check.loaded("roof 9 9;hand 0 cat;hand 1 dog;");
        Check.due("without words", x.row(0, 3), -1);
        x.lay(0, 0);
        Check.due("with a word", x.row(0, 3), 0);
        Check.due("the other row", x.row(1, 3), -1);
        Check.due("rows of player 0", x.player(0, 3), 1);
        Check.due("rows of player 1", x.player(1, 3), 0);
        x.undo();
        Check.due("behind an undo", x.row(0, 3), -1);
        x.pass();
        x.pass();
        Check.due("over, without words", x.row(0, 3), -1);
    }

    private static void whatOfARow() {
        Check.sentence("Throws IllegalArgumentException if what is out of range");
        RhymeRoofs x = Check.loaded("roof 1 2;");
        for (int what : new int[] {-1, 4, 5, Integer.MIN_VALUE, Integer.MAX_VALUE}) {
            Check.dueIllegalArgument("row(1, " + what + ")", () -> x.row(1, what));
        }
        Check.due("row(1, 3)", x.row(1, 3), -1);
    }

    private static void letterOnATile() {
        Check.sentence("Returns the number of the letter there, from 0 for a");
        RhymeRoofs x = Check.loaded("roof 5;need 1;hand 0 za;hand 1 bza;");
        x.lay(0, 0);
        x.lay(0, 0);
        int[] want = {25, 0, 1, 25, 0};
        for (int t = 0; t < 5; t++) {
            Check.due("tile " + t, x.tile(0, t), want[t]);
        }
    }

    private static void freeTile() {
        Check.sentence("-1 if it is free");
        RhymeRoofs x = Check.loaded("roof 3 40;hand 0 a;hand 1 a;");
        Check.due("the first tile", x.tile(0, 0), -1);
        x.lay(0, 0);
        Check.due("the tile of a", x.tile(0, 0), 0);
        Check.due("the tile behind it", x.tile(0, 1), -1);
        Check.due("the last tile", x.tile(0, 2), -1);
        Check.due("the last tile of 40", x.tile(1, 39), -1);
        x.undo();
        Check.due("behind an undo", x.tile(0, 0), -1);
    }

    private static void missingTile() {
        Check.sentence("if it has no such tile");
        RhymeRoofs x = Check.loaded("roof 3 40 1;");
        int[] tiles = {3, 40, 1};
        for (int r = 0; r < 3; r++) {
            int row = r;
            for (int tile : new int[] {-1, tiles[r], 41, Integer.MIN_VALUE, Integer.MAX_VALUE}) {
                Check.dueNoSuchElement("tile(" + r + ", " + tile + ")", () -> x.tile(row, tile));
            }
            Check.due("the last tile of row " + r, x.tile(r, tiles[r] - 1), -1);
        }
    }

    private static void numbersOfAPlayer() {
        Check.sentence("0 words of the hand, 1 letters of these words, 2 points, 3 rows that it owns");
        RhymeRoofs x = Check.loaded("roof 3 9 9;players 3;hand 0 cat dog a;hand 2 abcdefgh zz;");
        x.lay(0, 0);
        x.pass();
        x.pass();
        x.lay(0, 1);
        int[][] want = {{1, 1, 11, 2}, {0, 0, 0, 0}, {2, 10, 0, 0}};
        for (int p = 0; p < 3; p++) {
            for (int what = 0; what < 4; what++) {
                Check.due("player(" + p + ", " + what + ")", x.player(p, what), want[p][what]);
            }
        }
    }

    private static void whatOfAPlayer() {
        Check.sentence("Throws IllegalArgumentException if what is out of range");
        RhymeRoofs x = new RhymeRoofs();
        for (int what : new int[] {-1, 4, 5, Integer.MIN_VALUE, Integer.MAX_VALUE}) {
            Check.dueIllegalArgument("player(1, " + what + ")", () -> x.player(1, what));
        }
        Check.due("player(1, 3)", x.player(1, 3), 0);
    }

    private static void letterOfAWord() {
        Check.sentence("Returns its number, from 0 for a.");
        RhymeRoofs x = Check.loaded("roof 9;hand 1 abcdefgh ijklmnop qrstuvwx yz z;");
        for (int letter = 0; letter < 26; letter++) {
            Check.due("letter " + letter, x.letter(1, letter / 8, letter % 8), letter);
        }
        Check.due("a word of 1 letter", x.letter(1, 4, 0), 25);
    }

    private static void missingLetter() {
        Check.sentence("if the word has not so many letters");
        RhymeRoofs x = Check.loaded("roof 9;hand 0 a bb abcdefgh;");
        int[] letters = {1, 2, 8};
        for (int p = 0; p < 3; p++) {
            int place = p;
            for (int k : new int[] {-1, letters[p], 9, Integer.MIN_VALUE, Integer.MAX_VALUE}) {
                Check.dueNoSuchElement("letter(0, " + p + ", " + k + ")", () -> x.letter(0, place, k));
            }
        }
        Check.due("the last letter of 8", x.letter(0, 2, 7), 7);
    }

    private static void alikeOutOfRange() {
        Check.sentence("if a or b is out of range");
        RhymeRoofs x = new RhymeRoofs();
        for (int wrong : new int[] {-1, 26, Integer.MIN_VALUE, Integer.MAX_VALUE}) {
            Check.dueIllegalArgument("alike(" + wrong + ", 0)", () -> x.alike(wrong, 0));
            Check.dueIllegalArgument("alike(0, " + wrong + ")", () -> x.alike(0, wrong));
            Check.dueIllegalArgument("alike(" + wrong + ", itself)", () -> x.alike(wrong, wrong));
        }
        Check.due("alike(0, 25)", x.alike(0, 25), false);
        Check.due("alike(25, 0)", x.alike(25, 0), false);
        Check.due("alike(25, 25)", x.alike(25, 25), true);
    }

    private static void rhymeWithTheLastWord() {
        Check.sentence("Returns the rhyme of the word there with the last word of the row");
        RhymeRoofs x = Check.loaded("roof 20;need 1;hand 0 at cat t dog;hand 1 hat;hand 0 zzzzzcat;");
        x.lay(1, 0);
        int[] want = {2, 1, 0, 3};
        for (int place = 0; place < 4; place++) {
            Check.due("place " + place + " with cat", x.rhyme(0, place, 0), want[place]);
        }
        Check.due("of the other hand", x.rhyme(1, 0, 0), 2);
        x.lay(0, 0);
        Check.due("zzzzzcat with hat", x.rhyme(0, 3, 0), 2);
    }

    private static void rhymeWithoutWords() {
        Check.sentence("-1 if the row has no words");
        RhymeRoofs x = Check.loaded("roof 9 9;hand 0 cat dog;hand 1 hat;");
        Check.due("no words", x.rhyme(0, 0, 0), -1);
        x.lay(0, 0);
        Check.due("words, but no rhyme", x.rhyme(0, 0, 0), 0);
        Check.due("the other row", x.rhyme(0, 0, 1), -1);
        x.undo();
        Check.due("behind an undo", x.rhyme(0, 0, 0), -1);
    }

    private static void whyOver() {
        Check.sentence("1 the game is over");
        RhymeRoofs x = Check.loaded("roof 3;hand 0 abc;hand 1 abc abcd;");
        x.pass();
        x.pass();
        Check.due("a word that would fit", x.why(0, 0), 1);
        Check.due("a word that would not", x.why(1, 0), 1);
        x.undo();
        Check.due("not over", x.why(0, 0), 0);
    }

    private static void whyTooFewTiles() {
        Check.sentence("2 too few tiles are free");
        RhymeRoofs x = Check.loaded("roof 7 8;hand 0 abcdefgh abcdefg;");
        Check.due("8 letters, 7 tiles", x.why(0, 0), 2);
        Check.due("8 letters, 8 tiles", x.why(0, 1), 0);
        Check.due("7 letters, 7 tiles", x.why(1, 0), 0);
        x.lay(0, 1);
        x.pass();
        Check.due("no free tile", x.why(0, 1), 2);
    }

    private static void whySameWord() {
        Check.sentence("3 it is the same word as the last one of the row");
        RhymeRoofs x = Check.loaded("roof 20;need 2;alike ch;hand 0 cat cat hat;hand 1 cat bat;");
        x.lay(0, 0);
        Check.due("cat behind cat", x.why(0, 0), 3);
        x.lay(1, 0);
        Check.due("cat behind bat, cat before it", x.why(0, 0), 0);
        x.lay(0, 0);
        x.pass();
        Check.due("hat behind cat, c and h alike", x.why(0, 0), 0);
    }

    private static void whyNoRhyme() {
        Check.sentence("4 its rhyme is less than the need");
        RhymeRoofs x = Check.loaded("roof 40;need 3;hand 0 zabc;hand 1 yabc zbc bc zzbc;");
        x.lay(0, 0);
        int[] want = {0, 4, 4, 4};
        for (int place = 0; place < 4; place++) {
            Check.due("place " + place, x.why(place, 0), want[place]);
        }
    }

    private static void whyFirstThatApplies() {
        Check.sentence("Returns 0 if it can be laid, otherwise the first that applies");
        RhymeRoofs x = Check.loaded("roof 6;need 4;hand 0 cat dogs;hand 1 cat dogs dog;");
        x.lay(0, 0);
        Check.due("2 of 2 and 4", x.why(1, 0), 2);
        Check.due("3 of 3 and 4", x.why(0, 0), 3);
        Check.due("4", x.why(2, 0), 4);
        x.pass();
        Check.due("2 of 2 and 4", x.why(0, 0), 2);
        x.pass();
        Check.due("over: 1 of 1, 3 and 4", x.why(0, 0), 1);
        RhymeRoofs y = Check.loaded("roof 5;need 4;hand 0 cat;hand 1 cat;");
        y.lay(0, 0);
        Check.due("2 of 2, 3 and 4", y.why(0, 0), 2);
    }

    private static void playOfAWord() {
        Check.sentence("what: 0 the points for this play, 1 its rank");
        RhymeRoofs x = Check.loaded("roof 4 9;rank 0-left;bonus 3;crown 6;hand 0 cat;hand 1 zcat s t;");
        Check.due("points", x.play(0, 0, 0), 3);
        Check.due("rank", x.play(0, 0, 1), -1);
        x.lay(0, 1);
        Check.due("points on the full row", x.play(0, 0, 0), 10);
        Check.due("rank on the full row", x.play(0, 0, 1), 0);
        Check.due("points behind cat", x.play(0, 1, 0), 4 + 9);
        Check.due("rank behind cat", x.play(0, 1, 1), -2);
    }

    private static void whatOfAPlay() {
        Check.sentence("Throws IllegalArgumentException if what is out of range");
        RhymeRoofs x = Check.loaded("roof 9;hand 0 abc;");
        for (int what : new int[] {-1, 2, 3, Integer.MIN_VALUE, Integer.MAX_VALUE}) {
            Check.dueIllegalArgument("play(0, 0, " + what + ")", () -> x.play(0, 0, what));
        }
    }

    private static void wordThatCannotBeLaid() {
        Check.sentence("if the word cannot be laid there");
        RhymeRoofs x = Check.loaded("roof 6;need 2;hand 0 cat hats;hand 1 cat dog dogs hat;");
        x.lay(0, 0);
        for (int place = 0; place < 3; place++) {
            int p = place;
            Check.dueNoSuchElement("play(" + place + ", 0, 0)", () -> x.play(p, 0, 0));
            Check.dueNoSuchElement("play(" + place + ", 0, 1)", () -> x.play(p, 0, 1));
        }
        Check.due("play(3, 0, 1)", x.play(3, 0, 1), 3 + 2 + 10);
        x.pass();
        x.pass();
        Check.dueNoSuchElement("over", () -> x.play(0, 0, 0));
    }

    private static void winnerWhenOver() {
        Check.sentence("(as it is, if it is over)");
        RhymeRoofs x = Check.loaded("roof 40;players 3;need 1;bonus 0;hand 0 a;hand 1 zza;hand 2 abcdefgh;");
        x.pass();
        x.lay(0, 0);
        x.pass();
        x.pass();
        Check.due("not over", x.state(6), 0);
        Check.due("winner played on", x.winner(), 1);
        x.pass();
        Check.due("over", x.state(6), 1);
        Check.due("points", x.player(1, 2), 4);
        Check.due("winner as it is", x.winner(), 1);
        Check.due("points stay", x.player(1, 2), 4);
        RhymeRoofs y = Check.loaded("roof 9;hand 0 a;hand 1 abcdefgh;");
        y.pass();
        y.pass();
        Check.due("nobody has points", y.winner(), 0);
        y.undo();
        Check.due("before the last pass: player 1 lays", y.winner(), 1);
    }

    private static void winnerOfEqualPoints() {
        Check.sentence("the player who would have the most points when the game is over, of several the smallest index");
        RhymeRoofs x = Check.loaded("roof 2 2 2 2;players 4;crown 0;hand 1 ab;hand 2 cd;hand 3 ef;");
        Check.due("players 1, 2 and 3 have 2 points each", x.winner(), 1);
        Check.due("nobody has points", Check.loaded("roof 2;players 4;").winner(), 0);
        RhymeRoofs y = Check.loaded("roof 2 2 3;players 4;crown 0;hand 1 ab;hand 2 cd;hand 3 efg;");
        Check.due("player 3 has most", y.winner(), 3);
        RhymeRoofs z = Check.loaded("roof 2 3 3 2;players 4;crown 0;hand 0 ab;hand 1 cde;hand 2 fgh;hand 3 ij;");
        Check.due("players 1 and 2", z.winner(), 1);
    }

    private static void winnerPlayedOn() {
        Check.sentence("if it was played on by steps by rank until then");
        RhymeRoofs x = Check.loaded("roof 6 6;bonus 0;crown 0;rank 0-letters;hand 0 abcd;hand 1 xyz xyzu;");
        x.lay(0, 0);
        Check.due("points now", x.player(0, 2), 4);
        // xyz on row 1; nothing fits then: 4 + 2 for player 0, 3 + 1 for player 1.
        Check.due("the halves count", x.winner(), 0);
        Check.due("nothing is played", x.player(1, 2), 0);
        RhymeRoofs y = Check.loaded("roof 6 4;bonus 0;crown 9;rank letters;hand 0 abcd;hand 1 xyz xyzu;");
        y.lay(0, 0);
        Check.due("the rank counts", y.winner(), 1);
        RhymeRoofs z = Check.loaded("roof 6 4;bonus 0;crown 9;rank 0-letters;hand 0 abcd;hand 1 xyz xyzu;");
        z.lay(0, 0);
        Check.due("the rank counts", z.winner(), 0);
    }

    private static void stepsUntilOver() {
        Check.sentence("Returns the number of steps by rank until the game would be over");
        RhymeRoofs x = Check.loaded("roof 40;players 4;need 1;alike ab;hand 0 a a a a b b b b;hand 1 a a a a a a a a;"
                + "hand 2 a a a a a a a a;hand 3 b b b b b b b b;");
        int made = 0;
        for (int left = 55; left > 0; left--) {
            Check.due("steps to the end behind " + made, x.stepsToEnd(), left);
            Check.due("not over", x.state(6), 0);
            made += x.auto(1);
        }
        Check.due("over", x.state(6), 1);
        Check.due("steps made", made, 55);
        Check.due("one step that ends it", Check.loaded("roof 9;hand 0 a;").stepsToEnd(), 1);
        Check.due("passes only", new RhymeRoofs().stepsToEnd(), 2);
    }

    private static void stepsWhenOver() {
        Check.sentence("0 if it is over");
        RhymeRoofs x = Check.loaded("roof 9;hand 0 a;hand 1 b;");
        x.pass();
        Check.due("player 1 lays, then 0 fits nowhere", x.stepsToEnd(), 3);
        x.pass();
        Check.due("over by passes", x.stepsToEnd(), 0);
        RhymeRoofs y = Check.loaded("roof 9;hand 0 a;");
        y.lay(0, 0);
        Check.due("over by the last word", y.stepsToEnd(), 0);
    }

    private static void coveredTiles() {
        Check.sentence("Returns the letters that lie on all rows and the tiles of all rows, both converted to float and divided.");
        Check.dueFloat("no letters", new RhymeRoofs().covered(), 0f);
        RhymeRoofs x = Check.loaded("roof 1 1 1;hand 0 a b c;hand 1 d e f;");
        float[] want = {1f / 3f, 2f / 3f, 1f};
        for (int r = 0; r < 3; r++) {
            x.lay(0, r);
            Check.dueFloat("covered rows " + (r + 1), x.covered(), want[r]);
        }
        RhymeRoofs y = Check.loaded("roof 40 40 40 40 40 40;hand 0 abcdefg;");
        y.lay(0, 3);
        Check.dueFloat("7 of 240", y.covered(), 7f / 240f);
        RhymeRoofs z = Check.loaded("roof 1;hand 0 a;");
        Check.dueFloat("none of 1", z.covered(), 0f);
        z.lay(0, 0);
        Check.dueFloat("1 of 1", z.covered(), 1f);
    }

    private static void layAWord() {
        Check.sentence("Returns the points for it.");
        RhymeRoofs x = Check.loaded("roof 6;need 2;bonus 4;crown 7;hand 0 cat a;hand 1 hat;");
        Check.due("cat", x.lay(0, 0), 3);
        Check.due("points of 0", x.player(0, 2), 3);
        Check.due("hat: letters, bonus and crown", x.lay(0, 0), 3 + 8 + 14);
        Check.due("points of 1", x.player(1, 2), 25);
        RhymeRoofs y = Check.loaded("roof 9;hand 0 abcd;");
        Check.due("the last word, without what the owner gets", y.lay(0, 0), 4);
        Check.due("points with it", y.player(0, 2), 6);
    }

    private static void layThatCannotBe() {
        Check.sentence("if it cannot be laid there");
        RhymeRoofs x = Check.loaded("roof 6 4;need 2;hand 0 cat dogs;hand 1 cat dog dogs hat;");
        x.lay(0, 0);
        for (int place = 0; place < 3; place++) {
            int p = place;
            Check.dueIllegalState("lay(" + place + ", 0)", () -> x.lay(p, 0));
        }
        Check.due("dogs on the other row", x.why(2, 1), 0);
        x.pass();
        x.pass();
        Check.due("over", x.state(6), 1);
        Check.dueIllegalState("over", () -> x.lay(0, 1));
    }

    private static void passToTheNext() {
        Check.sentence("Returns the player who is on turn then.");
        RhymeRoofs x = Check.loaded("roof 40;players 4;need 1;hand 3 a ba ca;");
        Check.due("pass of 0", x.pass(), 1);
        Check.due("pass of 1", x.pass(), 2);
        Check.due("pass of 2", x.pass(), 3);
        x.lay(0, 0);
        Check.due("pass of 0", x.pass(), 1);
        Check.due("pass of 1", x.pass(), 2);
        Check.due("pass of 2", x.pass(), 3);
        x.lay(0, 0);
        x.pass();
        x.pass();
        x.pass();
        Check.due("the pass of 3 that ends the game", x.pass(), 3);
    }

    private static void passWhenOver() {
        Check.sentence("Throws IllegalStateException if the game is over");
        RhymeRoofs x = new RhymeRoofs();
        x.pass();
        Check.due("the pass that ends the game", x.pass(), 1);
        Check.dueIllegalState("over by passes", x::pass);
        RhymeRoofs y = Check.loaded("roof 9;hand 0 a;");
        y.lay(0, 0);
        Check.dueIllegalState("over by the last word", y::pass);
        y.undo();
        Check.due("not over", y.pass(), 1);
    }

    private static void autoUntilOver() {
        Check.sentence("Makes steps by rank, until so many are made, or the game is over.");
        String setup = "roof 40;players 4;need 1;alike ab;hand 0 a a a a b b b b;hand 1 a a a a a a a a;"
                + "hand 2 a a a a a a a a;hand 3 b b b b b b b b;";
        RhymeRoofs x = Check.loaded(setup);
        Check.due("auto(1)", x.auto(1), 1);
        Check.due("turn", x.state(5), 1);
        Check.due("auto(50) of 54", x.auto(50), 50);
        Check.due("not over", x.state(6), 0);
        Check.due("auto(3) of 4", x.auto(3), 3);
        Check.due("not over", x.state(6), 0);
        Check.due("auto(50) of 1", x.auto(50), 1);
        Check.due("over", x.state(6), 1);
        Check.due("auto(50) of none", x.auto(50), 0);
        RhymeRoofs y = Check.loaded(setup);
        Check.due("auto(50) of 55", y.auto(50), 50);
        Check.due("auto(5) of 5", y.auto(5), 5);
        Check.due("over", y.state(6), 1);
        Check.due("the same end", y.checksum(), x.checksum());
    }

    private static void autoOutOfRange() {
        Check.sentence("if steps is out of range");
        RhymeRoofs x = Check.loaded("roof 9;hand 0 a;");
        for (int steps : new int[] {0, -1, 51, 52, Integer.MIN_VALUE, Integer.MAX_VALUE}) {
            Check.dueIllegalArgument("auto(" + steps + ")", () -> x.auto(steps));
        }
        Check.due("nothing was made", x.state(8), 0);
        Check.due("auto(50)", x.auto(50), 1);
    }

    private static void giveAWord() {
        Check.sentence("Returns its place in the hand.");
        RhymeRoofs x = Check.loaded("roof 9;players 3;hand 1 cat;");
        for (int place = 1; place < 8; place++) {
            Check.due("give", Check.give(x, 1, "abcdefgh".substring(0, place)), place);
            Check.due("its last letter", x.letter(1, place, place - 1), place - 1);
        }
        Check.due("give to an empty hand", Check.give(x, 2, "z"), 0);
        Check.due("turn", x.state(5), 0);
        Check.due("words of all hands", x.state(11), 9);
        x.pass();
        x.lay(1, 0);
        Check.due("give behind a word that was laid", Check.give(x, 1, "q"), 7);
    }

    private static void giveEmptiesTheBuffer() {
        Check.sentence("its letters are the first bytes of the input buffer, which is empty afterwards");
        RhymeRoofs x = new RhymeRoofs();
        Check.append(x, "abcdefghijklmnopqrstuvwxyz");
        Check.due("give of 3 of 40 bytes", x.give(0, 3), 0);
        Check.due("letters", x.player(0, 1), 3);
        for (int k = 0; k < 3; k++) {
            Check.due("letter " + k, x.letter(0, 0, k), k);
        }
        Check.dueIllegalArgument("give of an empty buffer", () -> x.give(0, 1));
        Check.due("append", x.append(0, 0, 0, 0, 0), 20);
    }

    private static void giveOfAWrongLength() {
        Check.sentence("if length is not 1 to 8, or greater than the length of the buffer");
        RhymeRoofs x = new RhymeRoofs();
        for (int length : new int[] {1, 8, 0, -1}) {
            Check.dueIllegalArgument("an empty buffer: give(0, " + length + ")", () -> x.give(0, length));
        }
        Check.append(x, "abcdefghijklmnopqrst");
        for (int length : new int[] {0, -1, 9, 20, 21, Integer.MIN_VALUE, Integer.MAX_VALUE}) {
            Check.dueIllegalArgument("give(0, " + length + ")", () -> x.give(0, length));
        }
        Check.due("the buffer stays", x.give(0, 8), 0);
        Check.append(x, "z");
        Check.due("give of 1", x.give(0, 1), 1);
    }

    private static void giveOfOtherBytes() {
        Check.sentence("or one of these bytes is not a letter a to z; the buffer is unchanged then");
        for (String other : new String[] {"`", "{", "A", "Z", "0", " ", "\0", "\u00e1", "\u00ff"}) {
            RhymeRoofs x = new RhymeRoofs();
            Check.append(x, "az" + other + "za");
            for (int length = 3; length <= 8; length++) {
                int n = length;
                Check.dueIllegalArgument("give of az" + other, () -> x.give(0, n));
            }
            Check.due("a byte behind the word does not matter", x.give(0, 2), 0);
            Check.append(x, other);
            Check.dueIllegalArgument("the first byte", () -> x.give(0, 1));
            Check.due("the buffer stays", x.append(0, 0, 0, 0, 0), 40);
        }
    }

    private static void giveToAFullHand() {
        Check.sentence("if the hand has 8 words, or the game is over; the buffer is unchanged then");
        RhymeRoofs x = Check.loaded("roof 9;hand 0 a b c d e f g h;hand 1 a b c d e f g;");
        Check.append(x, "abc");
        Check.dueIllegalState("8 words", () -> x.give(0, 3));
        Check.due("the buffer stays: 7 words of the other", x.give(1, 3), 7);
        Check.append(x, "abc");
        Check.dueIllegalState("8 words now", () -> x.give(1, 3));
        x.lay(0, 0);
        Check.due("7 words again", x.give(0, 3), 7);
    }

    private static void giveWhenOver() {
        Check.sentence("or the game is over; the buffer is unchanged then");
        RhymeRoofs x = new RhymeRoofs();
        x.pass();
        Check.due("not over", Check.give(x, 0, "abc"), 0);
        Check.due("a pass before still counts", x.state(7), 1);
        x.pass();
        Check.append(x, "abc");
        Check.dueIllegalState("over", () -> x.give(0, 3));
        Check.dueIllegalState("over", () -> x.give(1, 3));
        x.undo();
        Check.due("the buffer stays", x.give(1, 3), 0);
        RhymeRoofs y = Check.loaded("roof 9;hand 0 a;");
        y.lay(0, 0);
        Check.append(y, "abc");
        Check.dueIllegalState("over by the last word", () -> y.give(1, 3));
    }
}
