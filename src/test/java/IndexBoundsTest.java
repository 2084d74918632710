/** The boundary cases of the parameters row, player and place: a test for the sentences of 'Changes', and of each promise. */
public final class IndexBoundsTest {
    private static final String SETUP =
            "roof 9 5;players 3;need 2;bonus 3;crown 4;alike ae;rank 7;hand 0 cat dog;hand 1 bet hat;hand 2 rat;";
    private static final int MIN = Integer.MIN_VALUE;
    private static final int MAX = Integer.MAX_VALUE;

    /** Places and rows that are missing while player 1 is on turn, who has 2 words. */
    private static final int[][] MISSING = {{-1, 0}, {2, 0}, {3, 1}, {8, 0}, {MIN, 0}, {MAX, 0}, {0, -1}, {0, 2}, {1, 6},
        {0, MIN}, {0, MAX}, {-1, -1}, {2, 2}};

    /** Players and rows that are missing in a game of 3 players and 2 rows. */
    private static final int[][] PLAYER_OR_ROW = {{-1, 0}, {3, 0}, {4, 1}, {MIN, 0}, {MAX, 0}, {0, -1}, {0, 2}, {2, 6},
        {2, MIN}, {2, MAX}, {-1, -1}, {3, 2}};

    public static void main(String[] args) {
        missingRows();
        missingPlayers();
        missingPlacesOfAPlayer();
        missingPlacesOfThePlayerOnTurn();
        indexesOfTheLoadedGame();
        rowOfRow();
        rowOfTile();
        playerOfPlayer();
        playerAndPlaceOfLetter();
        playerPlaceAndRowOfRhyme();
        placeAndRowOfWhy();
        placeAndRowOfPlay();
        playerAndRowOfChain();
        playerAndRowOfWorth();
        playerAndRowOfFillings();
        rowOfThreats();
        placeAndRowOfLay();
        playerOfGive();
        Check.end();
    }

    private static void missingRows() {
        Check.sentence("IndexOutOfBoundsException is thrown if a parameter named row, player or place is not the index of a row");
        RhymeRoofs x = Check.loaded(SETUP);
        Check.append(x, "cat");
        for (int row : new int[] {-1, 2, 6, MIN, MAX}) {
            Check.dueOutOfBounds("row(" + row + ", 0)", () -> x.row(row, 0));
            Check.dueOutOfBounds("tile(" + row + ", 0)", () -> x.tile(row, 0));
            Check.dueOutOfBounds("rhyme(0, 0, " + row + ")", () -> x.rhyme(0, 0, row));
            Check.dueOutOfBounds("why(0, " + row + ")", () -> x.why(0, row));
            Check.dueOutOfBounds("play(0, " + row + ", 0)", () -> x.play(0, row, 0));
            Check.dueOutOfBounds("chain(0, " + row + ")", () -> x.chain(0, row));
            Check.dueOutOfBounds("worth(0, " + row + ")", () -> x.worth(0, row));
            Check.dueOutOfBounds("fillings(0, " + row + ")", () -> x.fillings(0, row));
            Check.dueOutOfBounds("threats(" + row + ")", () -> x.threats(row));
            Check.dueOutOfBounds("lay(0, " + row + ")", () -> x.lay(0, row));
        }
        Check.due("the last row", x.row(1, 0) + x.why(0, 1) + x.chain(0, 1) + x.lay(0, 1), 5 + 0 + 1 + 3);
    }

    private static void missingPlayers() {
        Check.sentence("is not the index of a row, of a player");
        RhymeRoofs x = Check.loaded(SETUP);
        Check.append(x, "cat");
        for (int player : new int[] {-1, 3, 4, MIN, MAX}) {
            Check.dueOutOfBounds("player(" + player + ", 0)", () -> x.player(player, 0));
            Check.dueOutOfBounds("letter(" + player + ", 0, 0)", () -> x.letter(player, 0, 0));
            Check.dueOutOfBounds("rhyme(" + player + ", 0, 0)", () -> x.rhyme(player, 0, 0));
            Check.dueOutOfBounds("chain(" + player + ", 0)", () -> x.chain(player, 0));
            Check.dueOutOfBounds("worth(" + player + ", 0)", () -> x.worth(player, 0));
            Check.dueOutOfBounds("fillings(" + player + ", 0)", () -> x.fillings(player, 0));
            Check.dueOutOfBounds("give(" + player + ", 3)", () -> x.give(player, 3));
        }
        Check.due("the last player", x.player(2, 0) + x.letter(2, 0, 1) + x.give(2, 3), 1 + 0 + 1);
    }

    private static void missingPlacesOfAPlayer() {
        Check.sentence("or a place of the hand that is asked");
        RhymeRoofs x = Check.loaded("roof 9;hand 0 a bb ccc;hand 1 z;");
        for (int place : new int[] {-1, 1, 2, 8, MIN, MAX}) {
            Check.dueOutOfBounds("letter(1, " + place + ", 0)", () -> x.letter(1, place, 0));
            Check.dueOutOfBounds("rhyme(1, " + place + ", 0)", () -> x.rhyme(1, place, 0));
        }
        Check.dueOutOfBounds("letter(0, 3, 0)", () -> x.letter(0, 3, 0));
        Check.dueOutOfBounds("rhyme(0, 3, 0)", () -> x.rhyme(0, 3, 0));
        Check.due("the last places", x.letter(0, 2, 0) + x.letter(1, 0, 0), 2 + 25);
        Check.due("the last place", x.rhyme(0, 2, 0), -1);
        x.lay(0, 0);
        Check.dueOutOfBounds("a place behind the hand that is one word less", () -> x.letter(0, 2, 0));
        Check.dueOutOfBounds("no place of an empty hand", () -> new RhymeRoofs().letter(0, 0, 0));
    }

    private static void missingPlacesOfThePlayerOnTurn() {
        Check.sentence("(of the player on turn, if no player is named)");
        RhymeRoofs x = Check.loaded("roof 9;players 3;hand 0 a bb ccc;hand 1 z;");
        int[] words = {3, 1, 0};
        for (int turn = 0; turn < 3; turn++) {
            for (int place : new int[] {-1, words[turn], 3, 8, MIN, MAX}) {
                Check.dueOutOfBounds("why(" + place + ", 0) of " + turn, () -> x.why(place, 0));
                Check.dueOutOfBounds("play(" + place + ", 0, 0) of " + turn, () -> x.play(place, 0, 0));
                Check.dueOutOfBounds("lay(" + place + ", 0) of " + turn, () -> x.lay(place, 0));
            }
            for (int place = 0; place < words[turn]; place++) {
                Check.due("why(" + place + ", 0) of " + turn, x.why(place, 0), 0);
            }
            x.pass();
        }
        Check.due("over, on turn the one who passed last", x.state(5), 2);
        Check.dueOutOfBounds("why(0, 0) of an empty hand, over", () -> x.why(0, 0));
    }

    private static void indexesOfTheLoadedGame() {
        Check.sentence("is not the index of a row, of a player, or a place of the hand");
        RhymeRoofs x = Check.loaded("roof 1 2 3 4 5 6;players 4;hand 3 a b;");
        Check.due("row 5", x.row(5, 0), 6);
        Check.due("player 3", x.player(3, 0), 2);
        Check.load(x, "roof 7 8;hand 1 c;");
        Check.dueOutOfBounds("row 2", () -> x.row(2, 0));
        Check.dueOutOfBounds("player 2", () -> x.player(2, 0));
        Check.dueOutOfBounds("place 1", () -> x.letter(1, 1, 0));
        x.undo();
        Check.due("row 5", x.row(5, 0), 6);
        Check.due("player 3", x.player(3, 0), 2);
    }

    private static void rowOfRow() {
        Check.sentence("Throws IndexOutOfBoundsException if there is no such row");
        RhymeRoofs x = Check.loaded("roof 1 2 3;");
        for (int row : new int[] {-1, 3, 5, 6, MIN, MAX}) {
            Check.dueOutOfBounds("row(" + row + ", 0)", () -> x.row(row, 0));
        }
        Check.due("row(2, 0)", x.row(2, 0), 3);
    }

    private static void rowOfTile() {
        Check.sentence("Throws IndexOutOfBoundsException if there is no such row");
        RhymeRoofs x = Check.loaded("roof 1 2 3;");
        for (int row : new int[] {-1, 3, 5, 6, MIN, MAX}) {
            Check.dueOutOfBounds("tile(" + row + ", 0)", () -> x.tile(row, 0));
        }
        Check.due("tile(2, 2)", x.tile(2, 2), -1);
    }

    private static void playerOfPlayer() {
        Check.sentence("Throws IndexOutOfBoundsException if there is no such player");
        RhymeRoofs x = Check.loaded("roof 9;players 3;hand 2 a b;");
        for (int player : new int[] {-1, 3, 4, MIN, MAX}) {
            Check.dueOutOfBounds("player(" + player + ", 0)", () -> x.player(player, 0));
        }
        Check.due("player(2, 0)", x.player(2, 0), 2);
    }

    private static void playerAndPlaceOfLetter() {
        Check.sentence("Throws IndexOutOfBoundsException if there is no such player or place");
        RhymeRoofs x = Check.loaded("roof 9;players 3;hand 0 a;hand 2 d e;");
        int[][] missing = {{-1, 0}, {3, 0}, {MIN, 0}, {MAX, 0}, {0, 1}, {1, 0}, {2, -1}, {2, 2}, {2, 8}, {2, MIN}, {2, MAX}};
        for (int[] m : missing) {
            Check.dueOutOfBounds("letter(" + m[0] + ", " + m[1] + ", 0)", () -> x.letter(m[0], m[1], 0));
        }
        Check.due("letter(2, 1, 0)", x.letter(2, 1, 0), 4);
        Check.due("letter(0, 0, 0)", x.letter(0, 0, 0), 0);
    }

    private static void playerPlaceAndRowOfRhyme() {
        Check.sentence("Throws IndexOutOfBoundsException if there is no such player, place or row");
        RhymeRoofs x = Check.loaded("roof 9 9;players 3;hand 0 a;hand 2 d e;");
        int[][] missing = {{-1, 0, 0}, {3, 0, 0}, {MAX, 0, 0}, {0, 1, 0}, {1, 0, 0}, {2, -1, 0}, {2, 2, 0}, {2, MIN, 0},
            {2, 0, -1}, {2, 0, 2}, {2, 0, MAX}, {0, 0, MIN}};
        for (int[] m : missing) {
            Check.dueOutOfBounds("rhyme(" + m[0] + ", " + m[1] + ", " + m[2] + ")", () -> x.rhyme(m[0], m[1], m[2]));
        }
        Check.due("rhyme(2, 1, 1)", x.rhyme(2, 1, 1), -1);
        Check.due("rhyme(0, 0, 0)", x.rhyme(0, 0, 0), -1);
    }

    private static RhymeRoofs onTurnOfTwoWords() {
        RhymeRoofs x = Check.loaded("roof 9 9;hand 0 aa bb cc dd;hand 1 ee ff;");
        x.pass();
        return x;
    }

    private static void placeAndRowOfWhy() {
        Check.sentence("Throws IndexOutOfBoundsException if there is no such place or row");
        RhymeRoofs x = onTurnOfTwoWords();
        for (int[] m : MISSING) {
            Check.dueOutOfBounds("why(" + m[0] + ", " + m[1] + ")", () -> x.why(m[0], m[1]));
        }
        Check.due("why(1, 1)", x.why(1, 1), 0);
    }

    private static void placeAndRowOfPlay() {
        Check.sentence("Throws IndexOutOfBoundsException if there is no such place or row");
        RhymeRoofs x = onTurnOfTwoWords();
        for (int[] m : MISSING) {
            Check.dueOutOfBounds("play(" + m[0] + ", " + m[1] + ", 0)", () -> x.play(m[0], m[1], 0));
        }
        Check.due("play(1, 1, 0)", x.play(1, 1, 0), 2);
    }

    private static void placeAndRowOfLay() {
        Check.sentence("Throws IndexOutOfBoundsException if there is no such place or row");
        RhymeRoofs x = onTurnOfTwoWords();
        for (int[] m : MISSING) {
            Check.dueOutOfBounds("lay(" + m[0] + ", " + m[1] + ")", () -> x.lay(m[0], m[1]));
        }
        Check.due("lay(1, 1)", x.lay(1, 1), 2);
    }

    private static void playerAndRowOfChain() {
        Check.sentence("if there is no such player or row");
        RhymeRoofs x = Check.loaded("roof 9 3;players 3;crown 1;hand 2 cat;");
        for (int[] m : PLAYER_OR_ROW) {
            Check.dueOutOfBounds("chain(" + m[0] + ", " + m[1] + ")", () -> x.chain(m[0], m[1]));
        }
        Check.due("chain(2, 1)", x.chain(2, 1), 1);
    }

    private static void playerAndRowOfWorth() {
        Check.sentence("if there is no such player or row");
        RhymeRoofs x = Check.loaded("roof 9 3;players 3;crown 1;hand 2 cat;");
        for (int[] m : PLAYER_OR_ROW) {
            Check.dueOutOfBounds("worth(" + m[0] + ", " + m[1] + ")", () -> x.worth(m[0], m[1]));
        }
        Check.due("worth(2, 1)", x.worth(2, 1), 4);
    }

    private static void playerAndRowOfFillings() {
        Check.sentence("if there is no such player or row");
        RhymeRoofs x = Check.loaded("roof 3 3;players 3;hand 2 cat;hand 0 dog;");
        x.lay(0, 0);
        for (int[] m : PLAYER_OR_ROW) {
            Check.dueOutOfBounds("fillings(" + m[0] + ", " + m[1] + ")", () -> x.fillings(m[0], m[1]));
        }
        Check.due("fillings(2, 1)", x.fillings(2, 1), 1);
        Check.dueOutOfBounds("no such player, a full row", () -> x.fillings(3, 0));
    }

    private static void rowOfThreats() {
        Check.sentence("Throws IndexOutOfBoundsException if there is no such row");
        RhymeRoofs x = Check.loaded("roof 9 3;players 3;hand 2 cat;");
        for (int row : new int[] {-1, 2, 3, 6, MIN, MAX}) {
            Check.dueOutOfBounds("threats(" + row + ")", () -> x.threats(row));
        }
        Check.due("threats(1)", x.threats(1), 4);
    }

    private static void playerOfGive() {
        Check.sentence("Throws IndexOutOfBoundsException if there is no such player");
        RhymeRoofs x = Check.loaded("roof 9;players 3;");
        Check.append(x, "cat");
        for (int player : new int[] {-1, 3, 4, MIN, MAX}) {
            Check.dueOutOfBounds("give(" + player + ", 3)", () -> x.give(player, 3));
        }
        Check.due("give(2, 3)", x.give(2, 3), 0);
    }
}
