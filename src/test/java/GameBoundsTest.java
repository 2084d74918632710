/** The boundary cases that 'Conventions' and 'The game' name: a test for each sentence. */
public final class GameBoundsTest {
    private static final int RANGE = RhymeRoofs.OUT_OF_RANGE;

    public static void main(String[] args) {
        callsOfAnObject();
        lettersOfAWord();
        rowsOfARoof();
        tilesOfARow();
        tilesOfAllRows();
        playersOfAGame();
        wordsOfAHand();
        pointsAtFirst();
        placesInTheOrderTold();
        placesBehindALaidWord();
        sameWordSeveralTimes();
        alikeItself();
        alikeInAGroup();
        atMostOneGroup();
        rhymeOfTheShorterWord();
        rhymeFromTheEnd();
        needOfARhyme();
        sameWordIsNoRhyme();
        freeTiles();
        wordsThatJustFit();
        rowWithoutWords();
        lastWordOfTheRow();
        pointsOfLetters();
        pointsOfBonus();
        pointsOfCrown();
        crownOfManyWords();
        ownerOfARow();
        nextPlayer();
        overByPasses();
        wordsBetweenPasses();
        overByEmptyHands();
        payOfOwners();
        payIsCutForEachRow();
        nothingWhenOver();
        emptyFromTheBeginning();
        firstPlayer();
        Check.end();
    }

    private static void callsOfAnObject() {
        Check.sentence("An object is used for at most 512 calls after it has been made");
        RhymeRoofs x = new RhymeRoofs();
        for (int i = 0; i < 256; i++) {
            Check.due("auto, call " + (2 * i + 1), x.auto(1), i < 2 ? 1 : 0);
            Check.due("passes, call " + (2 * i + 2), x.state(7), Math.min(i + 1, 2));
        }
    }

    private static void lettersOfAWord() {
        Check.sentence("A word has 1 to 8 letters a to z.");
        RhymeRoofs x = Check.loaded("roof 9;hand 0 a zyxwvuts z;");
        Check.due("letters of 3 words", x.player(0, 1), 10);
        Check.due("a", x.letter(0, 0, 0), 0);
        Check.due("the 8th letter", x.letter(0, 1, 7), 18);
        Check.due("z", x.letter(0, 2, 0), 25);
        Check.dueError("roof 9;hand 0 abcdefghi;", RANGE, 14);
        Check.due("give of 1 letter", Check.give(x, 1, "z"), 0);
        Check.due("give of 8 letters", Check.give(x, 1, "azazazaz"), 1);
        Check.dueIllegalArgument("give of 9 letters", () -> Check.give(x, 1, "abcdefghi"));
    }

    private static void rowsOfARoof() {
        Check.sentence("There are 1 to 6 rows, with indexes from 0");
        RhymeRoofs one = Check.loaded("roof 7;");
        Check.due("rows", one.state(0), 1);
        Check.due("row 0 of 1", one.row(0, 0), 7);
        Check.dueOutOfBounds("row 1 of 1", () -> one.row(1, 0));
        RhymeRoofs six = Check.loaded("roof 11 12 13 14 15 16;");
        Check.due("rows", six.state(0), 6);
        for (int r = 0; r < 6; r++) {
            Check.due("row " + r + " of 6", six.row(r, 0), 11 + r);
        }
        Check.dueOutOfBounds("row 6 of 6", () -> six.row(6, 0));
        Check.dueError("roof ;", RhymeRoofs.SYNTAX_ERROR, 5);
        Check.dueError("roof 1 2 3 4 5 6 7;", RhymeRoofs.TOO_MANY, 17);
    }

    private static void tilesOfARow() {
        Check.sentence("a row has 1 to 40 tiles");
        RhymeRoofs x = Check.loaded("roof 1 40 40;need 1;bonus 0;crown 0;alike xy;"
                + "hand 0 abcdefgx ijklmnox qrstuvwx z;hand 1 bcdefghy jklmnopy;");
        for (int i = 0; i < 5; i++) {
            Check.due("word " + i + " of 8 letters on 40 tiles", x.lay(0, 1), 8);
        }
        String letters = "abcdefgxbcdefghyijklmnoxjklmnopyqrstuvwx";
        for (int t = 0; t < 40; t++) {
            Check.due("tile " + t + " of 40", x.tile(1, t), letters.charAt(t) - 'a');
        }
        Check.due("free tiles of 40", x.row(1, 1), 0);
        Check.due("the row behind", x.tile(2, 0), -1);
        x.pass();
        Check.due("a word on 1 tile", x.lay(0, 0), 1);
        Check.due("the tile", x.tile(0, 0), 25);
        Check.dueError("roof 0;", RANGE, 5);
        Check.dueError("roof 40 41;", RANGE, 8);
    }

    private static void tilesOfAllRows() {
        Check.sentence("There are 1 to 6 rows, with indexes from 0; a row has 1 to 40 tiles.");
        String[] words = {"abcdefgx", "bcdefghx", "cdefghix", "defghijx"};
        StringBuilder setup = new StringBuilder("roof 40 40 40 40 40 40;players 4;need 1;bonus 0;crown 0;");
        for (int p = 0; p < 4; p++) {
            setup.append("hand ").append(p);
            for (int place = 0; place < 8; place++) {
                setup.append(' ').append(words[p]);
            }
            setup.append(';');
        }
        RhymeRoofs x = Check.loaded(setup.toString());
        for (int i = 0; i < 30; i++) {
            Check.due("word " + i, x.lay(0, i / 5), 8);
        }
        for (int t = 0; t < 240; t++) {
            String word = words[t / 8 % 4];
            Check.due("tile " + t % 40 + " of row " + t / 40, x.tile(t / 40, t % 40), word.charAt(t % 8) - 'a');
        }
        Check.due("full rows", x.state(9), 6);
        Check.dueFloat("covered", x.covered(), 1f);
        Check.due("a word left", x.why(0, 5), 2);
    }

    private static void playersOfAGame() {
        Check.sentence("There are 2 to 4 players, with indexes from 0");
        for (int n = 2; n <= 4; n++) {
            int players = n;
            RhymeRoofs x = Check.loaded("roof 9;players " + n + ";hand " + (n - 1) + " abc;");
            Check.due("players", x.state(1), n);
            Check.due("words of the last of " + n, x.player(n - 1, 0), 1);
            Check.due("words of the first of " + n, x.player(0, 0), 0);
            Check.dueOutOfBounds("player " + n + " of " + n, () -> x.player(players, 0));
        }
        Check.dueError("roof 9;players 1;", RANGE, 15);
        Check.dueError("roof 9;players 5;", RANGE, 15);
    }

    private static void wordsOfAHand() {
        Check.sentence("each has a hand of at most 8 words");
        String eight = " a bb ccc d ee fff g hhhhhhhh;";
        RhymeRoofs x = Check.loaded("roof 9;players 4;hand 0" + eight + "hand 1" + eight + "hand 2" + eight
                + "hand 3" + eight);
        Check.due("words of all hands", x.state(11), 32);
        for (int p = 0; p < 4; p++) {
            int player = p;
            Check.due("words of hand " + p, x.player(p, 0), 8);
            Check.due("letters of hand " + p, x.player(p, 1), 21);
            Check.due("the last letter of hand " + p, x.letter(p, 7, 7), 7);
            Check.dueIllegalState("a 9th word", () -> giveFromAFullBuffer(x, player));
        }
        Check.dueError("roof 9;hand 1 a a a a a a a a a;", RhymeRoofs.TOO_MANY, 30);
    }

    private static void giveFromAFullBuffer(RhymeRoofs x, int player) {
        Check.append(x, "abc");
        x.give(player, 3);
    }

    private static void pointsAtFirst() {
        Check.sentence("and points (0 at first)");
        RhymeRoofs x = Check.loaded("roof 9;players 4;hand 0 abc;hand 3 abc;");
        for (int p = 0; p < 4; p++) {
            Check.due("points of " + p, x.player(p, 2), 0);
        }
        x.lay(0, 0);
        Check.load(x, "roof 9;hand 0 abc;");
        Check.due("points of 0 behind a load", x.player(0, 2), 0);
    }

    private static void dueFirstLetters(String name, RhymeRoofs x, int player, String letters) {
        Check.due(name + ": words", x.player(player, 0), letters.length());
        for (int place = 0; place < letters.length(); place++) {
            Check.due(name + ": place " + place, x.letter(player, place, 0), letters.charAt(place) - 'a');
        }
        Check.dueOutOfBounds(name + ": place behind", () -> x.letter(player, letters.length(), 0));
    }

    private static void placesInTheOrderTold() {
        Check.sentence("Words of a hand have places from 0, in the order in which they were told");
        RhymeRoofs x = Check.loaded("roof 9;hand 1 h b;hand 0 z y x;hand 1 a;hand 0 w;hand 1 d c;");
        dueFirstLetters("hand 0", x, 0, "zyxw");
        dueFirstLetters("hand 1", x, 1, "hbadc");
        Check.give(x, 1, "b");
        dueFirstLetters("hand 1", x, 1, "hbadcb");
    }

    private static void placesBehindALaidWord() {
        Check.sentence("when one is laid, those behind it come one place ahead");
        String setup = "roof 9;hand 0 a b c d e f g h;hand 1 s t u v w x y z;";
        RhymeRoofs first = Check.loaded(setup);
        first.lay(0, 0);
        dueFirstLetters("the first laid", first, 0, "bcdefgh");
        dueFirstLetters("the hand of the other", first, 1, "stuvwxyz");
        RhymeRoofs middle = Check.loaded(setup);
        middle.lay(3, 0);
        dueFirstLetters("the 4th laid", middle, 0, "abcefgh");
        RhymeRoofs last = Check.loaded(setup);
        last.lay(7, 0);
        dueFirstLetters("the last laid", last, 0, "abcdefg");
        Check.give(last, 0, "h");
        dueFirstLetters("given again", last, 0, "abcdefgh");
    }

    private static void sameWordSeveralTimes() {
        Check.sentence("Words can be told several times.");
        RhymeRoofs x = Check.loaded("roof 9 9;hand 0 cat cat cat;hand 1 cat;hand 0 cat;");
        Check.due("words of hand 0", x.player(0, 0), 4);
        Check.due("words of hand 1", x.player(1, 0), 1);
        x.lay(1, 0);
        Check.due("words of hand 0", x.player(0, 0), 3);
        Check.due("a word of another place", x.lay(0, 1), 3);
    }

    private static void alikeItself() {
        Check.sentence("each letter is alike itself");
        RhymeRoofs bare = new RhymeRoofs();
        RhymeRoofs x = Check.loaded("roof 9;alike a;alike bz;");
        for (int a = 0; a < 26; a++) {
            Check.due("alike(" + a + ", itself)", x.alike(a, a), true);
            for (int b = 0; b < 26; b++) {
                Check.due("without groups: alike(" + a + ", " + b + ")", bare.alike(a, b), a == b);
            }
        }
        Check.due("a alone in a group", x.alike(0, 1), false);
    }

    private static void alikeInAGroup() {
        Check.sentence("letters of a told group are alike each other");
        RhymeRoofs x = Check.loaded("roof 9;alike zam;");
        int[] group = {25, 0, 12};
        for (int a : group) {
            for (int b : group) {
                Check.due("alike(" + a + ", " + b + ")", x.alike(a, b), true);
            }
            Check.due("alike(" + a + ", 13)", x.alike(a, 13), false);
            Check.due("alike(13, " + a + ")", x.alike(13, a), false);
        }
        RhymeRoofs all = Check.loaded("roof 9;alike zyxwvutsrqponmlkjihgfedcba;");
        Check.due("a and z of 26", all.alike(0, 25), true);
        Check.due("m and n of 26", all.alike(12, 13), true);
        RhymeRoofs two = Check.loaded("roof 9;alike ab;alike cd;");
        Check.due("letters of two groups", two.alike(1, 2), false);
    }

    private static void atMostOneGroup() {
        Check.sentence("(A letter is in at most one group.)");
        Check.dueError("roof 9;alike ab;alike bc;", RhymeRoofs.REPEATED, 22);
        Check.dueError("roof 9;alike az;alike cz;", RhymeRoofs.REPEATED, 23);
        Check.dueLoaded("roof 9;alike abcdefghijklm;alike nopqrstuvwxyz;", 0);
    }

    private static void dueRhyme(String last, String word, int rhyme) {
        RhymeRoofs x = Check.loaded("roof 40;alike ae;hand 0 " + last + ";hand 1 " + word + ";");
        x.lay(0, 0);
        Check.due("rhyme of " + word + " with " + last, x.rhyme(1, 0, 0), rhyme);
    }

    private static void rhymeOfTheShorterWord() {
        Check.sentence("the greatest number k, not more than the letters of the shorter one");
        dueRhyme("cat", "at", 2);
        dueRhyme("at", "cat", 2);
        dueRhyme("t", "abcdefgt", 1);
        dueRhyme("abcdefgt", "t", 1);
        dueRhyme("abcdefgh", "bcdefgh", 7);
        dueRhyme("abcdefgh", "ebcdafgh", 8);
        dueRhyme("abcdefgh", "abcdefgh", 8);
        dueRhyme("xxxxx", "xxx", 3);
    }

    private static void rhymeFromTheEnd() {
        Check.sentence("for which their last k letters are alike, one by one");
        dueRhyme("cat", "cet", 3);
        dueRhyme("cat", "dog", 0);
        dueRhyme("cat", "cats", 0);
        dueRhyme("cat", "cut", 1);
        dueRhyme("cat", "tac", 0);
        dueRhyme("band", "bend", 4);
        dueRhyme("band", "bnad", 1);
        dueRhyme("aaab", "baab", 3);
    }

    private static void needOfARhyme() {
        Check.sentence("Two words rhyme if their rhyme is at least the need (1 to 4)");
        String[] words = {"zzzz", "zzzd", "zzcd", "zbcd", "abcd"};
        for (int need = 1; need <= 4; need++) {
            RhymeRoofs x = Check.loaded("roof 40;need " + need + ";hand 0 yabcd;hand 1 zzzz zzzd zzcd zbcd abcd;");
            x.lay(0, 0);
            for (int rhyme = 0; rhyme <= 4; rhyme++) {
                Check.due("need " + need + ": " + words[rhyme], x.why(rhyme, 0), rhyme >= need ? 0 : 4);
            }
        }
        Check.dueError("roof 9;need 0;", RANGE, 12);
        Check.dueError("roof 9;need 5;", RANGE, 12);
    }

    private static void sameWordIsNoRhyme() {
        Check.sentence("and they are not the same word (letter by letter, without regard to groups)");
        RhymeRoofs x = Check.loaded("roof 40;alike abc;need 1;hand 0 abc;hand 1 abc cba acb aabc bc abb;");
        x.lay(0, 0);
        int[] want = {3, 0, 0, 0, 0, 0};
        for (int place = 0; place < want.length; place++) {
            Check.due("place " + place + " behind abc", x.why(place, 0), want[place]);
        }
        Check.due("rhyme of the same word", x.rhyme(1, 0, 0), 3);
        Check.dueIllegalState("the same word", () -> x.lay(0, 0));
    }

    private static void freeTiles() {
        Check.sentence("its free tiles are its tiles less the letters of its words");
        RhymeRoofs x = Check.loaded("roof 9 40;need 1;hand 0 abc c;hand 1 xxxxc;");
        Check.due("without words", x.row(0, 1), 9);
        x.lay(0, 0);
        Check.due("behind 3 letters", x.row(0, 1), 6);
        x.lay(0, 0);
        Check.due("behind 8 letters", x.row(0, 1), 1);
        x.lay(0, 0);
        Check.due("behind 9 letters", x.row(0, 1), 0);
        Check.due("the other row", x.row(1, 1), 40);
        Check.due("its tiles stay", x.row(0, 0), 9);
    }

    private static void wordsThatJustFit() {
        Check.sentence("if it has not more letters than the row has free tiles");
        RhymeRoofs x = Check.loaded("roof 3;need 1;hand 0 abc abcd abb b;hand 1 cb c dcb;");
        Check.due("as many letters as tiles", x.why(0, 0), 0);
        Check.due("a letter more", x.why(1, 0), 2);
        Check.due("fewer", x.why(3, 0), 0);
        x.lay(3, 0);
        Check.due("as many letters as free tiles", x.why(0, 0), 0);
        Check.due("a letter more than free tiles", x.why(2, 0), 2);
        x.lay(0, 0);
        Check.due("no free tile", x.why(2, 0), 2);
    }

    private static void rowWithoutWords() {
        Check.sentence("and the row has no words, or it rhymes with the last word of the row");
        RhymeRoofs x = Check.loaded("roof 9 9;need 4;hand 0 cat dog;hand 1 hat x;");
        Check.due("a row without words", x.why(1, 1), 0);
        x.lay(0, 0);
        Check.due("no rhyme", x.why(0, 0), 4);
        Check.due("the other row has no words still", x.why(0, 1), 0);
        Check.due("nothing rhymes with one letter, but no words lie there", x.why(1, 1), 0);
    }

    private static void lastWordOfTheRow() {
        Check.sentence("it rhymes with the last word of the row");
        RhymeRoofs x = Check.loaded("roof 20;need 1;alike ab;hand 0 za ab;hand 1 xab;");
        x.lay(0, 0);
        Check.due("ab with za", x.rhyme(0, 0, 0), 1);
        x.lay(0, 0);
        Check.due("ab with xab, not with za", x.rhyme(0, 0, 0), 2);
        RhymeRoofs y = Check.loaded("roof 20;need 1;hand 0 ab ac;hand 1 cb b xb;");
        y.lay(0, 0);
        y.lay(0, 0);
        Check.due("ac rhymes not with cb", y.why(0, 0), 4);
        y.pass();
        Check.due("xb rhymes with cb", y.why(1, 0), 0);
    }

    private static void pointsOfLetters() {
        Check.sentence("The points for it are its letters");
        RhymeRoofs x = Check.loaded("roof 40;bonus 9;crown 99;hand 0 a ab abc abcd abcde abcdef abcdefg abcdefgh;");
        for (int place = 0; place < 8; place++) {
            Check.due("points of place " + place, x.play(place, 0, 0), place + 1);
        }
    }

    private static void pointsOfBonus() {
        Check.sentence("plus the bonus (0 to 9) times its rhyme with the last word of the row (0 if there is none)");
        for (int bonus = 0; bonus <= 9; bonus++) {
            RhymeRoofs x = Check.loaded("roof 40;need 1;alike ax;bonus " + bonus
                    + ";hand 0 abcdefgh;hand 1 xbcdefgh gh zzzzzzzh;");
            Check.due("no rhyme with a row without words", x.play(0, 0, 0), 8);
            x.lay(0, 0);
            Check.due("rhyme 8, bonus " + bonus, x.play(0, 0, 0), 8 + 8 * bonus);
            Check.due("rhyme 2, bonus " + bonus, x.play(1, 0, 0), 2 + 2 * bonus);
            Check.due("rhyme 1, bonus " + bonus, x.play(2, 0, 0), 8 + bonus);
        }
    }

    private static void pointsOfCrown() {
        Check.sentence("plus, if no tile is free then, the crown (0 to 99) times the words of the row then");
        for (int crown : new int[] {0, 1, 98, 99}) {
            RhymeRoofs x = Check.loaded("roof 6 5;need 1;bonus 0;crown " + crown + ";hand 0 cat;hand 1 hat at latat;");
            x.lay(0, 0);
            Check.due("one tile is free then", x.play(1, 0, 0), 2);
            Check.due("no tile is free then, crown " + crown, x.play(0, 0, 0), 3 + 2 * crown);
            Check.due("the first word of a row", x.play(2, 1, 0), 5 + crown);
        }
    }

    private static void crownOfManyWords() {
        Check.sentence("the words of the row then (this one, too)");
        RhymeRoofs x = Check.loaded("roof 40;players 4;need 1;bonus 2;crown 99;alike ab;hand 0 a a a a a a a a;"
                + "hand 1 b b b b b b b b;hand 2 a a a a a a a a;hand 3 b b b b b b b b;");
        for (int word = 1; word <= 8; word++) {
            Check.due("word " + word, x.lay(0, 0), word == 1 ? 1 : 3);
        }
        for (int player = 0; player < 4; player++) {
            Check.give(x, player, player % 2 == 0 ? "a" : "b");
            Check.give(x, player, player % 2 == 0 ? "a" : "b");
        }
        for (int word = 9; word <= 39; word++) {
            Check.due("word " + word, x.lay(0, 0), 3);
        }
        Check.due("the 40th word", x.lay(0, 0), 3 + 40 * 99);
        Check.due("words of the row", x.row(0, 2), 40);
    }

    private static void ownerOfARow() {
        Check.sentence("The owner of a row is the player who laid its last word.");
        RhymeRoofs x = Check.loaded("roof 40 40;players 3;need 1;hand 0 a ca;hand 1 ba;hand 2 da;");
        Check.due("without words", x.row(0, 3), -1);
        for (int player = 0; player < 3; player++) {
            x.lay(0, 0);
            Check.due("laid by " + player, x.row(0, 3), player);
            Check.due("rows of " + player, x.player(player, 3), 1);
        }
        Check.due("rows of 1 behind the word of 2", x.player(1, 3), 0);
        x.pass();
        x.pass();
        Check.due("passes do not own", x.row(0, 3), 2);
        Check.due("the other row", x.row(1, 3), -1);
    }

    private static void nextPlayer() {
        Check.sentence("then the next player (behind the last one player 0) is on turn");
        for (int n = 2; n <= 4; n++) {
            RhymeRoofs x = Check.loaded("roof 40;players " + n + ";need 1;hand 0 a ba ca da;hand " + (n - 1)
                    + " bba cca dda eea;");
            for (int turn = 0; turn < 2 * n; turn++) {
                int player = turn % n;
                Check.due("turn " + turn + " of " + n + " players", x.state(5), player);
                if (player == 0 || player == n - 1) {
                    x.lay(0, 0);
                } else {
                    Check.due("pass", x.pass(), player + 1);
                }
            }
        }
        Check.due("a pass of the last player", Check.loaded("roof 9;hand 1 a;").pass(), 1);
        RhymeRoofs y = Check.loaded("roof 9;hand 0 a;hand 1 b;");
        y.lay(0, 0);
        Check.due("a pass of the last player", y.pass(), 0);
    }

    private static void overByPasses() {
        Check.sentence("The game is over as soon as all players passed one after the other");
        for (int n = 2; n <= 4; n++) {
            RhymeRoofs x = Check.loaded("roof 40;players " + n + ";need 1;hand 0 a ba;");
            x.lay(0, 0);
            for (int i = 1; i < n; i++) {
                x.pass();
                Check.due(i + " of " + n + " passed", x.state(6), 0);
                Check.due("passes", x.state(7), i);
            }
            Check.due("the last pass, of player 0", x.pass(), 0);
            Check.due("all of " + n + " passed", x.state(6), 1);
            Check.due("passes", x.state(7), n);
        }
    }

    private static void wordsBetweenPasses() {
        Check.sentence("(without a word laid between)");
        RhymeRoofs x = Check.loaded("roof 40;players 3;need 1;hand 2 a ba;hand 1 aa;");
        x.pass();
        x.pass();
        x.lay(0, 0);
        Check.due("passes behind a word", x.state(7), 0);
        x.pass();
        Check.due("passed by 0 twice, a word between", x.state(6), 0);
        x.pass();
        Check.due("passed by 0 and 1", x.state(6), 0);
        x.pass();
        Check.due("passed by 0, 1 and 2", x.state(6), 1);
    }

    private static void overByEmptyHands() {
        Check.sentence("or all hands are empty behind a word that is laid");
        RhymeRoofs x = Check.loaded("roof 40;players 4;need 1;hand 1 a;hand 3 ba;");
        x.pass();
        x.lay(0, 0);
        Check.due("a hand has a word", x.state(6), 0);
        x.pass();
        x.lay(0, 0);
        Check.due("all hands are empty", x.state(6), 1);
        Check.due("the one who laid last", x.state(5), 3);
        RhymeRoofs y = Check.loaded("roof 1;hand 0 a;hand 1 zz;");
        y.lay(0, 0);
        Check.due("no tile is free, but a hand has a word", y.state(6), 0);
    }

    private static void payOfOwners() {
        Check.sentence("Then each player gets, for each row of which it is the owner and that has free tiles, "
                + "half of the letters of its words");
        RhymeRoofs x = Check.loaded("roof 9 4 5;need 1;bonus 0;crown 0;hand 0 abcd wwww;hand 1 zzzd yyyy q;");
        x.lay(0, 0);
        x.lay(0, 0);
        x.lay(0, 1);
        x.lay(0, 2);
        Check.due("points of 0 before", x.player(0, 2), 8);
        Check.due("points of 1 before", x.player(1, 2), 8);
        x.pass();
        Check.due("points of 1 while the game goes on", x.player(1, 2), 8);
        x.pass();
        Check.due("a full row brings nothing", x.player(0, 2), 8);
        Check.due("all 8 letters, of both players, and 4 of 5 tiles", x.player(1, 2), 8 + 4 + 2);
        RhymeRoofs y = Check.loaded("roof 9 9;bonus 0;crown 0;hand 1 abcd;");
        y.pass();
        Check.due("points for the last word", y.lay(0, 1), 4);
        Check.due("its half", y.player(1, 2), 6);
        Check.due("a row without words brings nothing", y.player(0, 2), 0);
    }

    private static void payIsCutForEachRow() {
        Check.sentence("(cut for each row)");
        RhymeRoofs x = Check.loaded("roof 9 9 9;bonus 0;crown 0;hand 0 a abc abcde;");
        x.lay(0, 0);
        x.pass();
        x.lay(0, 1);
        x.pass();
        x.lay(0, 2);
        Check.due("over", x.state(6), 1);
        Check.due("halves of 1, 3 and 5", x.player(0, 2), 9 + 0 + 1 + 2);
    }

    private static void nothingWhenOver() {
        Check.sentence("Nothing can be laid and nobody can pass then.");
        RhymeRoofs x = Check.loaded("roof 9;hand 0 abc;hand 1 abc;");
        x.pass();
        x.pass();
        long before = x.checksum();
        Check.dueIllegalState("lay", () -> x.lay(0, 0));
        Check.dueIllegalState("pass", x::pass);
        Check.due("why", x.why(0, 0), 1);
        Check.due("best", x.best(), -1);
        Check.due("plays", x.state(10), 0);
        Check.due("auto", x.auto(50), 0);
        Check.due("nothing changed", x.checksum(), before);
        RhymeRoofs y = Check.loaded("roof 9;hand 0 abc;");
        y.lay(0, 0);
        Check.dueIllegalState("pass behind the last word", y::pass);
    }

    private static void emptyFromTheBeginning() {
        Check.sentence("(A game in which all hands are empty from the beginning is not over until all passed.)");
        for (int n = 2; n <= 4; n++) {
            RhymeRoofs x = Check.loaded("roof 9;players " + n + ";");
            for (int i = 0; i < n; i++) {
                Check.due(i + " of " + n + " passed", x.state(6), 0);
                Check.due("steps to the end", x.stepsToEnd(), n - i);
                x.pass();
            }
            Check.due("all of " + n + " passed", x.state(6), 1);
        }
        Check.due("a new object", new RhymeRoofs().state(6), 0);
    }

    private static void firstPlayer() {
        Check.sentence("Player 0 is on turn at first.");
        RhymeRoofs x = new RhymeRoofs();
        Check.due("a new object", x.state(5), 0);
        x.pass();
        Check.load(x, "roof 9;players 4;");
        Check.due("behind a load", x.state(5), 0);
        x.pass();
        x.pass();
        x.pass();
        x.pass();
        Check.load(x, "roof 9;");
        Check.due("behind a load when over", x.state(5), 0);
        Check.due("not over", x.state(6), 0);
        Check.due("no passes", x.state(7), 0);
    }
}
