/** The boundary cases that 'Chains' and the promises 15 to 18 name: a test for each sentence. */
public final class ChainBoundsTest {
    public static void main(String[] args) {
        oneWordOrMore();
        differentPlaces();
        oneBehindTheOther();
        byThisPlayerAlone();
        rowAsItIsNow();
        whoeverIsOnTurn();
        whenOver();
        noFreeTileBehindIt();
        longestChain();
        noLongestChain();
        mostPoints();
        pointsOfEachWord();
        noPoints();
        numberOfFillings();
        fillingsByPlaces();
        fillingsByOrder();
        fillingsOfAFullRow();
        threatsAsASum();
        threatsFill();
        threatsCanBeLaid();
        threatsWhenOver();
        searchesChangeNothing();
        Check.end();
    }

    private static void dueChains(String name, RhymeRoofs x, int player, int row, int words, int points, int fillings) {
        Check.due(name + ": chain", x.chain(player, row), words);
        Check.due(name + ": worth", x.worth(player, row), points);
        Check.due(name + ": fillings", x.fillings(player, row), fillings);
    }

    private static void oneWordOrMore() {
        Check.sentence("A chain of a player for a row is a sequence of one word or more of the hand");
        RhymeRoofs x = Check.loaded("roof 9 3;crown 4;hand 0 cat;");
        dueChains("no word", x, 1, 0, 0, 0, 0);
        dueChains("one word", x, 0, 0, 1, 3, 0);
        dueChains("one word that fills", x, 0, 1, 1, 7, 1);
        RhymeRoofs y = Check.loaded("roof 40;need 1;bonus 1;hand 0 ab bb cb db eb fb gb hb;");
        dueChains("all 8 words", y, 0, 0, 8, 16 + 7, 0);
    }

    private static void differentPlaces() {
        Check.sentence("(different places)");
        RhymeRoofs x = Check.loaded("roof 40;need 1;bonus 0;hand 0 ab bb;");
        dueChains("each word once", x, 0, 0, 2, 4, 0);
        RhymeRoofs y = Check.loaded("roof 40;need 1;bonus 0;hand 0 ab bb ab bb;");
        dueChains("the same words at two places each", y, 0, 0, 4, 8, 0);
        RhymeRoofs z = Check.loaded("roof 4;need 1;bonus 0;crown 0;hand 0 ab bb;");
        dueChains("only ab bb and bb ab fill", z, 0, 0, 2, 4, 2);
    }

    private static void oneBehindTheOther() {
        Check.sentence("that could be laid on the row one behind the other");
        RhymeRoofs x = Check.loaded("roof 9;need 2;bonus 1;crown 5;hand 0 cat dog hat;");
        dueChains("cat hat, hat cat, but not cat dog hat", x, 0, 0, 2, 6 + 2, 0);
        RhymeRoofs y = Check.loaded("roof 9;need 4;hand 0 cat hat;");
        dueChains("the need is too great", y, 0, 0, 1, 3, 0);
        RhymeRoofs z = Check.loaded("roof 9;need 1;hand 0 cat cat cat;");
        dueChains("the same word never behind itself", z, 0, 0, 1, 3, 0);
        RhymeRoofs w = Check.loaded("roof 8;need 1;bonus 0;crown 0;hand 0 abcd bbbd cccd;");
        dueChains("a third does not fit", w, 0, 0, 2, 8, 6);
        RhymeRoofs v = Check.loaded("roof 7;need 1;bonus 0;crown 0;hand 0 abcd bbbd cccd;");
        dueChains("a second does not fit", v, 0, 0, 1, 4, 0);
        RhymeRoofs u = Check.loaded("roof 9;need 3;bonus 0;alike abc;hand 0 aaa bbb ccc;");
        dueChains("alike words are not the same", u, 0, 0, 3, 9 + 15, 6);
    }

    private static void byThisPlayerAlone() {
        Check.sentence("by this player alone");
        RhymeRoofs x = Check.loaded("roof 40;need 2;bonus 0;hand 0 cat;hand 1 hat bat;");
        dueChains("player 0", x, 0, 0, 1, 3, 0);
        dueChains("player 1", x, 1, 0, 2, 6, 0);
    }

    private static void rowAsItIsNow() {
        Check.sentence("as the row is now");
        RhymeRoofs x = Check.loaded("roof 9 9;need 2;bonus 1;crown 10;hand 0 cat hat bat;hand 1 at;");
        dueChains("without words", x, 0, 0, 3, 9 + 4 + 30, 6);
        x.lay(0, 0);
        dueChains("behind cat", x, 0, 0, 2, 6 + 4 + 30, 2);
        dueChains("the other row", x, 0, 1, 2, 6 + 2, 0);
        x.lay(0, 0);
        dueChains("4 free tiles", x, 0, 0, 1, 5, 0);
    }

    private static void whoeverIsOnTurn() {
        Check.sentence("(whoever is on turn, also when the game is over)");
        RhymeRoofs x = Check.loaded("roof 7;need 2;bonus 1;crown 5;players 3;hand 2 flat cat;");
        for (int turn = 0; turn < 3; turn++) {
            Check.due("turn", x.state(5), turn);
            dueChains("player 2, turn of " + turn, x, 2, 0, 2, 7 + 2 + 10, 2);
            dueChains("player 1, turn of " + turn, x, 1, 0, 0, 0, 0);
            x.pass();
        }
    }

    private static void whenOver() {
        Check.sentence("also when the game is over");
        RhymeRoofs x = Check.loaded("roof 7;need 2;bonus 1;crown 5;hand 0 flat cat;hand 1 flat;");
        x.pass();
        x.pass();
        Check.due("over", x.state(6), 1);
        dueChains("player 0, over", x, 0, 0, 2, 7 + 2 + 10, 2);
        dueChains("player 1, over", x, 1, 0, 1, 4, 0);
    }

    private static void noFreeTileBehindIt() {
        Check.sentence("It fills the row if no tile is free behind it.");
        for (int tiles = 1; tiles <= 8; tiles++) {
            RhymeRoofs x = Check.loaded("roof " + tiles + ";need 1;hand 0 abc xc;");
            int want = tiles == 2 || tiles == 3 ? 1 : tiles == 5 ? 2 : 0;
            Check.due("fillings of " + tiles + " tiles", x.fillings(0, 0), want);
        }
    }

    private static void longestChain() {
        Check.sentence("Returns the words of the longest chain (of the one with the most words)");
        RhymeRoofs x = Check.loaded("roof 8;need 1;bonus 0;crown 0;hand 0 abcdefgh xh yh;");
        Check.due("two words of 4 letters, not one of 8", x.chain(0, 0), 2);
        Check.due("but the one is worth more", x.worth(0, 0), 8);
        RhymeRoofs y = Check.loaded("roof 40;need 2;hand 0 ab xab yab cd xcd;");
        Check.due("three of ab, two of cd", y.chain(0, 0), 3);
        RhymeRoofs z = Check.loaded("roof 40;need 1;hand 0 ha hb hc hd he hf hg hh;");
        Check.due("one of 8 without rhymes", z.chain(0, 0), 1);
    }

    private static void noLongestChain() {
        Check.sentence("the longest chain (of the one with the most words) of the player for the row; 0 if there is none");
        Check.due("an empty hand", new RhymeRoofs().chain(0, 0), 0);
        Check.due("too long", Check.loaded("roof 2;hand 0 cat dog;").chain(0, 0), 0);
        RhymeRoofs x = Check.loaded("roof 9 3;hand 0 cat cat cat;hand 1 dog cat;");
        x.lay(0, 0);
        Check.due("no rhyme, and the same word", x.chain(1, 0), 0);
        x.pass();
        x.lay(0, 1);
        Check.due("a full row", x.chain(1, 1), 0);
    }

    private static void mostPoints() {
        Check.sentence("Returns the most points that a chain of the player for the row would bring");
        RhymeRoofs x = Check.loaded("roof 8;need 1;bonus 9;crown 0;hand 0 abcdefgh xh yh;");
        Check.due("two words with a rhyme", x.worth(0, 0), 4 + 9);
        RhymeRoofs y = Check.loaded("roof 8;need 1;bonus 9;crown 99;hand 0 abcdefgh xh yh;");
        Check.due("one word that fills", y.worth(0, 0), 8 + 99);
        RhymeRoofs z = Check.loaded("roof 40;need 1;bonus 1;crown 0;alike ab;hand 0 a xb bbbb abbb;");
        Check.due("the best order: xb a, with abbb bbbb apart", z.worth(0, 0), 1 + 2 + 8 + 1 + 1 + 4);
    }

    private static void pointsOfEachWord() {
        Check.sentence("each word by itself");
        RhymeRoofs x = Check.loaded("roof 8;need 2;bonus 2;crown 10;hand 0 at;hand 1 cat hat;");
        x.lay(0, 0);
        // The first word: 3 + 2 * 2; the second: 3 + 2 * 2 and the crown for three words, once.
        Check.due("the crown for the word that fills", x.worth(1, 0), 7 + 7 + 30);
    }

    private static void noPoints() {
        Check.sentence("each word by itself; 0 if there is none");
        Check.due("an empty hand", new RhymeRoofs().worth(1, 0), 0);
        Check.due("too long", Check.loaded("roof 2;hand 0 cat dog;").worth(0, 0), 0);
        RhymeRoofs x = Check.loaded("roof 9 3;hand 0 cat cat cat;hand 1 dog cat;");
        x.lay(0, 0);
        Check.due("no rhyme, and the same word", x.worth(1, 0), 0);
        x.pass();
        x.lay(0, 1);
        Check.due("a full row", x.worth(1, 1), 0);
    }

    private static void numberOfFillings() {
        Check.sentence("Returns how many chains of the player fill the row");
        RhymeRoofs x = Check.loaded("roof 16 15;need 1;hand 0 ax bx cx dx ex fx gx hx;");
        Check.due("all orders of 8", x.fillings(0, 0), 40320);
        Check.due("15 tiles", x.fillings(0, 1), 0);
        RhymeRoofs y = Check.loaded("roof 8 1 2;need 1;hand 0 aax bx cx dx ex fx gx hx;");
        Check.due("4 of 7", y.fillings(0, 0), 7 * 6 * 5 * 4);
        Check.due("none of 1 letter", y.fillings(0, 1), 0);
        Check.due("7 of 2 letters", y.fillings(0, 2), 7);
    }

    private static void fillingsByPlaces() {
        Check.sentence("(they are different if the places of their words are, in their order)");
        RhymeRoofs x = Check.loaded("roof 3;hand 0 cat cat cat;");
        Check.due("the same word at 3 places", x.fillings(0, 0), 3);
        RhymeRoofs y = Check.loaded("roof 6;need 2;hand 0 cat hat cat;");
        Check.due("cat hat, hat cat, by two places", y.fillings(0, 0), 4);
    }

    private static void fillingsByOrder() {
        Check.sentence("in their order");
        RhymeRoofs x = Check.loaded("roof 6;need 2;hand 0 cat hat;");
        Check.due("both orders", x.fillings(0, 0), 2);
        RhymeRoofs y = Check.loaded("roof 5;need 1;hand 0 xc;hand 1 yc d;");
        y.lay(0, 0);
        Check.due("no order", y.fillings(1, 0), 0);
    }

    private static void fillingsOfAFullRow() {
        Check.sentence("1 if no tile is free");
        RhymeRoofs x = Check.loaded("roof 3 3;players 3;hand 0 cat;hand 1 cat hat t;");
        x.lay(0, 0);
        for (int player = 0; player < 3; player++) {
            Check.due("full, player " + player, x.fillings(player, 0), 1);
        }
        Check.due("the other row, empty hand", x.fillings(0, 1), 0);
        Check.due("the other row", x.fillings(1, 1), 2);
        x.pass();
        x.pass();
        x.pass();
        Check.due("full, over", x.fillings(1, 0), 1);
    }

    private static void threatsAsASum() {
        Check.sentence("Returns the set of the players (as the sum of 2^p over the players p)");
        for (int set = 0; set < 16; set++) {
            StringBuilder setup = new StringBuilder("roof 3;players 4;");
            for (int p = 0; p < 4; p++) {
                setup.append("hand ").append(p).append((set >> p & 1) == 1 ? " at cat;" : " at;");
            }
            Check.due("threats of " + set, Check.loaded(setup.toString()).threats(0), set);
        }
        Check.due("two words of one player", Check.loaded("roof 3;hand 1 cat dog;").threats(0), 2);
        Check.due("empty hands", new RhymeRoofs().threats(0), 0);
    }

    private static void threatsFill() {
        Check.sentence("who have a word that could be laid on the row and would fill it");
        for (int tiles = 1; tiles <= 4; tiles++) {
            RhymeRoofs x = Check.loaded("roof " + tiles + ";hand 0 cat;hand 1 at;");
            Check.due("threats on " + tiles + " tiles", x.threats(0), tiles == 3 ? 1 : tiles == 2 ? 2 : 0);
        }
        RhymeRoofs y = Check.loaded("roof 4;need 1;hand 0 at it;");
        Check.due("two words that would fill it together", y.threats(0), 0);
        RhymeRoofs z = Check.loaded("roof 3;hand 0 cat;hand 1 cat;");
        z.lay(0, 0);
        Check.due("a full row", z.threats(0), 0);
    }

    private static void threatsCanBeLaid() {
        Check.sentence("a word that could be laid on the row");
        RhymeRoofs x = Check.loaded("roof 6 3;players 4;need 2;hand 0 cat hat;hand 1 cat;hand 2 dog;hand 3 tat;");
        Check.due("a row without words", x.threats(1), 15);
        x.lay(0, 0);
        Check.due("not the same word, not without a rhyme", x.threats(0), 1 + 8);
    }

    private static void threatsWhenOver() {
        Check.sentence("if they were on turn (also when the game is over)");
        RhymeRoofs x = Check.loaded("roof 3;players 3;hand 1 cat;hand 2 dog;");
        for (int turn = 0; turn < 3; turn++) {
            Check.due("turn of " + turn, x.threats(0), 6);
            x.pass();
        }
        Check.due("over", x.state(6), 1);
        Check.due("threats when over", x.threats(0), 6);
    }

    private static void searchesChangeNothing() {
        Check.sentence("Nothing is promised beyond the answers and state changes described above");
        RhymeRoofs x = Check.loaded("roof 6 9;need 2;hand 0 cat hat bat;hand 1 flat;");
        x.lay(0, 1);
        long before = x.checksum();
        for (int row = 0; row < 2; row++) {
            for (int player = 0; player < 2; player++) {
                x.chain(player, row);
                x.worth(player, row);
                x.fillings(player, row);
            }
            x.threats(row);
        }
        Check.due("checksum behind searches", x.checksum(), before);
        dueChains("asked again", x, 0, 1, 2, 6 + 4 + 15, 2);
    }
}
