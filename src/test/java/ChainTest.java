/** Promises 15 to 18: chains of a player for a row, and threats. */
public final class ChainTest {
    public static void main(String[] args) {
        noChain();
        chainsOfRhymes();
        mostPointsNeedNotBeLongest();
        crownOfTheWordThatFills();
        chainsGoOnFromTheRow();
        sameWordsInChains();
        fillingsAreSequencesOfPlaces();
        fullRows();
        everyOrderOfEightWords();
        chainsOfAnyPlayerAtAnyTime();
        threatsOfPlayers();
        playersAreSearchedApart();
        exceptions();
        Check.end();
    }

    private static void dueChains(String name, RhymeRoofs x, int player, int row, int... want) {
        Check.due(name + ": chain", x.chain(player, row), want[0]);
        Check.due(name + ": worth", x.worth(player, row), want[1]);
        Check.due(name + ": fillings", x.fillings(player, row), want[2]);
    }

    private static void noChain() {
        RhymeRoofs x = Check.loaded("roof 2 9;hand 0 abc;");
        dueChains("word too long", x, 0, 0, 0, 0, 0);
        dueChains("empty hand", x, 1, 1, 0, 0, 0);
        dueChains("one word", x, 0, 1, 1, 3, 0);
    }

    private static void chainsOfRhymes() {
        RhymeRoofs x = Check.loaded("roof 40 7;need 2;bonus 1;crown 5;hand 0 cat dog flat frog mat;");
        // cat, flat and mat in any order: 3 + 4 + 3 letters, a rhyme of 2 two times.
        dueChains("three rhyme", x, 0, 0, 3, 14, 0);
        // cat flat, flat cat, mat flat, flat mat, dog frog, frog dog: 7 letters, a rhyme of 2, a crown for 2 words.
        dueChains("two fill", x, 0, 1, 2, 19, 6);
        RhymeRoofs y = Check.loaded("roof 40;need 3;bonus 1;hand 0 cat dog flat frog mat;");
        dueChains("need 3", y, 0, 0, 1, 4, 0);
        RhymeRoofs z = Check.loaded("roof 40;need 1;bonus 0;alike tg;hand 0 cat dog flat frog mat;");
        dueChains("alike", z, 0, 0, 5, 17, 0);
    }

    private static void mostPointsNeedNotBeLongest() {
        RhymeRoofs x = Check.loaded("roof 8;need 1;bonus 0;crown 0;hand 0 za ya xa abcdefgh;");
        dueChains("one long word", x, 0, 0, 3, 8, 1);
        RhymeRoofs y = Check.loaded("roof 8;need 1;bonus 9;crown 0;hand 0 za ya xa abcdefgh;");
        dueChains("three short words", y, 0, 0, 3, 6 + 18, 1);
    }

    private static void crownOfTheWordThatFills() {
        RhymeRoofs x = Check.loaded("roof 6;need 1;bonus 0;crown 99;hand 0 za ya xa bcdefa;");
        dueChains("crown for 3 words", x, 0, 0, 3, 6 + 3 * 99, 7);
        RhymeRoofs y = Check.loaded("roof 7;need 1;bonus 0;crown 99;hand 0 za ya xa wwwwa;");
        dueChains("crown for 2 words", y, 0, 0, 3, 7 + 2 * 99, 6);
    }

    private static void chainsGoOnFromTheRow() {
        RhymeRoofs x = Check.loaded("roof 8;need 2;bonus 2;crown 10;hand 0 cat;hand 1 hat at dog bog;");
        x.lay(0, 0);
        // hat (3 + 2 * 2), then at (2 + 2 * 2 + 10 * 3).
        dueChains("hat and at, in both orders", x, 1, 0, 2, 7 + 36, 2);
        x.lay(0, 0);
        x.pass();
        dueChains("at only", x, 1, 0, 1, 36, 1);
        RhymeRoofs y = Check.loaded("roof 8;need 2;hand 0 cat;hand 1 dog bog;");
        y.lay(0, 0);
        dueChains("none rhymes with the row", y, 1, 0, 0, 0, 0);
    }

    private static void sameWordsInChains() {
        RhymeRoofs x = Check.loaded("roof 9;need 2;bonus 1;crown 5;hand 0 cat cat hat;");
        // Only cat hat cat, by two places, in two orders.
        dueChains("the same word never behind itself", x, 0, 0, 3, 9 + 4 + 15, 2);
        RhymeRoofs y = Check.loaded("roof 6;need 2;hand 0 cat cat;hand 1 cat;");
        dueChains("two same words", y, 0, 0, 1, 3, 0);
        y.lay(0, 0);
        dueChains("the same word as the row's", y, 1, 0, 0, 0, 0);
    }

    private static void fillingsAreSequencesOfPlaces() {
        RhymeRoofs x = Check.loaded("roof 3;need 1;hand 0 abc abc abc ab a;");
        Check.due("one word, three places", x.fillings(0, 0), 3);
        RhymeRoofs y = Check.loaded("roof 4;need 1;hand 0 za ya za a aa aaaa;");
        // aaaa; aa and each of the three; za ya both ways, ya za both ways; a with none of 3 letters.
        Check.due("words of four letters in all", y.fillings(0, 0), 1 + 6 + 4);
    }

    private static void fullRows() {
        RhymeRoofs x = Check.loaded("roof 3;hand 0 cat at;hand 1 hat;");
        x.lay(0, 0);
        dueChains("full row, player 0", x, 0, 0, 0, 0, 1);
        dueChains("full row, player 1", x, 1, 0, 0, 0, 1);
        Check.due("full row: threats", x.threats(0), 0);
    }

    private static void everyOrderOfEightWords() {
        RhymeRoofs x = Check.loaded("roof 16 15 40;need 1;bonus 9;crown 99;hand 1 ax bx cx dx ex fx gx hx;");
        dueChains("eight words fill", x, 1, 0, 8, 16 + 7 * 9 + 8 * 99, 40320);
        dueChains("no filling", x, 1, 1, 7, 14 + 6 * 9, 0);
        dueChains("eight words on a long row", x, 1, 2, 8, 16 + 7 * 9, 0);
        RhymeRoofs y = Check.loaded("roof 6;need 4;bonus 9;crown 99;hand 1 ax bx cx dx ex fx gx hx;");
        dueChains("need 4", y, 1, 0, 1, 2, 0);
    }

    private static void chainsOfAnyPlayerAtAnyTime() {
        RhymeRoofs x = Check.loaded("roof 7;players 3;hand 0 cat;hand 2 flat hat;");
        dueChains("not on turn", x, 2, 0, 2, 7 + 2 + 10, 2);
        x.pass();
        x.pass();
        x.pass();
        Check.due("over", x.state(6), 1);
        dueChains("over", x, 2, 0, 2, 7 + 2 + 10, 2);
        Check.due("over: chain of the other", x.chain(0, 0), 1);
    }

    private static void threatsOfPlayers() {
        RhymeRoofs x = Check.loaded("roof 6 3;players 4;hand 0 cat hat;hand 1 cat dog at;hand 2 dog mat;hand 3 bat;");
        Check.due("threats on a row without words", x.threats(1), 15);
        Check.due("no threat", x.threats(0), 0);
        x.lay(0, 0);
        Check.due("all but the same word and no rhyme", x.threats(0), 1 + 4 + 8);
        x.pass();
        x.pass();
        x.pass();
        x.pass();
        Check.due("over", x.state(6), 1);
        Check.due("threats when over", x.threats(0), 13);
    }

    private static void playersAreSearchedApart() {
        RhymeRoofs x = Check.loaded("roof 3 6;need 2;hand 0 cat hat;hand 1 frog;");
        Check.due("fillings of 0", x.fillings(0, 0), 2);
        Check.due("fillings of 1", x.fillings(1, 0), 0);
        Check.due("worth of 0", x.worth(0, 1), 3 + 5 + 10);
        Check.due("worth of 1", x.worth(1, 1), 4);
        Check.due("chain of 0", x.chain(0, 1), 2);
        Check.due("chain of 1", x.chain(1, 0), 0);
        Check.due("fillings of 0 again", x.fillings(0, 1), 2);
    }

    private static void exceptions() {
        RhymeRoofs x = Check.loaded("roof 6 3;players 3;hand 0 cat;");
        int[][] bad = {{-1, 0}, {3, 0}, {0, -1}, {0, 2}, {Integer.MIN_VALUE, 0}, {0, Integer.MAX_VALUE}, {9, 9}};
        for (int[] b : bad) {
            String of = "(" + b[0] + ", " + b[1] + ")";
            Check.dueOutOfBounds("chain" + of, () -> x.chain(b[0], b[1]));
            Check.dueOutOfBounds("worth" + of, () -> x.worth(b[0], b[1]));
            Check.dueOutOfBounds("fillings" + of, () -> x.fillings(b[0], b[1]));
        }
        Check.dueOutOfBounds("threats(-1)", () -> x.threats(-1));
        Check.dueOutOfBounds("threats(2)", () -> x.threats(2));
        Check.due("threats(1)", x.threats(1), 1);
    }
}
