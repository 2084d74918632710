/** The boundary cases that 'Setup text' and the promises append, load and errorOffset name: a test for each sentence. */
public final class TextBoundsTest {
    private static final int SYNTAX = RhymeRoofs.SYNTAX_ERROR;
    private static final int RANGE = RhymeRoofs.OUT_OF_RANGE;
    private static final int REPEATED = RhymeRoofs.REPEATED;
    private static final int MANY = RhymeRoofs.TOO_MANY;
    private static final int DEEP = RhymeRoofs.TOO_DEEP;

    public static void main(String[] args) {
        textOf600Bytes();
        roofFirst();
        oneRowOrMore();
        signBehindEachStatement();
        oneWordOrMoreInAHand();
        oneNumberInAStatement();
        sums();
        terms();
        factors();
        numbersOfAnyLength();
        wordsAreLetters();
        runsAsLongAsPossible();
        spacesBeforeTokens();
        spacesBetweenNumbers();
        spacesBetweenWords();
        noOtherByte();
        playersInRange();
        playersBehindAHand();
        needInRange();
        bonusInRange();
        crownInRange();
        groupOfLetters();
        playerOfAHand();
        anyWordInAHand();
        numberInARank();
        statementsOnce();
        statementsSeveralTimes();
        parenthesesFourDeep();
        smallestOffset();
        firstKindOfOneOffset();
        tokenNotAllowed();
        endOfTheText();
        secondStatement();
        outOfRangeAtTheFirstDigit();
        wordTooLong();
        repeatedLetter();
        seventhRow();
        ninthWord();
        fifthParenthesis();
        Check.end();
    }

    private static String filled(String start, String piece, int length, String end) {
        StringBuilder text = new StringBuilder(start);
        while (text.length() + piece.length() + end.length() <= length) {
            text.append(piece);
        }
        return text.append(end).toString();
    }

    private static void textOf600Bytes() {
        Check.sentence("The setup text is read from an input buffer of at most 600 bytes.");
        String rank = filled("roof 9; rank 1", "+1", 600, ";");
        Check.due("length of the text", rank.length(), 599);
        Check.dueLoaded(rank + " ", 0);
        Check.dueError(rank + "x", SYNTAX, 599);
        String last = filled("roof 9;", " ", 600, "hand 1 c;");
        Check.due("length of the text", last.length(), 600);
        Check.due("a word at the end of 600 bytes", Check.loaded(last).letter(1, 0, 0), 2);
        Check.dueError(filled("roof 9;", " ", 600, "need 1"), SYNTAX, 600);
        Check.dueError(filled("roof 9;", " ", 600, "?"), SYNTAX, 599);
        Check.due("a rank of 600 bytes", Check.loaded(filled("roof 9;hand 0 a; rank 1", "+1", 600, ";")).play(0, 0, 1), 289);
    }

    private static void roofFirst() {
        Check.sentence("setup = \"roof\" number { number } \";\" { statement \";\" }");
        Check.dueLoaded("roof 1;", 0);
        Check.dueError("", SYNTAX, 0);
        Check.dueError("need 1;roof 1;", SYNTAX, 0);
        Check.dueError("roo 1;", SYNTAX, 0);
        Check.dueError("roofs 1;", SYNTAX, 0);
        Check.dueError("Roof 1;", SYNTAX, 0);
        Check.dueError("roof 1;roof 1;", SYNTAX, 7);
    }

    private static void oneRowOrMore() {
        Check.sentence("\"roof\" number { number }");
        Check.dueError("roof;", SYNTAX, 4);
        Check.dueError("roof ;", SYNTAX, 5);
        Check.due("rows", Check.loaded("roof 1;").state(0), 1);
        Check.due("rows", Check.loaded("roof 1 1 1 1 1 1;").state(0), 6);
    }

    private static void signBehindEachStatement() {
        Check.sentence("{ statement \";\" }");
        for (String statement : new String[] {"players 2", "need 1", "bonus 0", "crown 0", "alike a", "hand 0 a", "rank 1"}) {
            String text = "roof 9;" + statement;
            int words = statement.startsWith("hand") ? 1 : 0;
            Check.dueLoaded(text + ";", words);
            Check.dueError(text, SYNTAX, text.length());
            Check.dueError(text + ",", SYNTAX, text.length());
            Check.dueError(text + ";;", SYNTAX, text.length() + 1);
            Check.dueError(text + ";need", SYNTAX, text.length() + (statement.startsWith("need") ? 1 : 5));
        }
        Check.dueError("roof 9;;", SYNTAX, 7);
        Check.dueError("roof 9,need 1;", SYNTAX, 6);
    }

    private static void oneWordOrMoreInAHand() {
        Check.sentence("\"hand\" number text { text }");
        Check.dueError("roof 9;hand 0;", SYNTAX, 13);
        Check.dueError("roof 9;hand a;", SYNTAX, 12);
        Check.dueError("roof 9;hand;", SYNTAX, 11);
        Check.dueError("roof 9;hand 0 1;", SYNTAX, 14);
        Check.dueError("roof 9;hand 0 a 1;", SYNTAX, 16);
        Check.dueLoaded("roof 9;hand 0 a;", 1);
        Check.dueLoaded("roof 9;hand 0 a b c d e f g h;", 8);
        Check.dueError("roof 9;hand 0 a b c d e f g h;hand 0;", SYNTAX, 36);
    }

    private static void oneNumberInAStatement() {
        Check.sentence("\"players\" number | \"need\" number | \"bonus\" number | \"crown\" number");
        for (String word : new String[] {"players", "need", "bonus", "crown"}) {
            int end = 7 + word.length();
            Check.dueLoaded("roof 9;" + word + " 2;", 0);
            Check.dueError("roof 9;" + word + ";", SYNTAX, end);
            Check.dueError("roof 9;" + word + " a;", SYNTAX, end + 1);
            Check.dueError("roof 9;" + word + " -1;", SYNTAX, end + 1);
            Check.dueError("roof 9;" + word + " 2 2;", SYNTAX, end + 3);
            Check.dueError("roof 9;" + word + " 2 a;", SYNTAX, end + 3);
        }
    }

    private static void sums() {
        Check.sentence("sum = term { ( \"+\" | \"-\" ) term }");
        Check.dueLoaded("roof 9;rank 1;", 0);
        Check.dueLoaded("roof 9;rank 1+2-3+4-5;", 0);
        Check.dueError("roof 9;rank;", SYNTAX, 11);
        Check.dueError("roof 9;rank ;", SYNTAX, 12);
        Check.dueError("roof 9;rank +1;", SYNTAX, 12);
        Check.dueError("roof 9;rank -1;", SYNTAX, 12);
        Check.dueError("roof 9;rank 1+;", SYNTAX, 14);
        Check.dueError("roof 9;rank 1-;", SYNTAX, 14);
        Check.dueError("roof 9;rank 1+-1;", SYNTAX, 14);
        Check.dueError("roof 9;rank 1--1;", SYNTAX, 14);
        Check.dueError("roof 9;rank 1 2;", SYNTAX, 14);
    }

    private static void terms() {
        Check.sentence("term = factor { ( \"*\" | \"/\" ) factor }");
        Check.dueLoaded("roof 9;rank 1*2/3*4/5;", 0);
        Check.dueLoaded("roof 9;rank 1*2+3/4-5;", 0);
        Check.dueError("roof 9;rank *1;", SYNTAX, 12);
        Check.dueError("roof 9;rank /1;", SYNTAX, 12);
        Check.dueError("roof 9;rank 1*;", SYNTAX, 14);
        Check.dueError("roof 9;rank 1/;", SYNTAX, 14);
        Check.dueError("roof 9;rank 1**1;", SYNTAX, 14);
        Check.dueError("roof 9;rank 1*+1;", SYNTAX, 14);
        Check.dueError("roof 9;rank 1%2;", SYNTAX, 13);
    }

    private static void factors() {
        Check.sentence("factor = number | \"points\" | \"letters\" | \"rhyme\" | \"left\" | \"full\" | \"hand\" | \"(\" sum \")\"");
        for (String factor : new String[] {"0", "points", "letters", "rhyme", "left", "full", "hand", "(1)"}) {
            int end = 12 + factor.length();
            Check.dueLoaded("roof 9;rank " + factor + ";", 0);
            Check.dueLoaded("roof 9;rank " + factor + "+" + factor + "-" + factor + "*" + factor + "/" + factor + ";", 0);
            Check.dueError("roof 9;rank " + factor + " 1;", SYNTAX, end + 1);
            Check.dueError("roof 9;rank " + factor + ")", SYNTAX, end);
            Check.dueError("roof 9;rank (" + factor + ";", SYNTAX, end + 1);
        }
        for (String other : new String[] {"x", "need", "row", "Left", "point", "pointss", "xeft", "xull", "xand", "rank"}) {
            Check.dueError("roof 9;rank " + other + ";", SYNTAX, 12);
        }
        Check.dueError("roof 9;rank ();", SYNTAX, 13);
        Check.dueError("roof 9;rank );", SYNTAX, 12);
        Check.dueError("roof 9;rank 1(2);", SYNTAX, 13);
        Check.dueError("roof 9;rank (1)(2);", SYNTAX, 15);
        Check.dueError("roof 9;rank (1+);", SYNTAX, 15);
    }

    private static void numbersOfAnyLength() {
        Check.sentence("A number is a run of decimal digits, of any length (leading zeros do not matter)");
        String zeros = filled("", "0", 300, "");
        Check.due("a number of 302 digits", Check.loaded("roof " + zeros + "40;").row(0, 0), 40);
        Check.due("leading zeros", Check.loaded("roof 007;").row(0, 0), 7);
        Check.due("a number of zeros", Check.loaded("roof 9;bonus " + zeros + ";").state(3), 0);
        Check.due("leading zeros", Check.loaded("roof 9;rank " + zeros + "9999;hand 0 a;").play(0, 0, 1), 9999);
        Check.due("leading zeros", Check.loaded("roof 9;players 004;hand 03 a;").player(3, 0), 1);
        Check.dueError("roof " + zeros + ";", RANGE, 5);
        Check.dueError("roof " + zeros + "41;", RANGE, 5);
        for (String number : new String[] {"256", "257", "65537", "4294967297", "18446744073709551617", "1" + zeros,
            "9" + zeros, "340282366920938463463374607431768211457"}) {
            Check.dueError("roof " + number + ";", RANGE, 5);
            Check.dueError("roof 9;bonus " + number + ";", RANGE, 13);
            Check.dueError("roof 9;hand " + number + " a;", RANGE, 12);
        }
        Check.dueError("roof 9;rank 4294967297;", RANGE, 12);
        Check.dueError("roof 9;rank 100000000000000000000;", RANGE, 12);
    }

    private static void wordsAreLetters() {
        Check.sentence("a word, letters and a text are runs of the letters a to z");
        Check.dueLoaded("roof 9;alike az;hand 0 az za;", 2);
        for (String other : new String[] {"`", "{", "A", "Z", "@", "[", "_", "\u00e1", "\u00fa", "\0"}) {
            Check.dueError("roof 9;hand 0 a" + other + ";", SYNTAX, 15);
            Check.dueError("roof 9;hand 0 " + other + ";", SYNTAX, 14);
            Check.dueError("roof 9;alike a" + other + ";", SYNTAX, 14);
            Check.dueError("roof 9;need" + other + "1;", SYNTAX, 11);
        }
        for (String other : new String[] {"/", ":", "-", ".", "\u00b2", "\u00b9"}) {
            Check.dueError("roof 9" + other + ";", SYNTAX, 6);
            Check.dueError("roof " + other + ";", SYNTAX, 5);
        }
    }

    private static void runsAsLongAsPossible() {
        Check.sentence("Each run is as long as possible.");
        Check.dueError("roofx 9;", SYNTAX, 0);
        Check.dueError("roof 9;needx 1;", SYNTAX, 7);
        Check.dueError("roof 9;alikeab;", SYNTAX, 7);
        Check.dueError("roof 9;rank leftfull;", SYNTAX, 12);
        Check.dueError("roof 9;rankleft;", SYNTAX, 7);
        Check.dueError("roof 9;bonus 10;", RANGE, 13);
        Check.dueError("roof 9;hand 0 abcdabcda;", RANGE, 14);
        Check.due("one row of 12", Check.loaded("roof 12;").row(0, 0), 12);
        Check.due("one word", Check.loaded("roof 9;hand 0 abcd;").state(11), 1);
    }

    private static void spacesBeforeTokens() {
        Check.sentence("Spaces (byte 32) may precede any token and may follow the last one");
        Check.dueLoaded("  roof  9  ;  players  2  ;  hand  0  a  b  ;  ", 2);
        Check.dueLoaded(" roof 9 ; alike  ab ; rank  ( ( 1  +  left ) * 2 ) / full ; ", 0);
        Check.dueLoaded("roof 9;     ", 0);
        Check.dueLoaded("roof9;players3;need1;bonus0;crown0;alike ab;hand0a;rank(left)/2;", 1);
        Check.dueError("r oof 9;", SYNTAX, 0);
        Check.dueError("roof 9;ne ed 1;", SYNTAX, 7);
        Check.dueError("roof 9;need 1 0;", SYNTAX, 14);
        Check.due("the words of a text full of spaces",
                Check.loaded(" roof 9 ; hand 1   cat   dog ; ").letter(1, 1, 2), 'g' - 'a');
    }

    private static void spacesBetweenNumbers() {
        Check.sentence("they are needed between two numbers");
        Check.due("1 2", Check.loaded("roof 1 2;").state(0), 2);
        Check.due("12", Check.loaded("roof 12;").state(0), 1);
        Check.due("1 2 without a space behind roof", Check.loaded("roof1 2;").row(1, 0), 2);
    }

    private static void spacesBetweenWords() {
        Check.sentence("and between two words");
        Check.due("ab cd", Check.loaded("roof 9;hand 0 ab cd;").state(11), 2);
        Check.due("abcd", Check.loaded("roof 9;hand 0 abcd;").state(11), 1);
        Check.due("no space behind a number", Check.loaded("roof 9;hand0ab cd;").state(11), 2);
    }

    private static void noOtherByte() {
        Check.sentence("No other byte separates tokens.");
        for (char other : new char[] {'\t', '\n', '\r', '\0', 11, 12, 31, 33, 127, 128, 160, 255, ',', '.', '_'}) {
            Check.dueError("roof" + other + "9;", SYNTAX, 4);
            Check.dueError("roof 9;" + other, SYNTAX, 7);
            Check.dueError(other + "roof 9;", SYNTAX, 0);
            Check.dueError("roof 9" + other + "9;", SYNTAX, 6);
            Check.dueError("roof 9;hand 0 a" + other + "b;", SYNTAX, 15);
        }
    }

    private static void playersInRange() {
        Check.sentence("Players is 2 to 4 (2 without it)");
        Check.due("without", Check.loaded("roof 9;").state(1), 2);
        Check.due("2", Check.loaded("roof 9;players 2;").state(1), 2);
        Check.due("4", Check.loaded("roof 9;players 4;").state(1), 4);
        Check.dueError("roof 9;players 1;", RANGE, 15);
        Check.dueError("roof 9;players 5;", RANGE, 15);
        Check.dueError("roof 9;players 0;", RANGE, 15);
    }

    private static void playersBehindAHand() {
        Check.sentence("and cannot be told behind a hand");
        Check.dueLoaded("roof 9;rank 1;alike a;need 1;crown 1;bonus 1;players 3;hand 0 a;", 1);
        Check.dueError("roof 9;hand 0 a;players 2;", SYNTAX, 16);
        Check.dueError("roof 9;hand 0 a;need 2;players 2;", SYNTAX, 23);
        Check.dueError("roof 9;players 3;hand 0 a; players 3;", SYNTAX, 27);
        Check.dueError("roof 9;hand 0 a;players 9;", SYNTAX, 16);
    }

    private static void needInRange() {
        Check.sentence("need 1 to 4 (2 without it)");
        Check.due("without", Check.loaded("roof 9;").state(2), 2);
        Check.due("1", Check.loaded("roof 9;need 1;").state(2), 1);
        Check.due("4", Check.loaded("roof 9;need 4;").state(2), 4);
        Check.dueError("roof 9;need 0;", RANGE, 12);
        Check.dueError("roof 9;need 5;", RANGE, 12);
    }

    private static void bonusInRange() {
        Check.sentence("bonus 0 to 9 (1 without it)");
        Check.due("without", Check.loaded("roof 9;").state(3), 1);
        Check.due("0", Check.loaded("roof 9;bonus 0;").state(3), 0);
        Check.due("9", Check.loaded("roof 9;bonus 9;").state(3), 9);
        Check.dueError("roof 9;bonus 10;", RANGE, 13);
    }

    private static void crownInRange() {
        Check.sentence("crown 0 to 99 (5 without it)");
        Check.due("without", Check.loaded("roof 9;").state(4), 5);
        Check.due("0", Check.loaded("roof 9;crown 0;").state(4), 0);
        Check.due("99", Check.loaded("roof 9;crown 99;").state(4), 99);
        Check.dueError("roof 9;crown 100;", RANGE, 13);
    }

    private static void groupOfLetters() {
        Check.sentence("The letters of alike are a group.");
        RhymeRoofs x = Check.loaded("roof 9;alike xyz;alike q;");
        Check.due("x and z", x.alike(23, 25), true);
        Check.due("q and z", x.alike(16, 25), false);
        Check.dueError("roof 9;alike;", SYNTAX, 12);
        Check.dueError("roof 9;alike ab cd;", SYNTAX, 16);
        Check.dueError("roof 9;alike 1;", SYNTAX, 13);
    }

    private static void playerOfAHand() {
        Check.sentence("The number of hand is a player");
        Check.dueError("roof 9;hand 2 a;", RANGE, 12);
        for (int players = 2; players <= 4; players++) {
            String start = "roof 9;players " + players + ";hand ";
            Check.dueLoaded(start + "0 a;", 1);
            Check.dueLoaded(start + (players - 1) + " a;", 1);
            Check.dueError(start + players + " a;", RANGE, 22);
        }
    }

    private static void anyWordInAHand() {
        Check.sentence("the texts (any words, also those of the statements) are words of its hand");
        RhymeRoofs x = Check.loaded("roof 9;hand 0 roof players need bonus crown alike hand rank;"
                + "hand 1 points letters rhyme left full hand;");
        Check.due("words of hand 0", x.player(0, 0), 8);
        Check.due("words of hand 1", x.player(1, 0), 6);
        Check.due("players are still 2", x.state(1), 2);
        Check.due("the word players", x.letter(0, 1, 6), 's' - 'a');
    }

    private static void numberInARank() {
        Check.sentence("A number as a factor is 0 to 9999.");
        Check.due("0", Check.loaded("roof 9;rank 0;hand 0 a;").play(0, 0, 1), 0);
        Check.due("9999", Check.loaded("roof 9;rank 9999;hand 0 a;").play(0, 0, 1), 9999);
        Check.dueError("roof 9;rank 10000;", RANGE, 12);
        Check.dueError("roof 9;rank 1*(2+10000);", RANGE, 17);
    }

    private static void statementsOnce() {
        Check.sentence("The statements players, need, bonus, crown and rank may occur once each");
        Check.dueLoaded("roof 9;rank 1;crown 1;bonus 1;need 1;players 2;", 0);
        for (String word : new String[] {"players", "need", "bonus", "crown", "rank"}) {
            String once = "roof 9;" + word + " 2;";
            Check.dueLoaded(once, 0);
            Check.dueError(once + word + " 2;", SYNTAX, once.length());
            Check.dueError(once + "alike a;" + word + " 2;", SYNTAX, once.length() + 8);
        }
    }

    private static void statementsSeveralTimes() {
        Check.sentence("the others several times");
        Check.dueLoaded("roof 9;alike ab;alike cd;alike e;", 0);
        Check.dueLoaded("roof 9;hand 0 a;hand 0 a;hand 1 a;hand 0 b;", 4);
        RhymeRoofs x = Check.loaded("roof 9;alike a;alike b;alike c;alike d;alike e;alike f;alike g;alike h;alike i;"
                + "alike j;alike k;alike l;alike m;alike n;alike o;alike p;alike q;alike r;alike s;alike t;alike u;"
                + "alike v;alike w;alike x;alike yz;");
        Check.due("y and z", x.alike(24, 25), true);
        Check.due("w and x", x.alike(22, 23), false);
    }

    private static void parenthesesFourDeep() {
        Check.sentence("Parentheses nest at most 4 deep.");
        Check.due("4 deep", Check.loaded("roof 9;rank ((((7))));hand 0 a;").play(0, 0, 1), 7);
        Check.dueLoaded("roof 9;rank ((((1))))+((((2))))*((((3))));", 0);
        Check.dueLoaded("roof 9;rank (1)+((2))+(((3)))+((((4))));", 0);
        Check.dueLoaded("roof 9;rank ((((1)+(2))+(3))+(4))+(5);", 0);
        Check.dueLoaded(filled("roof 9;rank 1", "+(((1)))", 590, ";"), 0);
        Check.dueError("roof 9;rank (((((7)))));", DEEP, 16);
    }

    private static void smallestOffset() {
        Check.sentence("The first error in the text is the one with the smallest offset.");
        Check.dueError("roof 0 1 2 3 4 5 6 x", RANGE, 5);
        Check.dueError("roof 1 2 3 4 5 6 7 0;x", MANY, 17);
        Check.dueError("roof 9;need 9;need 9;", RANGE, 12);
        Check.dueError("roof 9;alike aa;need 9;", REPEATED, 14);
        Check.dueError("roof 9;rank (((((;need 9", DEEP, 16);
        Check.dueError("roof 9;rank (((10000+((", RANGE, 15);
        Check.dueError("roof 9;hand 0 abcdefghi a a a a a a a a ?", RANGE, 14);
        Check.dueError("roof 9;hand 0 a ? abcdefghi", SYNTAX, 16);
        Check.dueError("roof 9;alike;need 9;", SYNTAX, 12);
        Check.dueError("roof 9;hand 0;need 9;", SYNTAX, 13);
        Check.dueError("roof 9;rank;need 9;", SYNTAX, 11);
        Check.dueError("roof 9;rank 1+;need 9;", SYNTAX, 14);
        Check.dueError("roof 9;need;need 9;", SYNTAX, 11);
        Check.dueError("roof;need 9;", SYNTAX, 4);
        Check.dueError("9;need 9;", SYNTAX, 0);
        Check.dueError("roof 41", RANGE, 5);
        Check.dueError("roof 9;alike abA", SYNTAX, 15);
        Check.dueError("roof 9;alike aaA", REPEATED, 14);
    }

    private static void firstKindOfOneOffset() {
        Check.sentence("If several kinds of error have the same offset, the first one in this list counts");
        // SYNTAX_ERROR before OUT_OF_RANGE.
        Check.dueError("roof 9;need 1 99;", SYNTAX, 14);
        Check.dueError("roof 9;rank 1 10000;", SYNTAX, 14);
        Check.dueError("roof 9;alike ab abcdefghi;", SYNTAX, 16);
        // SYNTAX_ERROR before REPEATED.
        Check.dueError("roof 9;alike ab ab;", SYNTAX, 16);
        // SYNTAX_ERROR before TOO_MANY.
        Check.dueError("roof 1 2 3 4 5 6 x;", SYNTAX, 17);
        Check.dueError("roof 9;hand 0 a b c d e f g h 1;", SYNTAX, 30);
        // SYNTAX_ERROR before TOO_DEEP.
        Check.dueError("roof 9;rank ((((1(2", SYNTAX, 17);
        // OUT_OF_RANGE before TOO_MANY.
        Check.dueError("roof 1 2 3 4 5 6 41;", RANGE, 17);
        Check.dueError("roof 1 2 3 4 5 6 0;", RANGE, 17);
        Check.dueError("roof 9;hand 0 a b c d e f g h abcdefghi;", RANGE, 30);
    }

    private static void tokenNotAllowed() {
        Check.sentence("a token or byte that the grammar does not allow here, at its first byte");
        Check.dueError("  xyz 9;", SYNTAX, 2);
        Check.dueError("roof   abc;", SYNTAX, 7);
        Check.dueError("roof 9   abc;", SYNTAX, 9);
        Check.dueError("roof 9;   123;", SYNTAX, 10);
        Check.dueError("roof 9;   xyz 1;", SYNTAX, 10);
        Check.dueError("roof 9;need   abc;", SYNTAX, 14);
        Check.dueError("roof 9;need 1   234;", SYNTAX, 16);
        Check.dueError("roof 9;alike   12;", SYNTAX, 15);
        Check.dueError("roof 9;rank   xyz;", SYNTAX, 14);
        Check.dueError("roof 9;rank 1   left;", SYNTAX, 16);
        Check.dueError("roof 9;rank (1   left);", SYNTAX, 17);
        Check.dueError("roof 9;hand 0 a   ?", SYNTAX, 18);
        Check.dueError("roof 9;\u00ff", SYNTAX, 7);
    }

    private static void endOfTheText() {
        Check.sentence("the end of the text, at its length, if the text ends too early");
        String[] early = {"", " ", "   ", "roof", "roof ", "roof 9", "roof 9  ", "roof 9 9", "roof 9;need", "roof 9;need ",
            "roof 9;need 1", "roof 9;need 1 ", "roof 9;players 2", "roof 9;bonus", "roof 9;crown 12", "roof 9;alike",
            "roof 9;alike ", "roof 9;alike ab", "roof 9;hand", "roof 9;hand ", "roof 9;hand 1", "roof 9;hand 1 ",
            "roof 9;hand 1 abc", "roof 9;hand 1 abc  ", "roof 9;rank", "roof 9;rank ", "roof 9;rank left",
            "roof 9;rank left ", "roof 9;rank left+", "roof 9;rank left* ", "roof 9;rank (", "roof 9;rank (1",
            "roof 9;rank (1 ", "roof 9;rank (1)", "roof 9;rank (1)  "};
        for (String text : early) {
            Check.dueError(text, SYNTAX, text.length());
        }
        Check.dueError("roof 9;nee", SYNTAX, 7);
        Check.dueError("roof 9;rank lef", SYNTAX, 12);
        Check.dueError("roo", SYNTAX, 0);
    }

    private static void secondStatement() {
        Check.sentence("a second players, need, bonus, crown or rank, and a players behind a hand, at its first letter");
        Check.dueError("roof 9;players 2;  players 2;", SYNTAX, 19);
        Check.dueError("roof 9;need 2;  need", SYNTAX, 16);
        Check.dueError("roof 9;bonus 2;  bonus 10;", SYNTAX, 17);
        Check.dueError("roof 9;crown 2;  crown ?;", SYNTAX, 17);
        Check.dueError("roof 9;rank 2;  rank x;", SYNTAX, 16);
        Check.dueError("roof 9;hand 0 a;  players 2;", SYNTAX, 18);
    }

    private static void outOfRangeAtTheFirstDigit() {
        Check.sentence("a number outside its range, at its first digit");
        Check.dueError("roof   00041;", RANGE, 7);
        Check.dueError("roof 9   123456789;", RANGE, 9);
        Check.dueError("roof 9;players   0001;", RANGE, 17);
        Check.dueError("roof 9;need 000005;", RANGE, 12);
        Check.dueError("roof 9;bonus010;", RANGE, 12);
        Check.dueError("roof 9;crown   0100;", RANGE, 15);
        Check.dueError("roof 9;hand   02 a;", RANGE, 14);
        Check.dueError("roof 9;rank 1+   010000;", RANGE, 17);
    }

    private static void wordTooLong() {
        Check.sentence("a word of a hand with more than 8 letters, at its first letter");
        Check.dueLoaded("roof 9;hand 0 abcdefgh;", 1);
        Check.dueError("roof 9;hand 0   abcdefghi;", RANGE, 16);
        Check.dueError("roof 9;hand 0 abc  abcdefghijklmnopqrstuvwxyz", RANGE, 19);
        Check.dueError(filled("roof 9;hand 0 ", "a", 600, ""), RANGE, 14);
        Check.dueLoaded("roof 9;alike abcdefghijk;", 0);
    }

    private static void repeatedLetter() {
        Check.sentence("a letter of alike that is in a group already, or is told twice in this one, at this letter");
        Check.dueError("roof 9;alike aa;", REPEATED, 14);
        Check.dueError("roof 9;alike abcda;", REPEATED, 17);
        Check.dueError("roof 9;alike zxz", REPEATED, 15);
        Check.dueError("roof 9;alike abc;alike dec;", REPEATED, 25);
        Check.dueError("roof 9;alike a;alike  a;", REPEATED, 22);
        Check.dueError("roof 9;alike abcdefghijklmnopqrstuvwxyza;", REPEATED, 39);
        Check.dueError("roof 9;alike letters;", REPEATED, 16);
        Check.dueLoaded("roof 9;hand 0 aa aa;alike a;", 2);
    }

    private static void seventhRow() {
        Check.sentence("a 7th row, at its first digit");
        Check.dueLoaded("roof 1 2 3 4 5 6;", 0);
        Check.dueError("roof 1 2 3 4 5 6  007;", MANY, 18);
        Check.dueError("roof 1 2 3 4 5 6 7", MANY, 17);
    }

    private static void ninthWord() {
        Check.sentence("a 9th word of a hand, at its first letter");
        Check.dueError("roof 9;hand 1 a b c d e f g h   ijk;", MANY, 32);
        Check.dueError("roof 9;hand 1 a b c d e f g;hand 0 a;hand 1 h i;", MANY, 46);
        Check.dueError("roof 9;hand 0 a b c d e f g h;hand 1 a;hand 0 i;", MANY, 46);
        Check.dueLoaded("roof 9;hand 0 a b c d e f g h;hand 1 a b c d e f g h;", 16);
    }

    private static void fifthParenthesis() {
        Check.sentence("an opening parenthesis inside 4 others, at that parenthesis");
        Check.dueError("roof 9;rank ( ( ( (  (", DEEP, 21);
        Check.dueError("roof 9;rank (((1+(2*(3", DEEP, 20);
        Check.dueError("roof 9;rank ((((1))))-(((1)/((2+(", DEEP, 32);
        Check.dueError("roof 9;rank ((((((((((", DEEP, 16);
    }
}
