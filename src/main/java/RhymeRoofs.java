import java.util.Arrays;
import java.util.NoSuchElementException;

/** A word game on the rows of a roof. What each call does is said in the document, by its promises. */
public final class RhymeRoofs {
    public static final int SYNTAX_ERROR = -2;
    public static final int OUT_OF_RANGE = -3;
    public static final int REPEATED = -4;
    public static final int TOO_MANY = -5;
    public static final int TOO_DEEP = -6;

    private static final int MAX_ROWS = 6;
    private static final int MAX_TILES = 40;
    private static final int MAX_PLAYERS = 4;
    private static final int MAX_HAND = 8;
    private static final int MAX_LETTERS = 8;
    private static final int MAX_BYTES = 600;
    private static final int MAX_AUTO = 50;
    private static final int MAX_UNDO = 8;
    private static final int BYTES_APPENDED = 20;
    private static final int ALPHABET = 26;
    private static final int STATE_NUMBERS = 12;
    private static final int ROW_NUMBERS = 4;
    private static final int PLAYER_NUMBERS = 4;

    // A game ends after far fewer steps: each word is laid once, and no player passes twice between two words.
    private static final int STEPS_WITHOUT_LIMIT = 1000000;

    private final int[] buffer = new int[MAX_BYTES];
    private int bufferLength = 0;
    private int offsetOfError = -1;
    private final Game game = new Game();
    // The game as it would go on; the game itself stays as it is when it is asked how it would end.
    private final Game future = new Game();
    private final History history = new History();
    private final SetupReader reader = new SetupReader();
    private final Chains chains = new Chains();

    public RhymeRoofs() {
    }

    public int append(int w0, int w1, int w2, int w3, int w4) {
        if (bufferLength + BYTES_APPENDED > MAX_BYTES) {
            return -1;
        }
        appendBytes(w0);
        appendBytes(w1);
        appendBytes(w2);
        appendBytes(w3);
        appendBytes(w4);
        return bufferLength;
    }

    public int load(int length) throws IllegalArgumentException {
        if (length < 0 || length > bufferLength) {
            throw new IllegalArgumentException("the buffer has not so many bytes");
        }
        int error = reader.read(buffer, length);
        bufferLength = 0;
        offsetOfError = reader.errorAt;
        if (error != 0) {
            return error;
        }
        history.keep(game);
        game.copyFrom(reader.game);
        return game.wordsOfHands();
    }

    public int errorOffset() {
        return offsetOfError;
    }

    public int state(int what) throws IllegalArgumentException {
        if (what < 0 || what >= STATE_NUMBERS) {
            throw new IllegalArgumentException("no such number of the state");
        }
        return game.stateNumber(what);
    }

    public int row(int row, int what) throws IndexOutOfBoundsException, IllegalArgumentException {
        checkRow(row);
        if (what < 0 || what >= ROW_NUMBERS) {
            throw new IllegalArgumentException("no such number of a row");
        }
        return game.rowNumber(row, what);
    }

    public int tile(int row, int tile) throws IndexOutOfBoundsException, NoSuchElementException {
        checkRow(row);
        if (tile < 0 || tile >= game.rules.tiles[row]) {
            throw new NoSuchElementException("no such tile");
        }
        return game.letterOnTile(row, tile);
    }

    public int player(int player, int what) throws IndexOutOfBoundsException, IllegalArgumentException {
        checkPlayer(player);
        if (what < 0 || what >= PLAYER_NUMBERS) {
            throw new IllegalArgumentException("no such number of a player");
        }
        return game.playerNumber(player, what);
    }

    public int letter(int player, int place, int k) throws IndexOutOfBoundsException, NoSuchElementException {
        checkPlayer(player);
        checkPlace(player, place);
        long word = game.wordOf(player, place);
        if (k < 0 || k >= Words.length(word)) {
            throw new NoSuchElementException("the word has not so many letters");
        }
        return Words.letterAt(word, k);
    }

    public boolean alike(int a, int b) throws IllegalArgumentException {
        if (a < 0 || a >= ALPHABET || b < 0 || b >= ALPHABET) {
            throw new IllegalArgumentException("not a letter");
        }
        return game.rules.groups[a + 1] == game.rules.groups[b + 1];
    }

    public int rhyme(int player, int place, int row) throws IndexOutOfBoundsException {
        checkPlayer(player);
        checkPlace(player, place);
        checkRow(row);
        if (game.wordsOn[row] == 0) {
            return -1;
        }
        return game.rules.rhymeOf(game.wordOf(player, place), game.lastOn[row]);
    }

    public int why(int place, int row) throws IndexOutOfBoundsException {
        checkPlace(game.turn, place);
        checkRow(row);
        return game.obstacleNow(place, row);
    }

    public int play(int place, int row, int what)
            throws IndexOutOfBoundsException, IllegalArgumentException, NoSuchElementException {
        checkPlace(game.turn, place);
        checkRow(row);
        if (what < 0 || what > 1) {
            throw new IllegalArgumentException("no such number of a play");
        }
        if (game.obstacleNow(place, row) != Game.NO_OBSTACLE) {
            throw new NoSuchElementException("the word cannot be laid there");
        }
        return what == 0 ? game.pointsFor(game.wordOf(game.turn, place), row) : game.rankOf(place, row);
    }

    public int best() {
        return game.bestPlay();
    }

    public int chain(int player, int row) throws IndexOutOfBoundsException {
        checkPlayer(player);
        checkRow(row);
        chains.search(game, player, row);
        return chains.mostWords;
    }

    public int worth(int player, int row) throws IndexOutOfBoundsException {
        checkPlayer(player);
        checkRow(row);
        chains.search(game, player, row);
        return chains.mostPoints;
    }

    public int fillings(int player, int row) throws IndexOutOfBoundsException {
        checkPlayer(player);
        checkRow(row);
        if (game.freeTiles(row) == 0) {
            return 1;
        }
        chains.search(game, player, row);
        return chains.thatFill;
    }

    public int threats(int row) throws IndexOutOfBoundsException {
        checkRow(row);
        int players = 0;
        for (int p = 0; p < game.rules.players; p++) {
            if (game.canFill(p, row)) {
                players |= 1 << p;
            }
        }
        return players;
    }

    public int winner() {
        future.copyFrom(game);
        future.playOn(STEPS_WITHOUT_LIMIT);
        return future.leader();
    }

    public int stepsToEnd() {
        future.copyFrom(game);
        return future.playOn(STEPS_WITHOUT_LIMIT);
    }

    public float covered() {
        int letters = 0;
        int tiles = 0;
        for (int r = 0; r < game.rules.rows; r++) {
            letters += game.lettersOn[r];
            tiles += game.rules.tiles[r];
        }
        return tiles == 0 ? 0f : (float) letters / (float) tiles;
    }

    public int lay(int place, int row) throws IndexOutOfBoundsException, IllegalStateException {
        checkPlace(game.turn, place);
        checkRow(row);
        if (game.obstacleNow(place, row) != Game.NO_OBSTACLE) {
            throw new IllegalStateException("the word cannot be laid there");
        }
        history.keep(game);
        return game.layWord(place, row);
    }

    public int pass() throws IllegalStateException {
        if (game.over) {
            throw new IllegalStateException("the game is over");
        }
        history.keep(game);
        game.passTurn();
        return game.turn;
    }

    public int auto(int steps) throws IllegalArgumentException {
        if (steps < 1 || steps > MAX_AUTO) {
            throw new IllegalArgumentException("not a number of steps");
        }
        history.keep(game);
        return game.playOn(steps);
    }

    public int give(int player, int length)
            throws IndexOutOfBoundsException, IllegalArgumentException, IllegalStateException {
        checkPlayer(player);
        if (!startsWithWord(length)) {
            throw new IllegalArgumentException("the buffer does not start with such a word");
        }
        if (game.handSize[player] >= MAX_HAND || game.over) {
            throw new IllegalStateException("no word can be given");
        }
        history.keep(game);
        game.addWord(player, Words.ofBytes(buffer, 0, length));
        bufferLength = 0;
        return game.handSize[player] - 1;
    }

    public int undo() {
        return history.restore(game);
    }

    public long checksum() {
        long sum = 0;
        for (int what = 0; what < STATE_NUMBERS; what++) {
            sum = 31 * sum + game.stateNumber(what);
        }
        for (int r = 0; r < game.rules.rows; r++) {
            sum = sumOfRow(sum, r);
        }
        for (int p = 0; p < game.rules.players; p++) {
            sum = sumOfPlayer(sum, p);
        }
        return sum;
    }

    private long sumOfRow(long start, int row) {
        long sum = start;
        for (int what = 0; what < ROW_NUMBERS; what++) {
            sum = 31 * sum + game.rowNumber(row, what);
        }
        for (int t = 0; t < game.rules.tiles[row]; t++) {
            sum = 31 * sum + game.letterOnTile(row, t);
        }
        return sum;
    }

    private long sumOfPlayer(long start, int player) {
        long sum = start;
        for (int what = 0; what < PLAYER_NUMBERS; what++) {
            sum = 31 * sum + game.playerNumber(player, what);
        }
        for (int place = 0; place < game.handSize[player]; place++) {
            long word = game.wordOf(player, place);
            int letters = Words.length(word);
            for (int k = 0; k < letters; k++) {
                sum = 31 * sum + Words.letterAt(word, k);
            }
        }
        return sum;
    }

    private void appendBytes(int word) {
        for (int shift = 24; shift >= 0 && bufferLength < MAX_BYTES; shift -= 8) {
            buffer[bufferLength] = (word >>> shift) & 255;
            bufferLength++;
        }
    }

    private boolean startsWithWord(int length) {
        if (length < 1 || length > MAX_LETTERS || length > bufferLength) {
            return false;
        }
        for (int i = 0; i < length; i++) {
            if (!Words.isLetter(buffer[i])) {
                return false;
            }
        }
        return true;
    }

    private void checkRow(int row) {
        if (row < 0 || row >= game.rules.rows) {
            throw new IndexOutOfBoundsException("no such row");
        }
    }

    private void checkPlayer(int player) {
        if (player < 0 || player >= game.rules.players) {
            throw new IndexOutOfBoundsException("no such player");
        }
    }

    private void checkPlace(int player, int place) {
        if (place < 0 || place >= game.handSize[player]) {
            throw new IndexOutOfBoundsException("no such place of the hand");
        }
    }

    /**
     * Words are held as numbers, so that they are copied and compared without objects:
     * 5 bits for each letter (1 for a), the last letter lowest; 0 stands for no word.
     */
    private static final class Words {
        static final int BITS = 5;
        static final int MASK = 31;

        static boolean isLetter(int b) {
            return b >= 'a' && b <= 'z';
        }

        static long ofBytes(int[] bytes, int from, int to) {
            long word = 0;
            for (int i = from; i < to && i < bytes.length; i++) {
                word = (word << BITS) | (bytes[i] - 'a' + 1);
            }
            return word;
        }

        static int length(long word) {
            int length = 0;
            for (long rest = word; rest != 0 && length < MAX_LETTERS; rest >>>= BITS) {
                length++;
            }
            return length;
        }

        static int letterAt(long word, int k) {
            int behind = length(word) - 1 - k;
            return (int) ((word >>> (BITS * behind)) & MASK) - 1;
        }
    }

    /** What a setup tells once and for all of a game, except its hands. */
    private static final class Rules {
        final int[] tiles = new int[MAX_ROWS];
        // One number for each letter as Words holds it; letters are alike if their numbers are equal.
        final int[] groups = new int[Words.MASK + 1];
        final Rank rank = new Rank();
        int rows;
        int players;
        int need;
        int bonus;
        int crown;

        void reset() {
            Arrays.fill(tiles, 0);
            tiles[0] = 10;
            for (int letter = 0; letter < groups.length; letter++) {
                groups[letter] = letter;
            }
            rank.reset();
            rows = 1;
            players = 2;
            need = 2;
            bonus = 1;
            crown = 5;
        }

        void copyFrom(Rules other) {
            System.arraycopy(other.tiles, 0, tiles, 0, tiles.length);
            System.arraycopy(other.groups, 0, groups, 0, groups.length);
            rank.copyFrom(other.rank);
            rows = other.rows;
            players = other.players;
            need = other.need;
            bonus = other.bonus;
            crown = other.crown;
        }

        /** The rhyme of two words; 0 if one of them is no word. */
        int rhymeOf(long first, long second) {
            long a = first;
            long b = second;
            int rhyme = 0;
            while (rhyme < MAX_LETTERS && (a & Words.MASK) != 0 && (b & Words.MASK) != 0
                    && groups[(int) (a & Words.MASK)] == groups[(int) (b & Words.MASK)]) {
                rhyme++;
                a >>>= Words.BITS;
                b >>>= Words.BITS;
            }
            return rhyme;
        }
    }

    /** The expression of a rank, with each operator behind its two operands. */
    private static final class Rank {
        // The codes of an expression: a number stands for itself, these for the rest.
        static final int POINTS = -1;
        static final int LETTERS = -2;
        static final int RHYME = -3;
        static final int LEFT = -4;
        static final int FULL = -5;
        static final int HAND = -6;
        static final int ADD = -7;
        static final int SUBTRACT = -8;
        static final int MULTIPLY = -9;
        static final int DIVIDE = -10;
        static final int FACTS = 6;
        static final int LIMIT = 1000000;
        // Each of the 5 levels of parentheses has at most 2 operands waiting for a third.
        static final int MAX_OPERANDS = 16;

        private final int[] codes = new int[MAX_BYTES];
        private final int[] operands = new int[MAX_OPERANDS];
        private int length;

        static int indexOf(int fact) {
            return -1 - fact;
        }

        void reset() {
            length = 0;
            add(POINTS);
        }

        void clear() {
            length = 0;
        }

        void add(int code) {
            if (length < codes.length) {
                codes[length] = code;
                length++;
            }
        }

        void copyFrom(Rank other) {
            System.arraycopy(other.codes, 0, codes, 0, other.length);
            length = other.length;
        }

        int value(int[] facts) {
            int count = 0;
            for (int i = 0; i < length; i++) {
                int code = codes[i];
                if (code < HAND) {
                    if (count >= 2) {
                        count--;
                        operands[count - 1] = result(code, operands[count - 1], operands[count]);
                    }
                } else if (count < operands.length) {
                    operands[count] = code >= 0 ? code : facts[indexOf(code)];
                    count++;
                }
            }
            return operands[0];
        }

        private static int result(int operator, long a, long b) {
            long result = 0;
            switch (operator) {
                case ADD:
                    result = a + b;
                    break;
                case SUBTRACT:
                    result = a - b;
                    break;
                case MULTIPLY:
                    result = a * b;
                    break;
                default:
                    result = b == 0 ? 0 : a / b;
                    break;
            }
            return (int) (result > LIMIT ? LIMIT : result < -LIMIT ? -LIMIT : result);
        }
    }

    /** All that a change can change: the rules, the rows, the hands and the points. */
    private static final class Game {
        static final int NO_OBSTACLE = 0;
        static final int GAME_OVER = 1;
        static final int TOO_FEW_TILES = 2;
        static final int SAME_WORD = 3;
        static final int NO_RHYME = 4;
        static final int NO_OWNER = -1;
        static final int NO_LETTER = -1;
        // A play is held as the document answers it: 10 * place + row.
        static final int NO_PLAY = -1;
        static final int PLACE_OF_PLAY = 10;

        final Rules rules = new Rules();
        final int[] letters = new int[MAX_ROWS * MAX_TILES];
        final int[] lettersOn = new int[MAX_ROWS];
        final int[] wordsOn = new int[MAX_ROWS];
        final long[] lastOn = new long[MAX_ROWS];
        final int[] ownerOf = new int[MAX_ROWS];
        final long[] hands = new long[MAX_PLAYERS * MAX_HAND];
        final int[] handSize = new int[MAX_PLAYERS];
        final int[] points = new int[MAX_PLAYERS];
        int turn;
        int passes;
        boolean over;
        private final int[] facts = new int[Rank.FACTS];

        Game() {
            reset();
        }

        void reset() {
            rules.reset();
            Arrays.fill(letters, 0);
            Arrays.fill(lettersOn, 0);
            Arrays.fill(wordsOn, 0);
            Arrays.fill(lastOn, 0L);
            Arrays.fill(ownerOf, NO_OWNER);
            Arrays.fill(hands, 0L);
            Arrays.fill(handSize, 0);
            Arrays.fill(points, 0);
            turn = 0;
            passes = 0;
            over = false;
        }

        void copyFrom(Game other) {
            rules.copyFrom(other.rules);
            System.arraycopy(other.letters, 0, letters, 0, letters.length);
            System.arraycopy(other.lettersOn, 0, lettersOn, 0, lettersOn.length);
            System.arraycopy(other.wordsOn, 0, wordsOn, 0, wordsOn.length);
            System.arraycopy(other.lastOn, 0, lastOn, 0, lastOn.length);
            System.arraycopy(other.ownerOf, 0, ownerOf, 0, ownerOf.length);
            System.arraycopy(other.hands, 0, hands, 0, hands.length);
            System.arraycopy(other.handSize, 0, handSize, 0, handSize.length);
            System.arraycopy(other.points, 0, points, 0, points.length);
            turn = other.turn;
            passes = other.passes;
            over = other.over;
        }

        int stateNumber(int what) {
            switch (what) {
                case 0:
                    return rules.rows;
                case 1:
                    return rules.players;
                case 2:
                    return rules.need;
                case 3:
                    return rules.bonus;
                case 4:
                    return rules.crown;
                case 5:
                    return turn;
                case 6:
                    return over ? 1 : 0;
                case 7:
                    return passes;
                case 8:
                    return wordsOnRows();
                case 9:
                    return filledRows();
                case 10:
                    return playsNow();
                default:
                    return wordsOfHands();
            }
        }

        int rowNumber(int row, int what) {
            switch (what) {
                case 0:
                    return rules.tiles[row];
                case 1:
                    return freeTiles(row);
                case 2:
                    return wordsOn[row];
                default:
                    return ownerOf[row];
            }
        }

        int playerNumber(int player, int what) {
            switch (what) {
                case 0:
                    return handSize[player];
                case 1:
                    return lettersOfHand(player);
                case 2:
                    return points[player];
                default:
                    return rowsOwnedBy(player);
            }
        }

        int letterOnTile(int row, int tile) {
            return tile < lettersOn[row] ? letters[row * MAX_TILES + tile] : NO_LETTER;
        }

        int freeTiles(int row) {
            return rules.tiles[row] - lettersOn[row];
        }

        long wordOf(int player, int place) {
            return hands[player * MAX_HAND + place];
        }

        int wordsOfHands() {
            int words = 0;
            for (int p = 0; p < rules.players; p++) {
                words += handSize[p];
            }
            return words;
        }

        private int wordsOnRows() {
            int words = 0;
            for (int r = 0; r < rules.rows; r++) {
                words += wordsOn[r];
            }
            return words;
        }

        private int filledRows() {
            int rows = 0;
            for (int r = 0; r < rules.rows; r++) {
                if (freeTiles(r) == 0) {
                    rows++;
                }
            }
            return rows;
        }

        private int lettersOfHand(int player) {
            int sum = 0;
            for (int place = 0; place < handSize[player]; place++) {
                sum += Words.length(wordOf(player, place));
            }
            return sum;
        }

        private int rowsOwnedBy(int player) {
            int rows = 0;
            for (int r = 0; r < rules.rows; r++) {
                if (ownerOf[r] == player) {
                    rows++;
                }
            }
            return rows;
        }

        private int playsNow() {
            int plays = 0;
            for (int place = 0; place < handSize[turn]; place++) {
                for (int r = 0; r < rules.rows; r++) {
                    if (obstacleNow(place, r) == NO_OBSTACLE) {
                        plays++;
                    }
                }
            }
            return plays;
        }

        /** Why the player on turn cannot lay the word of this place. */
        int obstacleNow(int place, int row) {
            return over ? GAME_OVER : obstacle(wordOf(turn, place), row);
        }

        /** Why the word cannot be laid by a player on turn, in a game that is not over. */
        int obstacle(long word, int row) {
            if (Words.length(word) > freeTiles(row)) {
                return TOO_FEW_TILES;
            }
            if (wordsOn[row] == 0) {
                return NO_OBSTACLE;
            }
            if (word == lastOn[row]) {
                return SAME_WORD;
            }
            return rules.rhymeOf(word, lastOn[row]) < rules.need ? NO_RHYME : NO_OBSTACLE;
        }

        boolean canFill(int player, int row) {
            for (int place = 0; place < handSize[player]; place++) {
                long word = wordOf(player, place);
                if (Words.length(word) == freeTiles(row) && obstacle(word, row) == NO_OBSTACLE) {
                    return true;
                }
            }
            return false;
        }

        int pointsFor(long word, int row) {
            int length = Words.length(word);
            int sum = length + rules.bonus * rules.rhymeOf(word, lastOn[row]);
            if (length == freeTiles(row)) {
                sum += rules.crown * (wordsOn[row] + 1);
            }
            return sum;
        }

        int rankOf(int place, int row) {
            long word = wordOf(turn, place);
            int length = Words.length(word);
            int left = freeTiles(row) - length;
            facts[Rank.indexOf(Rank.POINTS)] = pointsFor(word, row);
            facts[Rank.indexOf(Rank.LETTERS)] = length;
            facts[Rank.indexOf(Rank.RHYME)] = rules.rhymeOf(word, lastOn[row]);
            facts[Rank.indexOf(Rank.LEFT)] = left;
            facts[Rank.indexOf(Rank.FULL)] = left == 0 ? 1 : 0;
            facts[Rank.indexOf(Rank.HAND)] = handSize[turn] - 1;
            return rules.rank.value(facts);
        }

        int bestPlay() {
            int best = NO_PLAY;
            int bestRank = 0;
            for (int place = 0; place < handSize[turn]; place++) {
                for (int r = 0; r < rules.rows; r++) {
                    if (obstacleNow(place, r) == NO_OBSTACLE) {
                        int rank = rankOf(place, r);
                        if (best == NO_PLAY || rank > bestRank) {
                            best = PLACE_OF_PLAY * place + r;
                            bestRank = rank;
                        }
                    }
                }
            }
            return best;
        }

        int leader() {
            int leader = 0;
            for (int p = 1; p < rules.players; p++) {
                if (points[p] > points[leader]) {
                    leader = p;
                }
            }
            return leader;
        }

        /** Makes steps by rank, at most so many, and returns how many were made. */
        int playOn(int limit) {
            int steps = 0;
            while (!over && steps < limit) {
                stepByRank();
                steps++;
            }
            return steps;
        }

        private void stepByRank() {
            int best = bestPlay();
            if (best == NO_PLAY) {
                passTurn();
            } else {
                layWord(best / PLACE_OF_PLAY, best % PLACE_OF_PLAY);
            }
        }

        void passTurn() {
            passes++;
            endTurn(passes >= rules.players);
        }

        /** Lays a word that can be laid, and returns the points for it. */
        int layWord(int place, int row) {
            long word = wordOf(turn, place);
            int gain = pointsFor(word, row);
            putLetters(word, row);
            wordsOn[row]++;
            lastOn[row] = word;
            ownerOf[row] = turn;
            points[turn] += gain;
            removeWord(turn, place);
            passes = 0;
            endTurn(wordsOfHands() == 0);
            return gain;
        }

        private void putLetters(long word, int row) {
            int length = Words.length(word);
            for (int k = 0; k < length && lettersOn[row] < MAX_TILES; k++) {
                letters[row * MAX_TILES + lettersOn[row]] = Words.letterAt(word, k);
                lettersOn[row]++;
            }
        }

        void addWord(int player, long word) {
            if (handSize[player] < MAX_HAND) {
                hands[player * MAX_HAND + handSize[player]] = word;
                handSize[player]++;
            }
        }

        private void removeWord(int player, int place) {
            int first = player * MAX_HAND;
            handSize[player]--;
            for (int i = place; i < handSize[player]; i++) {
                hands[first + i] = hands[first + i + 1];
            }
        }

        /** The player on turn stays the one who laid or passed last if the game ends. */
        private void endTurn(boolean gameEnds) {
            if (gameEnds) {
                over = true;
                payOwners();
            } else {
                turn = turn + 1 < rules.players ? turn + 1 : 0;
            }
        }

        private void payOwners() {
            for (int r = 0; r < rules.rows; r++) {
                if (ownerOf[r] != NO_OWNER && freeTiles(r) > 0) {
                    points[ownerOf[r]] += lettersOn[r] / 2;
                }
            }
        }
    }

    /** The games as they were before the latest changes. */
    private static final class History {
        private final Game[] past = new Game[MAX_UNDO];
        private int next = 0;
        private int count = 0;

        History() {
            for (int i = 0; i < MAX_UNDO; i++) {
                past[i] = new Game();
            }
        }

        void keep(Game game) {
            past[next].copyFrom(game);
            next = next + 1 < MAX_UNDO ? next + 1 : 0;
            count = count < MAX_UNDO ? count + 1 : MAX_UNDO;
        }

        /** Returns how many changes are left to undo; -1 if there was none. */
        int restore(Game game) {
            if (count == 0) {
                return -1;
            }
            next = next > 0 ? next - 1 : MAX_UNDO - 1;
            count--;
            game.copyFrom(past[next]);
            return count;
        }
    }

    /**
     * Searches the chains of a player for a row. Chains with the same words and the same last word
     * can go on in the same ways, so they are counted together: by the set of their places (a bit for
     * each) and their last place.
     */
    private static final class Chains {
        static final int SETS = 1 << MAX_HAND;
        static final int CANNOT_FOLLOW = -1;

        int mostWords;
        int mostPoints;
        int thatFill;
        private final int[] ways = new int[SETS * MAX_HAND];
        private final int[] bestPoints = new int[SETS * MAX_HAND];
        private final int[] lengths = new int[MAX_HAND];
        private final int[] rhymes = new int[MAX_HAND * MAX_HAND];
        private int size;
        private int free;
        private int wordsBefore;
        private int bonus;
        private int crown;

        void search(Game game, int player, int row) {
            mostWords = 0;
            mostPoints = 0;
            thatFill = 0;
            Arrays.fill(ways, 0);
            Arrays.fill(bestPoints, 0);
            prepare(game, player, row);
            for (int place = 0; place < size; place++) {
                long word = game.wordOf(player, place);
                if (game.obstacle(word, row) == Game.NO_OBSTACLE) {
                    note(1 << place, place, 1, game.pointsFor(word, row));
                }
            }
            // A longer set has a greater number, so each set is complete when its turn comes.
            for (int set = 1; set < (1 << size); set++) {
                extend(set);
            }
        }

        private void prepare(Game game, int player, int row) {
            size = game.handSize[player];
            free = game.freeTiles(row);
            wordsBefore = game.wordsOn[row];
            bonus = game.rules.bonus;
            crown = game.rules.crown;
            for (int a = 0; a < size; a++) {
                long word = game.wordOf(player, a);
                lengths[a] = Words.length(word);
                for (int b = 0; b < size; b++) {
                    long behind = game.wordOf(player, b);
                    int rhyme = game.rules.rhymeOf(word, behind);
                    boolean follows = word != behind && rhyme >= game.rules.need;
                    rhymes[a * MAX_HAND + b] = follows ? rhyme : CANNOT_FOLLOW;
                }
            }
        }

        private void extend(int set) {
            int left = free - lettersOf(set);
            int words = wordsBefore + Integer.bitCount(set) + 1;
            for (int last = 0; last < size; last++) {
                int from = set * MAX_HAND + last;
                for (int place = 0; place < size && ways[from] > 0; place++) {
                    int rhyme = rhymes[last * MAX_HAND + place];
                    boolean unused = (set & (1 << place)) == 0;
                    if (unused && rhyme != CANNOT_FOLLOW && lengths[place] <= left) {
                        int gain = lengths[place] + bonus * rhyme + (lengths[place] == left ? crown * words : 0);
                        note(set | (1 << place), place, ways[from], bestPoints[from] + gain);
                    }
                }
            }
        }

        /** Takes note of chains with these places and this last place. */
        private void note(int set, int last, int count, int points) {
            int at = set * MAX_HAND + last;
            ways[at] += count;
            bestPoints[at] = Math.max(bestPoints[at], points);
            mostWords = Math.max(mostWords, Integer.bitCount(set));
            mostPoints = Math.max(mostPoints, points);
            if (lettersOf(set) == free) {
                thatFill += count;
            }
        }

        private int lettersOf(int set) {
            int sum = 0;
            for (int place = 0; place < size; place++) {
                if ((set & (1 << place)) != 0) {
                    sum += lengths[place];
                }
            }
            return sum;
        }
    }

    /** Reads a setup text from the left to the right, so that the first error met is the one that counts. */
    private static final class SetupReader {
        static final int END = -1;
        static final int MAX_DEPTH = 4;
        // Greater than the bound of any number, so a number of any length stays out of its range.
        static final int HUGE = 100000;
        static final int PLAYERS = 1;
        static final int NEED = 2;
        static final int BONUS = 4;
        static final int CROWN = 8;
        static final int RANK = 16;
        static final int NO_OPERATOR = 0;
        static final int NO_FACT = 0;

        final Game game = new Game();
        int errorAt = -1;
        private final int[] text = new int[MAX_BYTES];
        private int end;
        private int at;
        private int error;
        private int number;
        private int tokenStart;
        private int told;
        private boolean handTold;
        private int grouped;

        /** Reads a setup into the game here; returns 0, or the code of the error that is at errorAt. */
        int read(int[] bytes, int length) {
            end = Math.min(length, Math.min(bytes.length, text.length));
            System.arraycopy(bytes, 0, text, 0, end);
            at = 0;
            error = 0;
            errorAt = -1;
            told = 0;
            handTold = false;
            grouped = 0;
            game.reset();
            boolean right = readRoof();
            // A statement has more than one byte, so there are fewer of them.
            for (int n = 0; n < MAX_BYTES && right && peek() != END; n++) {
                right = readRun() && readStatement() && readSign(';');
            }
            return error;
        }

        private boolean fail(int code, int offset) {
            error = code;
            errorAt = offset;
            return false;
        }

        /** The first byte of the next token, or END. */
        private int peek() {
            while (at < end && text[at] == ' ') {
                at++;
            }
            return at < end ? text[at] : END;
        }

        private static boolean isDigit(int b) {
            return b >= '0' && b <= '9';
        }

        private boolean readSign(int sign) {
            if (peek() != sign) {
                return fail(SYNTAX_ERROR, at);
            }
            at++;
            return true;
        }

        private boolean readNumber(int least, int most) {
            if (!isDigit(peek())) {
                return fail(SYNTAX_ERROR, at);
            }
            tokenStart = at;
            number = 0;
            while (at < end && isDigit(text[at])) {
                number = Math.min(HUGE, 10 * number + text[at] - '0');
                at++;
            }
            return number >= least && number <= most || fail(OUT_OF_RANGE, tokenStart);
        }

        /** Reads a run of letters, from tokenStart up to the byte where the reader is then. */
        private boolean readRun() {
            if (!Words.isLetter(peek())) {
                return fail(SYNTAX_ERROR, at);
            }
            tokenStart = at;
            while (at < end && Words.isLetter(text[at])) {
                at++;
            }
            return true;
        }

        private boolean runIs(String word) {
            if (at - tokenStart != word.length()) {
                return false;
            }
            for (int i = 0; i < word.length(); i++) {
                if (text[tokenStart + i] != word.charAt(i)) {
                    return false;
                }
            }
            return true;
        }

        private boolean readRoof() {
            if (!readRun()) {
                return false;
            }
            return runIs("roof") ? readRows() && readSign(';') : fail(SYNTAX_ERROR, tokenStart);
        }

        private boolean readRows() {
            Rules rules = game.rules;
            rules.rows = 0;
            for (int n = 0; n <= MAX_ROWS && (n == 0 || isDigit(peek())); n++) {
                if (!readNumber(1, MAX_TILES)) {
                    return false;
                }
                if (rules.rows >= MAX_ROWS) {
                    return fail(TOO_MANY, tokenStart);
                }
                rules.tiles[rules.rows] = number;
                rules.rows++;
            }
            return true;
        }

        /** Reads what is behind the first word of a statement. */
        private boolean readStatement() {
            if (runIs("players")) {
                return readPlayers();
            }
            if (runIs("need")) {
                return readNeed();
            }
            if (runIs("bonus")) {
                return readBonus();
            }
            if (runIs("crown")) {
                return readCrown();
            }
            if (runIs("alike")) {
                return readAlike();
            }
            if (runIs("hand")) {
                return readHand();
            }
            if (runIs("rank")) {
                game.rules.rank.clear();
                return tellOnce(RANK) && readSum(0);
            }
            return fail(SYNTAX_ERROR, tokenStart);
        }

        private boolean tellOnce(int statement) {
            if ((told & statement) != 0) {
                return fail(SYNTAX_ERROR, tokenStart);
            }
            told |= statement;
            return true;
        }

        private boolean readPlayers() {
            if (handTold) {
                return fail(SYNTAX_ERROR, tokenStart);
            }
            if (!tellOnce(PLAYERS) || !readNumber(2, MAX_PLAYERS)) {
                return false;
            }
            game.rules.players = number;
            return true;
        }

        private boolean readNeed() {
            if (!tellOnce(NEED) || !readNumber(1, 4)) {
                return false;
            }
            game.rules.need = number;
            return true;
        }

        private boolean readBonus() {
            if (!tellOnce(BONUS) || !readNumber(0, 9)) {
                return false;
            }
            game.rules.bonus = number;
            return true;
        }

        private boolean readCrown() {
            if (!tellOnce(CROWN) || !readNumber(0, 99)) {
                return false;
            }
            game.rules.crown = number;
            return true;
        }

        private boolean readAlike() {
            if (!readRun()) {
                return false;
            }
            int first = text[tokenStart] - 'a' + 1;
            for (int i = tokenStart; i < at; i++) {
                int letter = text[i] - 'a' + 1;
                if ((grouped & (1 << letter)) != 0) {
                    return fail(REPEATED, i);
                }
                grouped |= 1 << letter;
                game.rules.groups[letter] = first;
            }
            return true;
        }

        private boolean readHand() {
            if (!readNumber(0, game.rules.players - 1)) {
                return false;
            }
            int player = number;
            handTold = true;
            for (int n = 0; n <= MAX_HAND && (n == 0 || Words.isLetter(peek())); n++) {
                if (!readRun()) {
                    return false;
                }
                if (at - tokenStart > MAX_LETTERS) {
                    return fail(OUT_OF_RANGE, tokenStart);
                }
                if (game.handSize[player] >= MAX_HAND) {
                    return fail(TOO_MANY, tokenStart);
                }
                game.addWord(player, Words.ofBytes(text, tokenStart, at));
            }
            return true;
        }

        /** Reads a sum; each operator goes behind its operands, that of a sum behind the whole second term. */
        private boolean readSum(int depth) {
            Rank rank = game.rules.rank;
            int ofTerm = NO_OPERATOR;
            int ofSum = NO_OPERATOR;
            for (int n = 0; n < MAX_BYTES; n++) {
                if (!readFactor(depth)) {
                    return false;
                }
                if (ofTerm != NO_OPERATOR) {
                    rank.add(ofTerm);
                }
                int next = takeOperator();
                boolean termGoesOn = next == Rank.MULTIPLY || next == Rank.DIVIDE;
                ofTerm = termGoesOn ? next : NO_OPERATOR;
                if (!termGoesOn && ofSum != NO_OPERATOR) {
                    rank.add(ofSum);
                }
                if (next == NO_OPERATOR) {
                    return true;
                }
                ofSum = termGoesOn ? ofSum : next;
            }
            return true;
        }

        private int takeOperator() {
            int operator;
            switch (peek()) {
                case '+':
                    operator = Rank.ADD;
                    break;
                case '-':
                    operator = Rank.SUBTRACT;
                    break;
                case '*':
                    operator = Rank.MULTIPLY;
                    break;
                case '/':
                    operator = Rank.DIVIDE;
                    break;
                default:
                    return NO_OPERATOR;
            }
            at++;
            return operator;
        }

        private boolean readFactor(int depth) {
            int b = peek();
            if (b == '(') {
                if (depth >= MAX_DEPTH) {
                    return fail(TOO_DEEP, at);
                }
                at++;
                return readSum(depth + 1) && readSign(')');
            }
            if (isDigit(b)) {
                if (!readNumber(0, 9999)) {
                    return false;
                }
                game.rules.rank.add(number);
                return true;
            }
            if (!readRun()) {
                return false;
            }
            int fact = factOfRun();
            if (fact == NO_FACT) {
                return fail(SYNTAX_ERROR, tokenStart);
            }
            game.rules.rank.add(fact);
            return true;
        }

        private int factOfRun() {
            if (runIs("points")) {
                return Rank.POINTS;
            }
            if (runIs("letters")) {
                return Rank.LETTERS;
            }
            if (runIs("rhyme")) {
                return Rank.RHYME;
            }
            if (runIs("left")) {
                return Rank.LEFT;
            }
            if (runIs("full")) {
                return Rank.FULL;
            }
            return runIs("hand") ? Rank.HAND : NO_FACT;
        }
    }
}
