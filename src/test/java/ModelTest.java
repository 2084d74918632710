import java.util.ArrayDeque;
import java.util.ArrayList;
import java.util.Deque;
import java.util.HashSet;
import java.util.List;
import java.util.NoSuchElementException;
import java.util.Set;
import java.util.concurrent.Callable;

/**
 * All promises, by many runs of calls that are drawn by a fixed sequence of numbers: each answer is compared with
 * that of a plain model, which was written from the document by itself, with lists of texts and without any thrift.
 */
public final class ModelTest {
    private static final int RUNS = 1500;
    private static final int CALLS_OF_A_RUN = 500;
    private static long drawn = 12345;

    public static void main(String[] args) {
        for (int run = 0; run < RUNS; run++) {
            oneRun(run);
        }
        Check.end();
    }

    private static int draw(int bound) {
        drawn = drawn * 6364136223846793005L + 1442695040888963407L;
        return (int) ((drawn >>> 33) % bound);
    }

    private static boolean oneIn(int n) {
        return draw(n) == 0;
    }

    private static String answer(Callable<Object> call) {
        try {
            return String.valueOf(call.call());
        } catch (Exception e) {
            return "throws." + e.getClass().getSimpleName();
        }
    }

    private static final class Pair {
        final RhymeRoofs x = new RhymeRoofs();
        final Plain p = new Plain();
        final StringBuilder calls = new StringBuilder();
        int count = 0;
        boolean differs = false;

        void both(String name, Callable<Object> real, Callable<Object> plain) {
            count++;
            String got = answer(real);
            String want = answer(plain);
            calls.append(name).append(" = ").append(got).append('\n');
            if (!got.equals(want) && !differs) {
                differs = true;
                Check.due(calls + " due is " + want + "; this answer", 0, 1);
            }
        }

        void append(String text) {
            for (int i = 0; i < text.length(); i += 20) {
                int[] w = new int[5];
                for (int k = 0; k < 20; k++) {
                    int b = i + k < text.length() ? text.charAt(i + k) : ' ';
                    w[k / 4] = w[k / 4] << 8 | b & 255;
                }
                both("append " + text.substring(i, Math.min(text.length(), i + 20)),
                        () -> x.append(w[0], w[1], w[2], w[3], w[4]), () -> p.append(w[0], w[1], w[2], w[3], w[4]));
            }
        }
    }

    private static void oneRun(int run) {
        Pair pair = new Pair();
        if (!oneIn(10)) {
            loadText(pair, text(false));
        }
        while (pair.count < CALLS_OF_A_RUN - 40 && !pair.differs) {
            if (oneIn(40)) {
                loadText(pair, text(oneIn(2)));
            } else if (oneIn(3)) {
                change(pair);
            } else {
                query(pair);
            }
        }
    }

    private static void loadText(Pair pair, String text) {
        pair.append(text);
        int length = oneIn(30) ? draw(text.length() + 30) : text.length();
        pair.both("load(" + length + ") of " + text, () -> pair.x.load(length), () -> pair.p.load(length));
        pair.both("errorOffset", () -> pair.x.errorOffset(), () -> pair.p.errorOffset());
        pair.both("checksum", () -> pair.x.checksum(), () -> pair.p.checksum());
    }

    private static void change(Pair pair) {
        RhymeRoofs x = pair.x;
        Plain p = pair.p;
        switch (draw(12)) {
            case 0: {
                pair.both("pass", () -> x.pass(), () -> p.pass());
                break;
            }
            case 1: {
                int steps = oneIn(8) ? draw(60) - 4 : 1 + draw(3);
                pair.both("auto(" + steps + ")", () -> x.auto(steps), () -> p.auto(steps));
                break;
            }
            case 2: {
                String word = word();
                pair.append(word);
                int player = draw(5) - (oneIn(9) ? 1 : 0);
                int length = oneIn(6) ? draw(12) - 1 : word.length();
                pair.both("give(" + player + ", " + length + ")", () -> x.give(player, length),
                        () -> p.give(player, length));
                break;
            }
            case 3:
            case 4:
            case 5: {
                pair.both("undo", () -> x.undo(), () -> p.undo());
                break;
            }
            case 6: {
                pair.append("cat");
                break;
            }
            default: {
                int best = x.best();
                int place = best >= 0 && oneIn(2) ? best / 10 : draw(9) - (oneIn(9) ? 1 : 0);
                int row = best >= 0 && oneIn(2) ? best % 10 : draw(6) - (oneIn(9) ? 1 : 0);
                pair.both("lay(" + place + ", " + row + ")", () -> x.lay(place, row), () -> p.lay(place, row));
                break;
            }
        }
        pair.both("checksum", () -> x.checksum(), () -> p.checksum());
    }

    private static void query(Pair pair) {
        RhymeRoofs x = pair.x;
        Plain p = pair.p;
        int row = draw(7) - (oneIn(9) ? 1 : 0);
        int player = draw(5) - (oneIn(9) ? 1 : 0);
        int place = draw(9) - (oneIn(9) ? 1 : 0);
        int what = draw(14) - (oneIn(9) ? 1 : 0);
        int k = draw(42) - 1;
        String of = "(" + player + " " + place + " " + row + " " + what + " " + k + ")";
        switch (draw(17)) {
            case 0 -> pair.both("state" + of, () -> x.state(what), () -> p.state(what));
            case 1 -> pair.both("row" + of, () -> x.row(row, what % 6), () -> p.row(row, what % 6));
            case 2 -> pair.both("tile" + of, () -> x.tile(row, k), () -> p.tile(row, k));
            case 3 -> pair.both("player" + of, () -> x.player(player, what % 6), () -> p.player(player, what % 6));
            case 4 -> pair.both("letter" + of, () -> x.letter(player, place, k % 10), () -> p.letter(player, place, k % 10));
            case 5 -> pair.both("alike" + of, () -> x.alike(k % 30, what * 2), () -> p.alike(k % 30, what * 2));
            case 6 -> pair.both("rhyme" + of, () -> x.rhyme(player, place, row), () -> p.rhyme(player, place, row));
            case 7 -> pair.both("why" + of, () -> x.why(place, row), () -> p.why(place, row));
            case 8 -> pair.both("play" + of, () -> x.play(place, row, what % 3), () -> p.play(place, row, what % 3));
            case 9 -> pair.both("best" + of, () -> x.best(), () -> p.best());
            case 10 -> pair.both("chain" + of, () -> x.chain(player, row), () -> p.chain(player, row));
            case 11 -> pair.both("worth" + of, () -> x.worth(player, row), () -> p.worth(player, row));
            case 12 -> pair.both("fillings" + of, () -> x.fillings(player, row), () -> p.fillings(player, row));
            case 13 -> pair.both("threats" + of, () -> x.threats(row), () -> p.threats(row));
            case 14 -> pair.both("winner", () -> x.winner(), () -> p.winner());
            case 15 -> pair.both("stepsToEnd", () -> x.stepsToEnd(), () -> p.stepsToEnd());
            default -> pair.both("covered", () -> x.covered(), () -> p.covered());
        }
    }

    private static String word() {
        StringBuilder word = new StringBuilder();
        int letters = oneIn(5) ? 1 + draw(8) : 1 + draw(4);
        String from = oneIn(3) ? "abcdefghijklmnopqrstuvwxyz" : "aet";
        for (int i = 0; i < letters; i++) {
            word.append(from.charAt(draw(from.length())));
        }
        return word.toString();
    }

    private static String text(boolean spoiled) {
        StringBuilder text = new StringBuilder("roof");
        int rows = 1 + draw(oneIn(10) && spoiled ? 8 : 6);
        for (int i = 0; i < rows; i++) {
            text.append(' ').append(oneIn(4) ? 1 + draw(40) : 3 + draw(9));
        }
        text.append(';');
        int players = 2;
        if (oneIn(2)) {
            players = 2 + draw(3);
            text.append("players ").append(players).append(';');
        }
        int statements = 1 + draw(12);
        int told = 0;
        for (int i = 0; i < statements; i++) {
            int kind = draw(10);
            if (kind >= 4 && kind != 6 || (told & 1 << kind) == 0 || spoiled && oneIn(4)) {
                text.append(statement(kind, players, spoiled));
                told |= 1 << kind;
            }
        }
        return spoiled ? spoil(text) : text.toString();
    }

    private static String statement(int kind, int players, boolean spoiled) {
        StringBuilder text = new StringBuilder();
        switch (kind) {
            case 0 -> text.append("need ").append(1 + draw(spoiled ? 5 : 4));
            case 1 -> text.append("bonus ").append(draw(spoiled ? 11 : 10));
            case 2 -> text.append("crown ").append(draw(spoiled ? 101 : 100));
            case 3 -> text.append("rank ").append(sum(0, spoiled));
            case 6 -> text.append("alike ").append("abcdefghijklmnopqrstuvwxyz", draw(3), 3 + draw(6));
            default -> {
                text.append("hand ").append(draw(players + (spoiled && oneIn(9) ? 1 : 0)));
                int words = 1 + draw(4);
                for (int w = 0; w < words; w++) {
                    text.append(' ').append(word());
                }
            }
        }
        return text.append(';').toString();
    }

    private static String sum(int depth, boolean spoiled) {
        StringBuilder text = new StringBuilder(factor(depth, spoiled));
        for (int n = draw(4); n > 0; n--) {
            text.append("+-*/".charAt(draw(4))).append(factor(depth, spoiled));
        }
        return text.toString();
    }

    private static String factor(int depth, boolean spoiled) {
        String[] facts = {"points", "letters", "rhyme", "left", "full", "hand"};
        if (oneIn(3) && depth < (spoiled ? 6 : 4)) {
            return "(" + sum(depth + 1, spoiled) + ")";
        }
        return oneIn(3) ? Integer.toString(draw(oneIn(2) ? 10000 : 6)) : facts[draw(6)];
    }

    private static String spoil(StringBuilder text) {
        String[] parts = {" ", ";", "a", "z", "0", "9", "(", ")", "+", "*", "need", "hand", "hand 0 a", "alike ab;",
            "players 3;", "\t", "\u00ff", "A", "99999999999999999999", " 1 ", "rank", "00000000000000", "abcdefghi"};
        for (int n = draw(4); n > 0; n--) {
            int at = draw(text.length() + 1);
            switch (draw(3)) {
                case 0 -> text.insert(at, parts[draw(parts.length)]);
                case 1 -> text.delete(at, Math.min(text.length(), at + 1 + draw(3)));
                default -> text.setLength(oneIn(4) ? at : text.length());
            }
        }
        return text.toString();
    }

    /** The plain model. */
    private static final class Plain {
        private int[] buffer = new int[0];
        private int errorOffset = -1;
        private PlainGame game = new PlainGame();
        private final Deque<PlainGame> past = new ArrayDeque<>();

        Object append(int... words) {
            if (buffer.length + 20 > 600) {
                return -1;
            }
            int from = buffer.length;
            buffer = java.util.Arrays.copyOf(buffer, from + 20);
            for (int i = 0; i < 20; i++) {
                buffer[from + i] = words[i / 4] >> 8 * (3 - i % 4) & 255;
            }
            return buffer.length;
        }

        Object load(int length) {
            if (length < 0 || length > buffer.length) {
                throw new IllegalArgumentException();
            }
            StringBuilder text = new StringBuilder();
            for (int i = 0; i < length; i++) {
                text.append((char) buffer[i]);
            }
            buffer = new int[0];
            errorOffset = -1;
            try {
                PlainGame read = new PlainReader(text.toString()).read();
                keep();
                game = read;
                return game.allWords();
            } catch (SetupError e) {
                errorOffset = e.offset;
                return e.code;
            }
        }

        private void keep() {
            past.push(game.copy());
            if (past.size() > 8) {
                past.removeLast();
            }
        }

        Object errorOffset() {
            return errorOffset;
        }

        private static void index(int i, int size) {
            if (i < 0 || i >= size) {
                throw new IndexOutOfBoundsException();
            }
        }

        private static void range(int n, int least, int most) {
            if (n < least || n > most) {
                throw new IllegalArgumentException();
            }
        }

        private String wordAt(int player, int place) {
            index(player, game.hands.size());
            index(place, game.hands.get(player).size());
            return game.hands.get(player).get(place);
        }

        Object state(int what) {
            range(what, 0, 11);
            return game.state(what);
        }

        Object row(int row, int what) {
            index(row, game.rows.size());
            range(what, 0, 3);
            return game.row(row, what);
        }

        Object tile(int row, int tile) {
            index(row, game.rows.size());
            if (tile < 0 || tile >= game.tiles.get(row)) {
                throw new NoSuchElementException();
            }
            return game.tile(row, tile);
        }

        Object player(int player, int what) {
            index(player, game.hands.size());
            range(what, 0, 3);
            return game.player(player, what);
        }

        Object letter(int player, int place, int k) {
            String word = wordAt(player, place);
            if (k < 0 || k >= word.length()) {
                throw new NoSuchElementException();
            }
            return word.charAt(k) - 'a';
        }

        Object alike(int a, int b) {
            range(a, 0, 25);
            range(b, 0, 25);
            return game.alike((char) ('a' + a), (char) ('a' + b));
        }

        Object rhyme(int player, int place, int row) {
            String word = wordAt(player, place);
            index(row, game.rows.size());
            return game.rows.get(row).isEmpty() ? -1 : game.rhyme(word, game.last(row));
        }

        Object why(int place, int row) {
            String word = wordAt(game.turn, place);
            index(row, game.rows.size());
            return game.over ? 1 : game.why(word, row);
        }

        Object play(int place, int row, int what) {
            String word = wordAt(game.turn, place);
            index(row, game.rows.size());
            range(what, 0, 1);
            if (game.over || game.why(word, row) != 0) {
                throw new NoSuchElementException();
            }
            return what == 0 ? game.gain(word, row) : game.rankOf(word, row);
        }

        Object best() {
            return game.best();
        }

        private Chains chains(int player, int row) {
            index(player, game.hands.size());
            index(row, game.rows.size());
            Chains c = new Chains();
            c.search(game, player, row, new HashSet<>(), 0);
            return c;
        }

        Object chain(int player, int row) {
            return chains(player, row).longest;
        }

        Object worth(int player, int row) {
            return chains(player, row).worth;
        }

        Object fillings(int player, int row) {
            Chains c = chains(player, row);
            return game.free(row) == 0 ? 1 : c.fillings;
        }

        Object threats(int row) {
            index(row, game.rows.size());
            int sum = 0;
            for (int p = 0; p < game.hands.size(); p++) {
                boolean threat = false;
                for (String word : game.hands.get(p)) {
                    threat |= game.why(word, row) == 0 && word.length() == game.free(row);
                }
                sum += threat ? (int) Math.pow(2, p) : 0;
            }
            return sum;
        }

        Object winner() {
            PlainGame end = game.copy();
            while (!end.over) {
                end.step();
            }
            int most = -1;
            int winner = -1;
            for (int p = 0; p < end.hands.size(); p++) {
                if (end.points.get(p) > most) {
                    most = end.points.get(p);
                    winner = p;
                }
            }
            return winner;
        }

        Object stepsToEnd() {
            PlainGame end = game.copy();
            int steps = 0;
            for (; !end.over; steps++) {
                end.step();
            }
            return steps;
        }

        Object covered() {
            int letters = 0;
            int tiles = 0;
            for (int r = 0; r < game.rows.size(); r++) {
                letters += String.join("", game.rows.get(r)).length();
                tiles += game.tiles.get(r);
            }
            return (float) letters / (float) tiles;
        }

        Object lay(int place, int row) {
            String word = wordAt(game.turn, place);
            index(row, game.rows.size());
            if (game.over || game.why(word, row) != 0) {
                throw new IllegalStateException();
            }
            keep();
            return game.lay(place, row);
        }

        Object pass() {
            if (game.over) {
                throw new IllegalStateException();
            }
            keep();
            game.pass();
            return game.turn;
        }

        Object auto(int steps) {
            range(steps, 1, 50);
            keep();
            int made = 0;
            while (made < steps && !game.over) {
                game.step();
                made++;
            }
            return made;
        }

        Object give(int player, int length) {
            index(player, game.hands.size());
            range(length, 1, Math.min(8, buffer.length));
            StringBuilder word = new StringBuilder();
            for (int i = 0; i < length; i++) {
                range(buffer[i], 'a', 'z');
                word.append((char) buffer[i]);
            }
            List<String> hand = game.hands.get(player);
            if (hand.size() == 8 || game.over) {
                throw new IllegalStateException();
            }
            keep();
            buffer = new int[0];
            game.hands.get(player).add(word.toString());
            return game.hands.get(player).size() - 1;
        }

        Object undo() {
            if (past.isEmpty()) {
                return -1;
            }
            game = past.pop();
            return past.size();
        }

        Object checksum() {
            List<Integer> numbers = new ArrayList<>();
            for (int what = 0; what <= 11; what++) {
                numbers.add(game.state(what));
            }
            for (int r = 0; r < game.rows.size(); r++) {
                for (int what = 0; what <= 3; what++) {
                    numbers.add(game.row(r, what));
                }
                for (int t = 0; t < game.tiles.get(r); t++) {
                    numbers.add(game.tile(r, t));
                }
            }
            for (int p = 0; p < game.hands.size(); p++) {
                for (int what = 0; what <= 3; what++) {
                    numbers.add(game.player(p, what));
                }
                for (char c : String.join("", game.hands.get(p)).toCharArray()) {
                    numbers.add(c - 'a');
                }
            }
            long sum = 0;
            for (int n : numbers) {
                sum = 31 * sum + n;
            }
            return sum;
        }
    }

    private static final class Chains {
        int longest = 0;
        int worth = 0;
        int fillings = 0;

        void search(PlainGame game, int player, int row, Set<Integer> used, int points) {
            longest = Math.max(longest, used.size());
            worth = Math.max(worth, points);
            if (game.free(row) == 0 && !used.isEmpty()) {
                fillings++;
            }
            List<String> hand = game.hands.get(player);
            for (int place = 0; place < hand.size(); place++) {
                if (!used.contains(place) && game.why(hand.get(place), row) == 0) {
                    int gain = game.gain(hand.get(place), row);
                    used.add(place);
                    game.rows.get(row).add(hand.get(place));
                    search(game, player, row, used, points + gain);
                    game.rows.get(row).remove(game.rows.get(row).size() - 1);
                    used.remove(place);
                }
            }
        }
    }

    /** The value of a part of a rank for points, letters, rhyme, left, full and hand. */
    private interface Part {
        long value(int[] facts);
    }

    private static final class PlainGame {
        List<Integer> tiles = new ArrayList<>(List.of(10));
        List<List<String>> rows = new ArrayList<>(List.of(new ArrayList<>()));
        List<Integer> owners = new ArrayList<>(List.of(-1));
        List<List<String>> hands = new ArrayList<>(List.of(new ArrayList<>(), new ArrayList<>()));
        List<Integer> points = new ArrayList<>(List.of(0, 0));
        List<String> groups = new ArrayList<>();
        Part rank = facts -> facts[0];
        int need = 2;
        int bonus = 1;
        int crown = 5;
        int turn = 0;
        int passes = 0;
        boolean over = false;

        PlainGame copy() {
            PlainGame c = new PlainGame();
            c.tiles = new ArrayList<>(tiles);
            c.rows = copyOf(rows);
            c.owners = new ArrayList<>(owners);
            c.hands = copyOf(hands);
            c.points = new ArrayList<>(points);
            c.groups = new ArrayList<>(groups);
            c.rank = rank;
            c.need = need;
            c.bonus = bonus;
            c.crown = crown;
            c.turn = turn;
            c.passes = passes;
            c.over = over;
            return c;
        }

        private static List<List<String>> copyOf(List<List<String>> lists) {
            List<List<String>> copy = new ArrayList<>();
            for (List<String> list : lists) {
                copy.add(new ArrayList<>(list));
            }
            return copy;
        }

        int allWords() {
            return hands.stream().mapToInt(List::size).sum();
        }

        int free(int row) {
            return tiles.get(row) - String.join("", rows.get(row)).length();
        }

        String last(int row) {
            return rows.get(row).get(rows.get(row).size() - 1);
        }

        boolean alike(char a, char b) {
            return a == b || groups.stream().anyMatch(g -> g.indexOf(a) >= 0 && g.indexOf(b) >= 0);
        }

        int rhyme(String a, String b) {
            int most = 0;
            for (int k = 1; k <= Math.min(a.length(), b.length()); k++) {
                boolean all = true;
                for (int i = 1; i <= k; i++) {
                    all &= alike(a.charAt(a.length() - i), b.charAt(b.length() - i));
                }
                most = all ? k : most;
            }
            return most;
        }

        private int rhymeOn(String word, int row) {
            return rows.get(row).isEmpty() ? 0 : rhyme(word, last(row));
        }

        int why(String word, int row) {
            if (word.length() > free(row)) {
                return 2;
            }
            if (!rows.get(row).isEmpty() && word.equals(last(row))) {
                return 3;
            }
            return !rows.get(row).isEmpty() && rhymeOn(word, row) < need ? 4 : 0;
        }

        int gain(String word, int row) {
            int full = word.length() == free(row) ? 1 : 0;
            return word.length() + bonus * rhymeOn(word, row) + full * crown * (rows.get(row).size() + 1);
        }

        int rankOf(String word, int row) {
            int left = free(row) - word.length();
            return (int) rank.value(new int[] {gain(word, row), word.length(), rhymeOn(word, row), left,
                left == 0 ? 1 : 0, hands.get(turn).size() - 1});
        }

        int best() {
            List<int[]> plays = plays();
            int[] best = null;
            for (int[] play : plays) {
                boolean better = best == null || play[2] > best[2]
                        || play[2] == best[2] && 10 * play[0] + play[1] < 10 * best[0] + best[1];
                best = better ? play : best;
            }
            return best == null ? -1 : 10 * best[0] + best[1];
        }

        private List<int[]> plays() {
            List<int[]> plays = new ArrayList<>();
            for (int r = 0; r < rows.size() && !over; r++) {
                for (int place = 0; place < hands.get(turn).size(); place++) {
                    String word = hands.get(turn).get(place);
                    if (why(word, r) == 0) {
                        plays.add(new int[] {place, r, rankOf(word, r)});
                    }
                }
            }
            return plays;
        }

        void step() {
            int best = best();
            if (best < 0) {
                pass();
            } else {
                lay(best / 10, best % 10);
            }
        }

        void pass() {
            passes++;
            if (passes == hands.size()) {
                end();
            } else {
                turn = (turn + 1) % hands.size();
            }
        }

        int lay(int place, int row) {
            String word = hands.get(turn).remove(place);
            int gain = gain(word, row);
            points.set(turn, points.get(turn) + gain);
            rows.get(row).add(word);
            owners.set(row, turn);
            passes = 0;
            if (allWords() == 0) {
                end();
            } else {
                turn = (turn + 1) % hands.size();
            }
            return gain;
        }

        private void end() {
            over = true;
            for (int r = 0; r < rows.size(); r++) {
                if (free(r) > 0 && owners.get(r) >= 0) {
                    int half = String.join("", rows.get(r)).length() / 2;
                    points.set(owners.get(r), points.get(owners.get(r)) + half);
                }
            }
        }

        int state(int what) {
            int laid = rows.stream().mapToInt(List::size).sum();
            int full = 0;
            for (int r = 0; r < rows.size(); r++) {
                full += free(r) == 0 ? 1 : 0;
            }
            int[] all = {rows.size(), hands.size(), need, bonus, crown, turn, over ? 1 : 0, passes, laid, full,
                plays().size(), allWords()};
            return all[what];
        }

        int row(int row, int what) {
            return new int[] {tiles.get(row), free(row), rows.get(row).size(), owners.get(row)}[what];
        }

        int tile(int row, int tile) {
            String letters = String.join("", rows.get(row));
            return tile < letters.length() ? letters.charAt(tile) - 'a' : -1;
        }

        int player(int player, int what) {
            int owned = (int) owners.stream().filter(o -> o == player).count();
            int letters = String.join("", hands.get(player)).length();
            return new int[] {hands.get(player).size(), letters, points.get(player), owned}[what];
        }
    }

    private static final class SetupError extends RuntimeException {
        private static final long serialVersionUID = 1L;
        final int code;
        final int offset;

        SetupError(int code, int offset) {
            this.code = code;
            this.offset = offset;
        }
    }

    /** Cuts the text into tokens first, then reads these; each error is met at the smallest offset. */
    private static final class PlainReader {
        private final List<String> tokens = new ArrayList<>();
        private final List<Integer> offsets = new ArrayList<>();
        private final PlainGame game = new PlainGame();
        private int next = 0;

        PlainReader(String text) {
            int at = 0;
            while (at < text.length()) {
                int end = at + 1;
                String kind = text.substring(at, end).matches("[a-z]") ? "[a-z]*" : "[0-9]*";
                if (text.substring(at, end).matches("[a-z0-9]")) {
                    while (end < text.length() && text.substring(at, end + 1).matches(kind)) {
                        end++;
                    }
                }
                if (text.charAt(at) != ' ') {
                    tokens.add(text.substring(at, end));
                    offsets.add(at);
                }
                at = end;
            }
            tokens.add("");
            offsets.add(text.length());
        }

        private String token() {
            return tokens.get(next);
        }

        private SetupError error(int code) {
            return new SetupError(code, offsets.get(next));
        }

        private boolean takes(String token) {
            if (token().equals(token)) {
                next++;
                return true;
            }
            return false;
        }

        private void need(String token) {
            if (!takes(token)) {
                throw error(-2);
            }
        }

        private int number(int least, int most) {
            if (!token().matches("[0-9]+")) {
                throw error(-2);
            }
            java.math.BigInteger n = new java.math.BigInteger(token());
            if (n.compareTo(java.math.BigInteger.valueOf(least)) < 0
                    || n.compareTo(java.math.BigInteger.valueOf(most)) > 0) {
                throw error(-3);
            }
            return n.intValue();
        }

        PlainGame read() {
            need("roof");
            game.tiles.clear();
            game.rows.clear();
            game.owners.clear();
            do {
                int tiles = number(1, 40);
                if (game.rows.size() == 6) {
                    throw error(-5);
                }
                next++;
                game.tiles.add(tiles);
                game.rows.add(new ArrayList<>());
                game.owners.add(-1);
            } while (!token().equals(";") && token().matches("[0-9]+"));
            need(";");
            Set<String> told = new HashSet<>();
            while (!token().isEmpty()) {
                String word = token();
                boolean again = !told.add(word) && !word.equals("hand") && !word.equals("alike");
                if (again || word.equals("players") && told.contains("hand")) {
                    throw error(-2);
                }
                statement(word);
                need(";");
            }
            return game;
        }

        private void statement(String word) {
            if (!List.of("players", "need", "bonus", "crown", "alike", "hand", "rank").contains(word)) {
                throw error(-2);
            }
            next++;
            switch (word) {
                case "players" -> {
                    for (int n = number(2, 4); game.hands.size() < n;) {
                        game.hands.add(new ArrayList<>());
                        game.points.add(0);
                    }
                    next++;
                }
                case "need" -> {
                    game.need = number(1, 4);
                    next++;
                }
                case "bonus" -> {
                    game.bonus = number(0, 9);
                    next++;
                }
                case "crown" -> {
                    game.crown = number(0, 99);
                    next++;
                }
                case "alike" -> alike();
                case "hand" -> hand();
                default -> game.rank = sum(0);
            }
        }

        private void alike() {
            if (!token().matches("[a-z]+")) {
                throw error(-2);
            }
            String all = String.join("", game.groups);
            for (int i = 0; i < token().length(); i++) {
                if (all.indexOf(token().charAt(i)) >= 0) {
                    throw new SetupError(-4, offsets.get(next) + i);
                }
                all += token().charAt(i);
            }
            game.groups.add(token());
            next++;
        }

        private void hand() {
            List<String> hand = game.hands.get(number(0, game.hands.size() - 1));
            next++;
            do {
                if (!token().matches("[a-z]+")) {
                    throw error(-2);
                }
                if (token().length() > 8) {
                    throw error(-3);
                }
                if (hand.size() == 8) {
                    throw error(-5);
                }
                hand.add(token());
                next++;
            } while (token().matches("[a-z]+"));
        }

        private static long limited(long n) {
            return Math.max(-1000000, Math.min(1000000, n));
        }

        private Part sum(int depth) {
            Part left = term(depth);
            while (true) {
                Part before = left;
                if (takes("+")) {
                    Part right = term(depth);
                    left = f -> limited(before.value(f) + right.value(f));
                } else if (takes("-")) {
                    Part right = term(depth);
                    left = f -> limited(before.value(f) - right.value(f));
                } else {
                    return left;
                }
            }
        }

        private Part term(int depth) {
            Part left = factor(depth);
            while (true) {
                Part before = left;
                if (takes("*")) {
                    Part right = factor(depth);
                    left = f -> limited(before.value(f) * right.value(f));
                } else if (takes("/")) {
                    Part right = factor(depth);
                    left = f -> right.value(f) == 0 ? 0 : limited(before.value(f) / right.value(f));
                } else {
                    return left;
                }
            }
        }

        private Part factor(int depth) {
            int fact = List.of("points", "letters", "rhyme", "left", "full", "hand").indexOf(token());
            if (fact >= 0) {
                next++;
                return f -> f[fact];
            }
            if (token().matches("[0-9]+")) {
                int n = number(0, 9999);
                next++;
                return f -> n;
            }
            if (token().equals("(") && depth == 4) {
                throw error(-6);
            }
            need("(");
            Part inner = sum(depth + 1);
            need(")");
            return inner;
        }
    }
}
