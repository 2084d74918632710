/** The example of README.md: what stands there behind each call is what it answers. */
public final class ReadmeTest {
    public static void main(String[] args) {
        RhymeRoofs game = new RhymeRoofs();
        Check.due("load", load(game, "roof 12 6; hand 0 cat table; hand 1 bat cable;"), 4);
        Check.due("lay", game.lay(0, 1), 3);
        Check.due("rhyme", game.rhyme(1, 0, 1), 2);
        Check.due("best", game.best(), 1);
        Check.due("play", game.play(0, 1, 0), 15);
        Check.due("auto", game.auto(50), 3);
        Check.due("the game is over", game.state(6), 1);
        Check.due("winner", game.winner(), 1);
        Check.due("undo", game.undo(), 2);
        long before = game.checksum();
        Check.due("load of an error", load(game, "roof 41;"), RhymeRoofs.OUT_OF_RANGE);
        Check.due("errorOffset", game.errorOffset(), 5);
        Check.due("the game stays as it was", game.checksum(), before);
        Check.end();
    }

    private static int load(RhymeRoofs game, String text) {
        for (int i = 0; i < text.length(); i += 20) {
            game.append(fourBytes(text, i), fourBytes(text, i + 4), fourBytes(text, i + 8),
                    fourBytes(text, i + 12), fourBytes(text, i + 16));
        }
        return game.load(text.length());
    }

    private static int fourBytes(String text, int from) {
        int word = 0;
        for (int i = from; i < from + 4; i++) {
            word = word << 8 | (i < text.length() ? text.charAt(i) : ' ');
        }
        return word;
    }
}
