import java.util.NoSuchElementException;

/** Promises 11 (type), 12 (clear), 13 (look) and 14 (member). */
public final class TextTest {
    public static void main(String[] args) {
        typeRefuses();
        typeFillsTheText();
        paths();
        pathAEndsAtTheSpace();
        lookAndMemberRefuse();
        lookSeesWhatIsThere();
        Check.end();
    }

    /** Root 0, directory b 1, b/f plain 2, directory b/abcd 3, b/abcd/f plain 4. */
    private static Client tree() {
        Client client = Client.attached();
        client.make("b", Client.DIR);
        client.make("f", 6, "b");
        client.make("abcd", Message.DIRECTORY + 2, "b");
        client.done(Message.walk(1, 99, "b", "abcd"));
        client.done(Message.create(99, "f", 0, 0));
        client.done(Message.close(99));
        return client;
    }

    private static void typeRefuses() {
        Yard yard = tree().yard();
        for (int n : new int[] {0, -1, 9, Integer.MAX_VALUE, Integer.MIN_VALUE}) {
            Check.is("type " + n, !yard.type(Client.word("bbbbbbbb"), n));
        }
        for (int letter = 0; letter < 256; letter++) {
            boolean due = letter >= 'a' && letter <= 'z' || letter == '.' || letter == '/'
                    || letter == ' ';
            long word = Client.word("b" + (char) letter) | -1L << 16;
            if (!due) {
                Check.is("type of letter " + letter, !yard.type(word, 2));
                Check.is("type of letter " + letter, !new MountYard().type(letter, 1));
            }
        }
        Check.same("look, nothing was typed", yard.look(0), 0);
        for (String part : new String[] {"a", "z", ".", "/", " ", "az./ za."}) {
            Check.is("type of " + part, yard.type(Client.word(part), part.length()));
        }
        Check.is("type of the first bytes alone", yard.type(Client.word("a\0"), 1));
        yard.clear();
        Check.is("type", yard.type(Client.word("b/fX"), 3));
        Check.same("look", yard.look(0), 2);
    }

    private static void typeFillsTheText() {
        Client client = tree();
        Yard yard = client.yard();
        client.text("////////////////////////////////////////////////////b");
        Check.is("type over 60", !yard.type(Client.word("////////"), 8));
        Check.same("look", yard.look(0), 1);
        Check.is("type up to 60", yard.type(Client.word("/////./"), 7));
        Check.same("look", yard.look(0), 1);
        Check.is("type behind 60", !yard.type(Client.word("/"), 1));
        yard.clear();
        Check.same("look of nothing", yard.look(0), 0);
        Check.is("type again", yard.type(Client.word("b"), 1));
        Check.same("look", yard.look(0), 1);
        Check.is("type behind", yard.type(Client.word("/f"), 2));
        Check.same("look", yard.look(0), 2);
    }

    private static void paths() {
        Client client = tree();
        lead(client, 0, "", "/", "//", ".", "..", "../..", "/b/..");
        lead(client, 1, "b", "/b", "b/", "//b//", "./b", "../b", "b/.", "x/../b", "a.b/../b",
                ".../../b", "toolong/../b");
        lead(client, 2, "b/f", "b//f", "b/./f", "b/abcd/../f", "b/abcd/x/../../f",
                "b/x/y/../../f", "b/f/../f", "b/../../../b/f");
        lead(client, 3, "b/abcd");
        lead(client, 4, "b/abcd/f");
        for (String path : new String[] {"x", "x y", "f", "b/b", "b/f/f", "b/f/x", "...",
            "b/...", "b.",
            ".b", "b/abc", "b/abcde", "bb", "b/ff", "a.b"}) {
            client.text(path);
            nothingAt(client, path);
        }
    }

    private static void lead(Client client, int due, String... paths) {
        for (String path : paths) {
            client.text(path);
            Check.same("look at " + path, client.yard().look(due % 4), due);
            client.members(due % 4, due);
        }
    }

    private static void nothingAt(Client client, String path) {
        Yard yard = client.yard();
        Check.throwing("look at " + path, NoSuchElementException.class, () -> yard.look(0));
        Check.throwing("member at " + path, NoSuchElementException.class, () -> yard.member(0, 0));
        Check.throwing("member at " + path, NoSuchElementException.class, () -> yard.member(0, -1));
        Check.throwing("unbind at " + path, NoSuchElementException.class, () -> yard.unbind(0));
    }

    private static void pathAEndsAtTheSpace() {
        Client client = tree();
        client.text("b x");
        Check.same("look", client.yard().look(0), 1);
        client.text(" b");
        Check.same("look", client.yard().look(0), 0);
        client.text("b/f b b");
        Check.same("look", client.yard().look(0), 2);
        client.text("b ");
        Check.same("look", client.yard().look(0), 1);
    }

    private static void lookAndMemberRefuse() {
        Client client = tree();
        Yard yard = client.yard();
        client.text("x");
        for (int process : new int[] {-1, 4, Integer.MAX_VALUE, Integer.MIN_VALUE}) {
            Check.throwing("look", IllegalArgumentException.class, () -> yard.look(process));
            Check.throwing("member", IllegalArgumentException.class,
                    () -> yard.member(process, -1));
        }
        client.text("b");
        for (int k : new int[] {-1, 1, 4, Integer.MAX_VALUE, Integer.MIN_VALUE}) {
            Check.throwing("member", IndexOutOfBoundsException.class, () -> yard.member(0, k));
        }
    }

    private static void lookSeesWhatIsThere() {
        Client client = tree();
        client.remove("b", "f");
        client.text("b/f");
        nothingAt(client, "b/f");
        client.make("f", 7, "b");
        Check.same("look", client.yard().look(3), 5);
    }
}
