import java.util.NoSuchElementException;

/** The edges of paths and of the text: terms and promises 11 to 14. */
public final class PathEdgeTest {
    public static void main(String[] args) {
        Check.sentence("A PATH is a row of characters: pieces parted by slashes, of which empty"
                + " ones and . count for nothing", PathEdgeTest::piecesThatCountForNothing);
        Check.sentence("and .. takes away the piece before it that counts, if there is one.",
                PathEdgeTest::piecesTakenAway);
        Check.sentence("there is a list of files, U(root) at first", PathEdgeTest::rootAtFirst);
        Check.sentence("among the directories of the list, in order, the first one with a child of"
                + " this name", PathEdgeTest::firstWithAChild);
        Check.sentence("the list becomes U of it", PathEdgeTest::listOfTheChild);
        Check.sentence("the child is the LAST one come to (the root, if no piece is left)",
                PathEdgeTest::lastComeTo);
        Check.sentence("when there is none, nothing is found.", PathEdgeTest::nothingFound);
        Check.sentence("THE TEXT has at most 60 characters", PathEdgeTest::sixtyCharacters);
        Check.sentence("small letters, points, slashes and spaces", PathEdgeTest::characters);
        Check.sentence("up to the first space it is path A, behind that path B, further spaces"
                + " too, which no name has", PathEdgeTest::firstSpace);
        Check.sentence("(all A when there is none; B may be empty then)", PathEdgeTest::noSpace);
        Check.sentence("Puts n characters behind the text, the lowest byte of w first.",
                PathEdgeTest::lowestFirst);
        Check.sentence("False when n is not 1 .. 8, it would have more than 60, or one is not as"
                + " said.", PathEdgeTest::typeRefuses);
        Check.sentence("The text is empty.", PathEdgeTest::clear);
        Check.sentence("Looks path A up for a process: the first file of the list that is left.",
                PathEdgeTest::look);
        Check.sentence("IllegalArgumentException when there is no such process;"
                + " NoSuchElementException when nothing is found, or the list is empty.",
                PathEdgeTest::lookRefuses);
        Check.sentence("File k of the list to which path A leads for a process.",
                PathEdgeTest::member);
        Check.sentence("IllegalArgumentException when there is no such process;"
                + " NoSuchElementException when nothing is found; IndexOutOfBoundsException when"
                + " the list has no file k.", PathEdgeTest::memberRefuses);
        Check.end();
    }

    /** Root 0, directory b 1, plain b/f 2, directory b/abcd 3, plain b/abcd/f 4, plain z 5. */
    private static Client tree() {
        Client client = Client.attached();
        client.make("b", Client.DIR);
        client.make("f", 0, "b");
        client.make("abcd", Message.DIRECTORY + 3, "b");
        client.make("f", 7, "b", "abcd");
        client.make("z", 7);
        return client;
    }

    private static void leads(Client client, int due, String... paths) {
        for (String path : paths) {
            Client tried = client.again();
            tried.text(path);
            Check.same("look at '" + path + "'", tried.yard().look(0), due);
            tried.members(3, due);
        }
    }

    private static void leadsNowhere(Client client, String... paths) {
        for (String path : paths) {
            Client tried = client.again();
            tried.text(path);
            tried.refused("look at '" + path + "'", NoSuchElementException.class,
                    yard -> yard.look(0));
            tried.refused("member at '" + path + "'", NoSuchElementException.class,
                    yard -> yard.member(0, 0));
        }
    }

    private static void piecesThatCountForNothing() {
        Client client = tree();
        leads(client, 0, "", "/", "//", ".", "./", "/.", "././.", "/./", "///////");
        leads(client, 1, "b", "/b", "b/", "//b//", "./b", "b/.", "/./b/./", ".//.//b");
        leads(client, 2, "b/f", "b//f", "b/./f", "/b///./f/", "./b/f/.");
        leads(client, 0, "/".repeat(60), "./".repeat(30));
        leads(client, 1, "/".repeat(59) + "b", "b" + "/".repeat(59), "./".repeat(29) + "/b");
        leadsNowhere(client, "...", "b/...", "....", ".b", "b.", "b/.f", "b/f.", "b.f");
    }

    private static void piecesTakenAway() {
        Client client = tree();
        leads(client, 0, "..", "../..", "/..", "b/..", "b/f/../..", "b/../..", "x/..",
                "toolong/..", "../../../..", "b/../../x/../..");
        leads(client, 1, "../b", "b/f/..", "x/../b", "b/x/..", "b/x/y/../..", ".../../b",
                "b/./..//b", "b/..//./b", "x/./../b", "x//../b", "..//b/.", "b/f/x/../..",
                "z/../b", "a.b/../b", "b/../../../b");
        leads(client, 2, "b/abcd/../f", "b/abcd/f/../../f", "b/f/x/..", "b/f/../f",
                "../../b/f", "b/toolong/../f");
        leads(client, 1, "../".repeat(19) + "b", "b/".repeat(12) + "../".repeat(10) + "..",
                "x/".repeat(11) + "../".repeat(11) + "b");
        leadsNowhere(client, "x/b", "../x", "b/../f", "f/../x", "b/...", "b/.../..../f");
    }

    private static void rootAtFirst() {
        Client client = tree();
        client.bind("b", 0, 1, 2);
        client.membersOf("", 0, 1, 0);
        client.membersOf("/", 0, 1, 0);
        client.membersOf("", 1, 0);
        client.membersOf("f", 0, 2);
        client.membersOf("z", 0, 5);
        client.membersOf("b", 0, 1);
        client.text("f");
        client.refused("look", NoSuchElementException.class, yard -> yard.look(1));
        client.bind("abcd /", 0, 0, 1);
        client.membersOf("", 0, 3);
        client.membersOf("f", 0, 4);
        client.text("b");
        client.refused("look", NoSuchElementException.class, yard -> yard.look(0));
    }

    /** Root 0, directories a 1, b 2, c 3; plain a/x 4, b/x 5, b/y 6, c/y 7, c/w 8; plain g 9. */
    private static Client joined() {
        Client client = Client.attached();
        for (String name : new String[] {"a", "b", "c"}) {
            client.make(name, Client.DIR);
        }
        client.make("x", 7, "a");
        client.make("x", 7, "b");
        client.make("y", 7, "b");
        client.make("y", 7, "c");
        client.make("w", 7, "c");
        client.make("g", 7);
        return client;
    }

    private static void firstWithAChild() {
        Client client = joined();
        client.bind("b a", 0, 2, 2);
        client.bind("c a", 0, 2, 3);
        client.membersOf("a", 0, 1, 2, 3);
        client.membersOf("a/x", 0, 4);
        client.membersOf("a/y", 0, 6);
        client.membersOf("a/w", 0, 8);
        client.text("a/g");
        client.refused("look", NoSuchElementException.class, yard -> yard.look(0));
        Client gone = client.again();
        gone.remove("a", "x");
        gone.remove("b", "y");
        gone.membersOf("a/x", 0, 5);
        gone.membersOf("a/y", 0, 7);
        Client other = joined();
        other.bind("b a", 0, 1, 2);
        other.membersOf("a/x", 0, 5);
        Client plain = joined();
        plain.bind("a/x g", 0, 0, 1);
        plain.membersOf("g", 0, 4);
        plain.text("g/x");
        plain.refused("look", NoSuchElementException.class, yard -> yard.look(0));
    }

    private static void listOfTheChild() {
        Client client = Client.attached();
        client.make("a", Client.DIR);
        client.make("d", Client.DIR, "a");
        client.make("b", Client.DIR);
        client.make("x", 7, "b");
        client.make("x", 7, "a", "d");
        client.membersOf("a/d/x", 0, 5);
        client.bind("b a/d", 0, 1, 2);
        client.membersOf("a/d", 0, 3, 2);
        client.membersOf("a/d/x", 0, 4);
        client.membersOf("a/d/x", 1, 5);
        client.remove("b", "x");
        client.membersOf("a/d/x", 0, 5);
        client.bind("b a/d", 0, 0, 1);
        client.remove("b");
        client.membersOf("a/d", 0);
        client.text("a/d/x");
        client.refused("look behind an empty list", NoSuchElementException.class,
                yard -> yard.look(0));
        client.refused("member behind an empty list", NoSuchElementException.class,
                yard -> yard.member(0, 0));
        client.membersOf("a/d/x", 1, 5);
    }

    private static void lastComeTo() {
        Client client = joined();
        client.bind("b a", 0, 0, 1);
        Client again = client.again();
        again.bind("c a", 0, 0, 1);
        again.membersOf("a", 0, 3);
        again.membersOf("b", 0, 2);
        client.unbind("a", 0, 0);
        client.membersOf("a", 0, 1);
        Client root = joined();
        root.bind("a b/..", 0, 0, 1);
        root.membersOf("", 0, 1);
        Client joinedRoot = joined();
        joinedRoot.bind("a", 0, 0, 1);
        joinedRoot.membersOf("x", 0, 4);
        joinedRoot.unbind("", 0, 0);
        joinedRoot.membersOf("a", 0, 1);
    }

    private static void nothingFound() {
        Client client = tree();
        leadsNowhere(client, "x", "f", "b/b", "b/f/f", "z/f", "z/b", "b/abc", "b/abcde", "b/bcd",
                "bb", "bbbbb", "b/abcd/abcd", "x/b", "b/x/f", "b/f/abcd/f", "zz", "y");
        client.text("x b");
        client.refused("bind", NoSuchElementException.class, yard -> yard.bind(0, 0));
        client.text("b x");
        client.refused("bind", NoSuchElementException.class, yard -> yard.bind(0, 0));
        client.text("b/x");
        client.refused("unbind", NoSuchElementException.class, yard -> yard.unbind(0));
        client.remove("z");
        leadsNowhere(client, "z");
    }

    private static void sixtyCharacters() {
        Client client = tree();
        client.text("/".repeat(51));
        for (int n = 1; n < 9; n++) {
            Client tried = client.again();
            String part = "///////b".substring(8 - n);
            Check.is("type of " + n, tried.yard().type(Client.word(part), n));
            Check.same("look", tried.yard().look(0), 1);
        }
        for (int length = 52; length < 61; length++) {
            Client filled = tree();
            filled.text("/".repeat(length - 1) + "b");
            for (int n = 1; n < 9; n++) {
                int count = n;
                if (length + n > 60) {
                    filled.refused("type of " + n + " behind " + length,
                            yard -> yard.type(Client.word("////////"), count));
                } else {
                    Client tried = filled.again();
                    Check.is("type", tried.yard().type(Client.word("////////"), count));
                    Check.same("look", tried.yard().look(0), 1);
                }
            }
            Check.same("look", filled.yard().look(0), 1);
        }
    }

    private static void characters() {
        Client client = tree();
        client.text("b");
        for (int letter = 0; letter < 256; letter++) {
            boolean fine = letter >= 'a' && letter <= 'z' || letter == '.' || letter == '/'
                    || letter == ' ';
            int typed = letter;
            if (fine) {
                Check.is("type", client.again().yard().type(typed, 1));
                Check.is("type", client.again().yard().type(typed << 8 | '/', 2));
            } else {
                client.refused("type of letter " + letter, yard -> yard.type(typed, 1));
                client.refused("type of letter " + letter + " second",
                        yard -> yard.type(typed << 8 | '/', 2));
            }
        }
        for (int place = 0; place < 8; place++) {
            long wrong = Client.word("////////") ^ 128L << 8 * place;
            client.refused("type with a wrong letter at " + place, yard -> yard.type(wrong, 8));
            Client tried = client.again();
            if (place > 0) {
                Check.is("type of those before it", tried.yard().type(wrong, place));
                Check.same("look", tried.yard().look(0), 1);
            }
        }
    }

    private static void firstSpace() {
        Client client = tree();
        leads(client, 1, "b ", "b x", "b  ", "b f/x", "b b b", "b  x", "/b /");
        leads(client, 0, " ", " b", "  ", " x y");
        leads(client, 2, "b/f b");
        leadsNowhere(client, "x b", "bb b");
        client.text("b/abcd b");
        Check.same("bind", client.again().yard().bind(0, 0), 1);
        for (String text : new String[] {"b  b", "b b ", "b b b", "b b/ abcd", "b  "}) {
            client.text(text);
            client.refused("bind of '" + text + "'", NoSuchElementException.class,
                    yard -> yard.bind(0, 0));
        }
        client.bind("b/abcd x y/../b", 0, 0, 1);
        client.membersOf("b", 0, 3);
    }

    private static void noSpace() {
        Client client = tree();
        Client bound = client.again();
        bound.bind("b", 0, 0, 1);
        bound.membersOf("", 0, 1);
        Client withSpace = client.again();
        withSpace.bind("b ", 0, 0, 1);
        withSpace.membersOf("", 0, 1);
        Client empty = client.again();
        empty.bind("", 0, 1, 2);
        empty.membersOf("", 0, 0, 0);
        Client onlySpace = client.again();
        onlySpace.bind(" ", 0, 0, 1);
        onlySpace.membersOf("", 0, 0);
        Client onlyB = client.again();
        onlyB.bind(" b", 0, 0, 1);
        onlyB.membersOf("b", 0, 0);
        Client sixty = client.again();
        sixty.bind("/".repeat(59) + "b", 0, 0, 1);
        sixty.membersOf("", 0, 1);
    }

    private static void lowestFirst() {
        Client client = tree();
        Check.is("type", client.yard().type(0x662f62, 3));
        Check.same("look at b/f", client.yard().look(0), 2);
        client.yard().clear();
        Check.is("type", client.yard().type(0x2f2f2f2f2f2f2f62L, 8));
        Check.is("type", client.yard().type(0xff_ff66L, 1));
        Check.same("look at b///////f", client.yard().look(0), 2);
        client.yard().clear();
        for (char one : "b/abcd/f".toCharArray()) {
            Check.is("type of one", client.yard().type(one | -256L, 1));
        }
        Check.same("look at b/abcd/f", client.yard().look(0), 4);
    }

    private static void typeRefuses() {
        for (String before : new String[] {"", "b", "/".repeat(59) + "b"}) {
            Client client = tree();
            client.text(before);
            for (int n : new int[] {0, -1, -8, 9, 10, 16, 256, 257, Integer.MAX_VALUE,
                Integer.MIN_VALUE}) {
                client.refused("type of " + n, yard -> yard.type(Client.word("////////"), n));
                client.refused("type of " + n, yard -> yard.type(0, n));
            }
            client.refused("type of a zero", yard -> yard.type(0, 1));
            client.refused("type of bytes of ones", yard -> yard.type(-1, 8));
        }
    }

    private static void clear() {
        Client client = tree();
        for (String before : new String[] {"", "x", "b x", "/".repeat(60)}) {
            Client tried = client.again();
            tried.text(before);
            tried.yard().clear();
            client.like("clear", tried);
            tried.type("b" + "/".repeat(59));
            Check.same("look", tried.yard().look(0), 1);
        }
    }

    private static void look() {
        Client client = joined();
        client.bind("b a", 0, 2, 2);
        client.text("a");
        Check.same("look", client.yard().look(0), 1);
        Check.same("look for another process", client.yard().look(1), 1);
        client.bind("c a", 0, 1, 3);
        client.text("a");
        Check.same("look", client.yard().look(0), 3);
        Client looked = client.again();
        looked.yard().look(0);
        looked.yard().look(3);
        client.like("look", looked);
    }

    private static Client withEmptyList() {
        Client client = Client.attached();
        client.make("a", Client.DIR);
        client.make("b", Client.DIR);
        client.bind("a b", 0, 0, 1);
        client.remove("a");
        return client;
    }

    private static void lookRefuses() {
        Client client = tree();
        for (String path : new String[] {"b", "x"}) {
            client.text(path);
            for (int process : new int[] {-1, 4, 5, Integer.MAX_VALUE, Integer.MIN_VALUE}) {
                client.refused("look", IllegalArgumentException.class, yard -> yard.look(process));
            }
        }
        client.text("x");
        client.refused("look", NoSuchElementException.class, yard -> yard.look(0));
        client.refused("look", NoSuchElementException.class, yard -> yard.look(3));
        client.text("b");
        Check.same("look for 0", client.yard().look(0), 1);
        Check.same("look for 3", client.yard().look(3), 1);
        Client empty = withEmptyList();
        empty.text("b");
        empty.refused("look at an empty list", NoSuchElementException.class, yard -> yard.look(0));
        empty.refused("look", IllegalArgumentException.class, yard -> yard.look(4));
        Check.same("look for 1", empty.yard().look(1), 2);
        empty.text("b/x");
        empty.refused("look behind an empty list", NoSuchElementException.class,
                yard -> yard.look(0));
    }

    private static void member() {
        Client client = joined();
        client.bind("b a", 0, 2, 2);
        client.bind("c a", 0, 2, 3);
        client.bind("b a", 0, 2, 4);
        client.text("a");
        client.members(0, 1, 2, 3, 2);
        client.members(1, 1);
        client.members(3, 1);
        Client asked = client.again();
        asked.yard().member(0, 3);
        client.like("member", asked);
    }

    private static void memberRefuses() {
        Client client = joined();
        client.bind("b a", 0, 2, 2);
        for (String path : new String[] {"a", "no"}) {
            client.text(path);
            for (int process : new int[] {-1, 4, Integer.MAX_VALUE, Integer.MIN_VALUE}) {
                for (int k : new int[] {-1, 0, 9}) {
                    client.refused("member", IllegalArgumentException.class,
                            yard -> yard.member(process, k));
                }
            }
        }
        for (int k : new int[] {-1, 0, 9, Integer.MAX_VALUE, Integer.MIN_VALUE}) {
            client.refused("member", NoSuchElementException.class, yard -> yard.member(0, k));
        }
        client.text("a");
        for (int k : new int[] {-1, 2, 3, 4, 5, Integer.MAX_VALUE, Integer.MIN_VALUE}) {
            client.refused("member", IndexOutOfBoundsException.class, yard -> yard.member(0, k));
        }
        Check.same("the last one", client.yard().member(0, 1), 2);
        Client empty = withEmptyList();
        empty.text("b");
        for (int k : new int[] {-1, 0, 1}) {
            empty.refused("member", IndexOutOfBoundsException.class, yard -> yard.member(0, k));
        }
    }
}
