/** Terms, the edges of files: how many, their names, parents, modes and data, and what is gone. */
public final class FilesEdgeTest {
    public static void main(String[] args) {
        Check.sentence("FILES have numbers 0, 1, .. in the order in which they are made",
                FilesEdgeTest::numbersInOrder);
        Check.sentence("40 at most in all", FilesEdgeTest::fortyFiles);
        Check.sentence("0 is the ROOT, there from the beginning",
                FilesEdgeTest::rootFromTheBeginning);
        Check.sentence("A file has a NAME (1 to 4 small letters", FilesEdgeTest::names);
        Check.sentence("the root has none", FilesEdgeTest::rootHasNoName);
        Check.sentence("a PARENT (a directory; the root its own)", FilesEdgeTest::parents);
        Check.sentence("a VERSION (0 at first), and DATA (at most 24 bytes, none at first)",
                FilesEdgeTest::atFirst);
        Check.sentence("DATA (at most 24 bytes", FilesEdgeTest::mostData);
        Check.sentence("A mode is the sum of 2^31 for a directory and of 4 (it may be READ), 2"
                + " (WRITTEN) and 1 (GONE THROUGH)", FilesEdgeTest::modes);
        Check.sentence("the root's is 2^31 + 7", FilesEdgeTest::modeOfTheRoot);
        Check.sentence("A file that was removed is GONE, stays as it was then (its data, too)",
                FilesEdgeTest::goneStaysAsItWas);
        Check.sentence("and its number is not used again", FilesEdgeTest::numbersAreNotUsedAgain);
        Check.sentence("The CHILDREN of a directory are the files with it as parent that are not"
                + " gone.", FilesEdgeTest::children);
        Check.end();
    }

    private static void numbersInOrder() {
        Client client = Client.attached();
        for (int number = 1; number < 4; number++) {
            client.done(Message.walk(1, 2));
            client.reply(Message.create(2, "abc".substring(number - 1, number), 7, 0),
                    new Message().qid(false, 0, number).number(136, 4));
            client.done(Message.close(2));
            Check.same("files", client.yard().files(), number + 1);
        }
    }

    private static void fortyFiles() {
        Client below = Client.withFiles(38);
        Check.same("files, two below", below.yard().files(), 38);
        below.reply(Message.create(1, "x", 7, 0),
                new Message().qid(false, 0, 38).number(136, 4));
        Check.same("files, one below", below.yard().files(), 39);
        Client last = Client.withFiles(39);
        last.reply(Message.create(1, "x", 7, 0),
                new Message().qid(false, 0, 39).number(136, 4));
        Check.same("files, all", last.yard().files(), 40);
        last.about(39, 0, 0, 0, 7, 0);
        Client full = Client.withFiles(40);
        Check.same("files, all", full.yard().files(), 40);
        full.refused(Message.create(1, "x", 7, 0), 'l');
        full.refused(Message.create(1, "x", Client.DIR, 0), 'l');
        full.refused("about the file behind the last", IndexOutOfBoundsException.class,
                yard -> yard.about(40, 0));
    }

    private static void rootFromTheBeginning() {
        Client client = new Client();
        Check.same("files", client.yard().files(), 1);
        client.about(0, 0, 0, 0, 15, 0);
        client.refused("about(1, 0)", IndexOutOfBoundsException.class, yard -> yard.about(1, 0));
        client.done(Message.begin(160, "9P2000"));
        client.reply(Message.attach(1), new Message().qid(true, 0, 0));
    }

    private static void names() {
        Client client = Client.attached();
        for (String name : new String[] {"a", "z", "az", "zaz", "abcd", "zzzz"}) {
            Client other = client.again();
            other.done(Message.create(1, name, 7, 0));
            other.reply(Message.stat(1), new Message().stat(false, 0, 1, 7, 0, name));
        }
        String[] others = {"", "abcde", "aaaaaaaa", "`", "{", "A", "Z", "0", "9", " ", ".", "..",
            "/", "\0", "\u00e1", "\u00ff", "`a", "a`", "{a", "a{", "abc`", "abc{", "ab{d", "abc.",
            "abc\0", "a b", "abc "};
        for (String name : others) {
            client.refused(Message.create(1, name, 7, 0), 'n');
        }
    }

    private static void rootHasNoName() {
        Client client = Client.attached();
        client.reply(Message.stat(1), new Message().stat(true, 0, 0, 7, 0, ""));
        client.refused(Message.walk(1, 2, ""), 'n');
        client.refused(Message.walk(1, 1, ""), 'n');
    }

    private static void parents() {
        Client client = Client.attached();
        client.make("d", Client.DIR);
        client.make("x", 7, "d");
        Check.same("parent of the root", client.yard().about(0, 0), 0);
        Check.same("parent of d", client.yard().about(1, 0), 0);
        Check.same("parent of d/x", client.yard().about(2, 0), 1);
        client.done(Message.walk(1, 2, "d", "x"));
        client.refused(Message.create(2, "y", 7, 0), 'd');
        client.reply(Message.walk(1, 3, ".."), new Message().number(1, 2).qid(true, 1, 0));
    }

    private static void atFirst() {
        Client client = Client.attached();
        client.make("f", 7);
        client.make("d", Client.DIR);
        for (int file = 1; file < 3; file++) {
            Check.same("version of a new file", client.yard().about(file, 1), 0);
            Check.same("length of a new file", client.yard().about(file, 2), 0);
            int asked = file;
            client.refused("byte 0 of a new file", IndexOutOfBoundsException.class,
                    yard -> yard.data(asked, 0));
        }
    }

    private static void mostData() {
        Client client = Client.attached();
        client.done(Message.create(1, "f", 7, 2));
        client.done(Message.write(1, 0, "abcdefghijklmnopqrstuvw"));
        Check.same("length, one below", client.yard().about(1, 2), 23);
        client.refused(Message.write(1, 23, "xy"), 'l');
        client.done(Message.write(1, 23, "x"));
        Check.same("length, all", client.yard().about(1, 2), 24);
        client.data(1, "abcdefghijklmnopqrstuvwx");
        client.refused(Message.write(1, 24, "y"), 'l');
        client.refused(Message.write(1, 0, "abcdefghijklmnopqrstuvwxy"), 'l');
    }

    private static void modes() {
        Client client = Client.attached();
        for (int rights = 0; rights < 8; rights++) {
            Client plain = client.again();
            plain.done(Message.create(1, "f", rights, 0));
            plain.about(1, 0, 0, 0, rights, 0);
            plain.reply(Message.stat(1), new Message().stat(false, 0, 1, rights, 0, "f"));
            Client directory = client.again();
            directory.done(Message.create(1, "d", Message.DIRECTORY + rights, 0));
            directory.about(1, 0, 0, 0, 8 + rights, 0);
            directory.reply(Message.stat(1), new Message().stat(true, 0, 1, rights, 0, "d"));
            mayBeRead(rights);
            mayBeWritten(rights);
            mayBeGoneThrough(rights);
        }
    }

    private static void mayBeRead(int rights) {
        for (long kind : new long[] {0, Message.DIRECTORY}) {
            Client client = Client.attached();
            client.make("f", kind + rights);
            client.done(Message.walk(1, 2, "f"));
            if ((rights & 4) != 0) {
                client.done(Message.open(2, 0));
            } else {
                client.refused(Message.open(2, 0), 'm');
            }
        }
    }

    private static void mayBeWritten(int rights) {
        Client client = Client.attached();
        client.make("f", rights);
        client.make("d", Message.DIRECTORY + rights);
        client.done(Message.walk(1, 2, "f"), Message.walk(1, 3, "d"));
        if ((rights & 2) != 0) {
            client.done(Message.open(2, 1), Message.create(3, "x", 0, 0));
        } else {
            client.refused(Message.open(2, 1), 'm');
            client.refused(Message.create(3, "x", 0, 0), 'm');
        }
    }

    private static void mayBeGoneThrough(int rights) {
        Client client = Client.attached();
        client.make("d", Message.DIRECTORY + rights);
        client.done(Message.walk(1, 2, "d"));
        client.refused(Message.walk(2, 3, "x"), (rights & 1) != 0 ? 'n' : 'm');
        if ((rights & 2) != 0) {
            client.done(Message.walk(2, 4), Message.create(4, "x", 0, 0));
            if ((rights & 1) != 0) {
                client.done(Message.walk(2, 3, "x"));
            } else {
                client.refused(Message.walk(2, 3, "x"), 'm');
            }
        }
    }

    private static void modeOfTheRoot() {
        Client client = Client.attached();
        Check.same("rights of the root", client.yard().about(0, 3), 15);
        client.reply(Message.stat(1), new Message().number(27, 2).qid(true, 0, 0)
                .number(2147483655L, 4).number(0, 8).string(""));
        client.done(Message.walk(1, 2));
        client.done(Message.open(2, 0));
        client.make("d", Client.DIR);
        client.done(Message.walk(1, 3, "d"));
    }

    private static void goneStaysAsItWas() {
        Client client = Client.attached();
        client.make("d", Client.DIR);
        client.make("f", 6, "d");
        client.done(Message.walk(1, 2, "d", "f"), Message.open(2, 2));
        client.done(Message.write(2, 0, "abcdefghijklmnopqrstuvwx"));
        client.done(Message.walk(1, 3, "d", "f"));
        client.remove("d", "f");
        client.about(2, 1, 1, 24, 6, 1);
        client.data(2, "abcdefghijklmnopqrstuvwx");
        client.refused(Message.write(2, 0, "z"), 'g');
        client.refused(Message.read(2, 0, 1), 'g');
        client.refused(Message.open(3, 16), 'g');
        client.refused(Message.stat(3), 'g');
        client.remove("d");
        client.about(1, 0, 2, 0, 15, 1);
        client.about(2, 1, 1, 24, 6, 1);
        client.data(2, "abcdefghijklmnopqrstuvwx");
    }

    private static void numbersAreNotUsedAgain() {
        Client client = Client.attached();
        client.make("f", 6);
        client.remove("f");
        Check.same("files, one gone", client.yard().files(), 2);
        client.make("f", 5);
        Check.same("files, one gone and one new", client.yard().files(), 3);
        client.about(1, 0, 0, 0, 6, 1);
        client.about(2, 0, 0, 0, 5, 0);
        Client full = Client.withFiles(40);
        full.remove("bn");
        Check.same("the last one is gone", full.yard().about(39, 4), 1);
        full.refused(Message.create(1, "bn", 7, 0), 'l');
    }

    private static void children() {
        Client client = Client.attached();
        client.make("d", Client.DIR);
        client.make("x", 7, "d");
        client.done(Message.walk(1, 2, "d"), Message.walk(1, 3, "d"), Message.walk(1, 4, "d"),
                Message.open(2, 0));
        client.refused(Message.create(3, "x", 7, 0), 'x');
        Client busy = client.again();
        busy.error(Message.remove(4), 'b');
        client.done(Message.walk(3, 5, "x"), Message.remove(5));
        client.refused(Message.walk(3, 5, "x"), 'n');
        client.reply(Message.read(2, 0, 100), new Message().number(0, 4));
        Client empty = client.again();
        empty.done(Message.remove(4));
        empty.about(1, 0, 2, 0, 15, 1);
        client.done(Message.create(3, "x", 7, 0));
        client.reply(Message.read(2, 0, 100),
                new Message().number(30, 4).stat(false, 0, 3, 7, 0, "x"));
        rootIsItsOwnChild();
    }

    /** By the words: its parent is itself, and it is not gone. */
    private static void rootIsItsOwnChild() {
        Client client = Client.attached();
        client.done(Message.open(1, 0));
        client.reply(Message.read(1, 0, 100),
                new Message().number(29, 4).stat(true, 0, 0, 7, 0, ""));
    }
}
