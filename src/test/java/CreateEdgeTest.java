/** Terms, the edges of the message create. */
public final class CreateEdgeTest {
    private static final int[] WAYS = {0, 1, 2, 16, 17, 18};

    public static void main(String[] args) {
        Check.sentence("114 CREATE: handle, string, 4 bytes, a byte. H, o: open",
                CreateEdgeTest::openHandle);
        Check.sentence("m: the byte as with 112", CreateEdgeTest::bytes);
        Check.sentence("G, d: no directory", CreateEdgeTest::noDirectory);
        Check.sentence("m: it may not be written", CreateEdgeTest::notWritten);
        Check.sentence("n: the string is no name", CreateEdgeTest::noName);
        Check.sentence("x: a child has it", CreateEdgeTest::nameTaken);
        Check.sentence("d: the 4 bytes, as a mode, say a directory, and the byte is not 0",
                CreateEdgeTest::directories);
        Check.sentence("l: there are 40 files.", CreateEdgeTest::fortyFiles);
        Check.sentence("the errors in the order in which they are looked for (114)",
                CreateEdgeTest::orderOfErrors);
        Check.sentence("the errors in the order in which they are looked for (114, 40 files)",
                CreateEdgeTest::orderWhenFull);
        Check.sentence("A new file: its mode is of the 4 bytes the highest bit and the lowest"
                + " three", CreateEdgeTest::modes);
        Check.sentence("its version is 0, the directory's is 1 greater.",
                CreateEdgeTest::versions);
        Check.sentence("The handle stands at it, open as the byte says (no matter what it may"
                + " be).", CreateEdgeTest::openAsTheByteSays);
        Check.sentence("Reply as with 112, for the new file.", CreateEdgeTest::replies);
        Check.end();
    }

    private static void openHandle() {
        Client client = Client.attached();
        client.done(Message.walk(1, 2), Message.open(1, 0));
        client.refused(Message.create(1, "a", 7, 0), 'o');
        client.done(Message.create(2, "a", Client.DIR, 0));
        client.refused(Message.create(2, "b", 7, 0), 'o');
        client.done(Message.attach(3));
        client.done(Message.create(3, "b", 7, 0));
    }

    private static void bytes() {
        Client client = Client.attached();
        for (int way = 0; way < 256; way++) {
            boolean fine = way < 3 || way > 15 && way < 19;
            if (fine) {
                client.again().done(Message.create(1, "a", 7, way));
            } else {
                client.refused(Message.create(1, "a", 7, way), 'm');
            }
        }
    }

    private static void noDirectory() {
        Client client = Client.attached();
        client.make("f", 7);
        client.make("d", Client.DIR);
        client.done(Message.walk(1, 2, "f"), Message.walk(1, 3, "d"), Message.walk(1, 4, "d"));
        client.refused(Message.create(2, "a", 7, 0), 'd');
        client.refused(Message.create(2, "a", Client.DIR, 0), 'd');
        client.again().done(Message.create(3, "a", 7, 0));
        client.done(Message.remove(4));
        client.refused(Message.create(3, "a", 7, 0), 'g');
    }

    private static void notWritten() {
        for (int rights = 0; rights < 8; rights++) {
            Client client = Client.attached();
            client.make("d", Message.DIRECTORY + rights);
            client.done(Message.walk(1, 2, "d"));
            if ((rights & 2) != 0) {
                client.done(Message.create(2, "a", 0, 0));
                Check.same("files", client.yard().files(), 3);
            } else {
                client.refused(Message.create(2, "a", 7, 0), 'm');
                client.refused(Message.create(2, "a", Client.DIR, 0), 'm');
            }
        }
    }

    private static void noName() {
        Client client = Client.attached();
        for (String name : new String[] {"", "abcde", "abcdefgh", "A", "`", "{", "..", ".", "a/b",
            "a ", " a", "a\0", "aaaA", "Aaaa", "1", "a1"}) {
            client.refused(Message.create(1, name, 7, 0), 'n');
            client.refused(Message.create(1, name, Client.DIR, 0), 'n');
        }
        for (String name : new String[] {"a", "z", "ab", "abc", "abcd", "zzzz"}) {
            client.again().done(Message.create(1, name, 7, 0));
        }
    }

    private static void nameTaken() {
        Client client = Client.attached();
        client.make("a", Client.DIR);
        client.make("abcd", 7);
        client.make("b", 7, "a");
        client.refused(Message.create(1, "a", 7, 0), 'x');
        client.refused(Message.create(1, "a", Client.DIR, 0), 'x');
        client.refused(Message.create(1, "abcd", 7, 0), 'x');
        client.again().done(Message.create(1, "b", 7, 0));
        client.again().done(Message.create(1, "abc", 7, 0));
        client.again().done(Message.create(1, "abce", 7, 0));
        client.again().done(Message.create(1, "aa", 7, 0));
        client.done(Message.walk(1, 2, "a"));
        client.refused(Message.create(2, "b", 7, 0), 'x');
        client.again().done(Message.create(2, "a", 7, 0));
        client.remove("a", "b");
        client.done(Message.create(2, "b", 7, 0));
    }

    private static void directories() {
        Client client = Client.attached();
        for (int way : WAYS) {
            for (long mode : new long[] {0x80000000L, 0x80000007L, 0xffffffffL}) {
                if (way == 0) {
                    client.again().done(Message.create(1, "a", mode, way));
                } else {
                    client.refused(Message.create(1, "a", mode, way), 'd');
                }
            }
            for (long mode : new long[] {0, 7, 0x40000000L, 0x7fffffffL}) {
                client.again().done(Message.create(1, "a", mode, way));
            }
        }
    }

    private static void fortyFiles() {
        Client last = Client.withFiles(39);
        last.done(Message.create(1, "a", 7, 0));
        Check.same("files", last.yard().files(), 40);
        Client full = Client.withFiles(40);
        full.refused(Message.create(1, "a", 7, 0), 'l');
        full.refused(Message.create(1, "a", Client.DIR, 0), 'l');
        full.remove("bn");
        full.refused(Message.create(1, "a", 7, 0), 'l');
    }

    private static void orderOfErrors() {
        Client client = Client.attached();
        client.make("f", 0);
        client.make("shut", Message.DIRECTORY + 5);
        client.done(Message.walk(1, 2, "f"), Message.walk(1, 3, "shut"), Message.walk(1, 4));
        client.done(Message.open(4, 0));
        long dir = Client.DIR;
        client.refused(Message.create(9, "", dir, 3), 'h');
        client.refused(Message.create(9, "", dir, 3).number(0, 1), 'f');
        client.refused(Message.create(4, "", dir, 3), 'o');
        client.refused(Message.create(4, "", dir, 1), 'o');
        client.refused(Message.create(4, "f", dir, 1), 'o');
        client.refused(Message.create(1, "", dir, 3), 'm');
        client.refused(Message.create(1, "f", dir, 3), 'm');
        client.refused(Message.create(1, "a", dir, 3), 'm');
        client.refused(Message.create(2, "a", 7, 3), 'm');
        client.refused(Message.create(2, "", dir, 1), 'd');
        client.refused(Message.create(2, "f", dir, 0), 'd');
        client.refused(Message.create(3, "", dir, 1), 'm');
        client.refused(Message.create(3, "a", dir, 1), 'm');
        client.refused(Message.create(1, "", dir, 1), 'n');
        client.refused(Message.create(1, "f", dir, 1), 'x');
        client.refused(Message.create(1, "a", dir, 1), 'd');
        orderWhenGone();
    }

    private static void orderWhenGone() {
        Client client = Client.attached();
        client.make("f", 7);
        client.make("d", Message.DIRECTORY + 4);
        client.done(Message.walk(1, 2, "f"), Message.walk(1, 3, "d"), Message.walk(1, 4, "d"));
        client.done(Message.open(4, 0));
        client.remove("f");
        client.remove("d");
        client.refused(Message.create(4, "", Client.DIR, 3), 'o');
        client.refused(Message.create(4, "a", 7, 0), 'o');
        client.refused(Message.create(2, "a", 7, 3), 'm');
        client.refused(Message.create(3, "a", 7, 3), 'm');
        client.refused(Message.create(2, "a", 7, 0), 'g');
        client.refused(Message.create(3, "a", 7, 0), 'g');
        client.refused(Message.create(3, "", 7, 0), 'g');
        client.refused(Message.create(3, "a", Client.DIR, 1), 'g');
    }

    private static void orderWhenFull() {
        Client client = Client.withFiles(40);
        client.done(Message.walk(1, 2, "ab"), Message.walk(1, 3, "ac"));
        client.refused(Message.create(2, "a", 7, 0), 'd');
        client.refused(Message.create(1, "a", 7, 3), 'm');
        client.refused(Message.create(1, "", 7, 0), 'n');
        client.refused(Message.create(1, "ab", 7, 0), 'x');
        client.refused(Message.create(1, "a", Client.DIR, 1), 'd');
        client.refused(Message.create(1, "a", Client.DIR, 0), 'l');
        client.done(Message.open(2, 0));
        client.refused(Message.create(2, "a", 7, 0), 'o');
        client.remove("ac");
        client.refused(Message.create(3, "a", 7, 0), 'g');
    }

    private static void modes() {
        Client client = Client.attached();
        long[] told = {0, 1, 7, 8, 0xf, 0x1ff, 0x7ffffff8L, 0x7fffffffL, 0x80000000L, 0x80000008L,
            0x80000005L, 0xfffffff8L, 0xffffffffL};
        for (long mode : told) {
            int rights = (int) (mode & 7);
            boolean directory = mode > 0x7fffffffL;
            Client made = client.again();
            made.done(Message.create(1, "a", mode, 0));
            made.about(1, 0, 0, 0, directory ? 8 + rights : rights, 0);
            made.reply(Message.stat(1), new Message().stat(directory, 0, 1, rights, 0, "a"));
        }
    }

    private static void versions() {
        for (int way : WAYS) {
            Client client = Client.attached();
            client.make("d", Client.DIR);
            client.done(Message.walk(1, 2, "d"));
            client.reply(Message.create(2, "f", 7, way),
                    new Message().qid(false, 0, 2).number(136, 4));
            Check.same("version of the file", client.yard().about(2, 1), 0);
            Check.same("version of its directory", client.yard().about(1, 1), 1);
            Check.same("version of the root", client.yard().about(0, 1), 1);
        }
    }

    private static void openAsTheByteSays() {
        for (int rights = 0; rights < 8; rights++) {
            for (int way : WAYS) {
                Client client = Client.attached();
                client.done(Message.create(1, "f", rights, way));
                Check.same("handles", client.yard().handles(), 1);
                client.reply(Message.stat(1), new Message().stat(false, 0, 1, rights, 0, "f"));
                if (way % 16 == 1) {
                    client.refused(Message.read(1, 0, 9), 'o');
                } else {
                    client.reply(Message.read(1, 0, 9), new Message().number(0, 4));
                }
                if (way % 16 == 0) {
                    client.refused(Message.write(1, 0, "z"), 'o');
                } else {
                    client.reply(Message.write(1, 0, "z"), new Message().number(1, 4));
                }
            }
            Client directory = Client.attached();
            directory.done(Message.create(1, "d", Message.DIRECTORY + rights, 0));
            directory.reply(Message.read(1, 0, 99), new Message().number(0, 4));
            directory.refused(Message.write(1, 0, ""), 'o');
            directory.refused(Message.read(1, 29, 99), 'f');
        }
    }

    private static void replies() {
        for (int most : new int[] {64, 65, 159, 160}) {
            Client client = Client.attached(most);
            client.again().reply(Message.create(1, "f", 7, 0),
                    new Message().qid(false, 0, 1).number(most - 24, 4));
            client.again().reply(Message.create(1, "abcd", Client.DIR, 0),
                    new Message().qid(true, 0, 1).number(most - 24, 4));
        }
    }
}
