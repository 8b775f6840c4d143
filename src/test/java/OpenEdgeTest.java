/** Terms, the edges of the message open. */
public final class OpenEdgeTest {
    private static final int[] WAYS = {0, 1, 2, 16, 17, 18};

    public static void main(String[] args) {
        Check.sentence("112 OPEN: handle, a byte. H, o: it is open", OpenEdgeTest::openHandle);
        Check.sentence("m: the byte is not 0, 1, 2, 16, 17 or 18", OpenEdgeTest::bytes);
        Check.sentence("d: a directory, and the byte not 0", OpenEdgeTest::directories);
        Check.sentence("m: the file may not be what is wanted.", OpenEdgeTest::rights);
        Check.sentence("the errors in the order in which they are looked for (112)",
                OpenEdgeTest::orderOfErrors);
        Check.sentence("0 and 16 READING, 1 and 17 WRITING, 2 and 18 both",
                OpenEdgeTest::openFor);
        Check.sentence("those above 15 want WRITTEN, too, and take all data away",
                OpenEdgeTest::dataTakenAway);
        Check.sentence("(the version is 1 greater, also without data)",
                OpenEdgeTest::versionGreater);
        Check.sentence("Reply: qid (behind that), M - 24 in 4.", OpenEdgeTest::replies);
        Check.end();
    }

    /** Plain f 1 with rights and three bytes of data, and handle 2 at it. */
    private static Client withFile(int rights) {
        Client client = Client.attached();
        client.done(Message.walk(1, 2), Message.create(2, "f", rights, 1));
        client.done(Message.write(2, 0, "abc"), Message.close(2), Message.walk(1, 2, "f"));
        return client;
    }

    private static void openHandle() {
        for (int way : WAYS) {
            Client client = withFile(7);
            client.done(Message.open(2, way));
            for (int again : WAYS) {
                client.refused(Message.open(2, again), 'o');
            }
            client.done(Message.walk(1, 3, "f"));
            client.done(Message.open(3, way));
        }
        Client created = Client.attached();
        created.done(Message.create(1, "f", 7, 0));
        created.refused(Message.open(1, 0), 'o');
    }

    private static void bytes() {
        Client client = withFile(7);
        for (int way = 0; way < 256; way++) {
            boolean fine = way < 3 || way > 15 && way < 19;
            if (fine) {
                client.again().done(Message.open(2, way));
            } else {
                client.refused(Message.open(2, way), 'm');
            }
        }
    }

    private static void directories() {
        Client client = Client.attached();
        client.make("d", Client.DIR);
        client.done(Message.walk(1, 2, "d"));
        for (int way : WAYS) {
            if (way == 0) {
                client.again().done(Message.open(2, 0));
                client.again().done(Message.open(1, 0));
            } else {
                client.refused(Message.open(2, way), 'd');
                client.refused(Message.open(1, way), 'd');
            }
        }
    }

    private static void rights() {
        int[] wanted = {4, 2, 6, 6, 2, 6};
        for (int rights = 0; rights < 8; rights++) {
            Client client = withFile(rights);
            for (int i = 0; i < WAYS.length; i++) {
                if ((rights & wanted[i]) == wanted[i]) {
                    client.again().done(Message.open(2, WAYS[i]));
                } else {
                    client.refused(Message.open(2, WAYS[i]), 'm');
                }
            }
            Client directory = Client.attached();
            directory.make("d", Message.DIRECTORY + rights);
            directory.done(Message.walk(1, 2, "d"));
            if ((rights & 4) != 0) {
                directory.done(Message.open(2, 0));
            } else {
                directory.refused(Message.open(2, 0), 'm');
            }
        }
    }

    private static void orderOfErrors() {
        Client client = Client.attached();
        client.make("d", Message.DIRECTORY);
        client.make("f", 7);
        client.make("e", Message.DIRECTORY);
        client.make("g", 0);
        client.done(Message.walk(1, 2, "d"), Message.walk(1, 3, "f"), Message.walk(1, 4, "f"));
        client.done(Message.walk(1, 5, "g"), Message.walk(1, 6, "e"), Message.open(4, 0));
        client.refused(Message.open(9, 3), 'h');
        client.refused(Message.open(2, 3), 'm');
        client.refused(Message.open(2, 1), 'd');
        client.refused(Message.open(2, 0), 'm');
        client.refused(Message.open(4, 3), 'o');
        client.remove("f");
        client.remove("e");
        client.remove("g");
        client.refused(Message.open(4, 0), 'o');
        client.refused(Message.open(4, 3), 'o');
        client.refused(Message.open(3, 3), 'm');
        client.refused(Message.open(3, 19), 'm');
        client.refused(Message.open(3, 0), 'g');
        client.refused(Message.open(5, 0), 'g');
        client.refused(Message.open(6, 1), 'g');
        client.refused(Message.open(6, 0), 'g');
        client.refused(Message.open(6, 3), 'm');
        client.refused(Message.open(9, 3).number(0, 1), 'f');
    }

    private static void openFor() {
        for (int way : WAYS) {
            Client client = withFile(7);
            client.done(Message.open(2, way));
            if (way % 16 == 1) {
                client.refused(Message.read(2, 0, 9), 'o');
            } else {
                client.reply(Message.read(2, 0, 9), way > 15 ? new Message().number(0, 4)
                        : new Message().number(3, 4).letters("abc"));
            }
            if (way % 16 == 0) {
                client.refused(Message.write(2, 0, "z"), 'o');
            } else {
                client.done(Message.write(2, 0, "z"));
                client.data(1, way > 15 ? "z" : "zbc");
            }
        }
    }

    private static void dataTakenAway() {
        for (int way : WAYS) {
            Client client = withFile(7);
            client.done(Message.open(2, way));
            client.data(1, way > 15 ? "" : "abc");
            client.about(1, 0, way > 15 ? 2 : 1, way > 15 ? 0 : 3, 7, 0);
        }
        Client full = Client.attached();
        full.done(Message.create(1, "f", 7, 2));
        full.done(Message.write(1, 0, "abcdefghijklmnopqrstuvwx"));
        full.done(Message.attach(2), Message.walk(2, 2, "f"), Message.open(2, 17));
        full.data(1, "");
        full.reply(Message.read(1, 0, 24), new Message().number(0, 4));
        full.done(Message.write(1, 23, "z"));
        full.data(1, "\0".repeat(23) + "z");
        Client notWritten = withFile(4);
        notWritten.refused(Message.open(2, 16), 'm');
        notWritten.done(Message.open(2, 0));
    }

    private static void versionGreater() {
        Client client = Client.attached();
        client.make("f", 7);
        int version = 0;
        for (int way : WAYS) {
            version += way > 15 ? 1 : 0;
            client.done(Message.walk(1, 2, "f"));
            client.reply(Message.open(2, way),
                    new Message().qid(false, version, 1).number(136, 4));
            client.done(Message.close(2));
            client.about(1, 0, version, 0, 7, 0);
        }
        client.about(0, 0, 1, 0, 15, 0);
    }

    private static void replies() {
        for (int most : new int[] {64, 65, 100, 159, 160}) {
            Client client = Client.attached(most);
            client.make("f", 7);
            client.done(Message.walk(1, 2, "f"));
            client.again().reply(Message.open(2, 0),
                    new Message().qid(false, 0, 1).number(most - 24, 4));
            client.again().reply(Message.open(2, 18),
                    new Message().qid(false, 1, 1).number(most - 24, 4));
            client.again().reply(Message.open(1, 0),
                    new Message().qid(true, 1, 0).number(most - 24, 4));
        }
    }
}
