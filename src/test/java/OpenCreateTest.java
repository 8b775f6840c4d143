/** Promise 3: open and create; promises 8 (about) and 10 (files). */
public final class OpenCreateTest {
    public static void main(String[] args) {
        openAsksForRights();
        openErrorsInOrder();
        openTakesDataAway();
        openSaysRoom();
        createMakesFiles();
        createErrorsInOrder();
        createInWhatIsGone();
        createOpens();
        createUntilFull();
        Check.end();
    }

    private static void openAsksForRights() {
        int[] ways = {0, 1, 2, 16, 17, 18};
        int[] wanted = {4, 2, 6, 6, 2, 6};
        for (int rights = 0; rights < 8; rights++) {
            for (int i = 0; i < ways.length; i++) {
                Client client = Client.attached();
                client.make("f", rights);
                client.done(Message.walk(1, 2, "f"));
                if ((rights & wanted[i]) != wanted[i]) {
                    client.error(Message.open(2, ways[i]), 'm');
                    client.about(1, 0, 0, 0, rights, 0);
                    continue;
                }
                int version = ways[i] > 15 ? 1 : 0;
                client.reply(Message.open(2, ways[i]),
                        new Message().qid(false, version, 1).number(136, 4));
                client.error(Message.open(2, ways[i]), 'o');
                client.about(1, 0, version, 0, rights, 0);
                opened(client, 2, ways[i] % 16 != 1, ways[i] % 16 != 0);
            }
        }
    }

    private static void opened(Client client, int handle, boolean reading, boolean writing) {
        if (reading) {
            client.done(Message.read(handle, 0, 1));
        } else {
            client.error(Message.read(handle, 0, 1), 'o');
        }
        if (writing) {
            client.done(Message.write(handle, 0, "q"));
        } else {
            client.error(Message.write(handle, 0, "q"), 'o');
        }
    }

    private static void openErrorsInOrder() {
        Client client = Client.attached();
        client.make("d", Client.DIR);
        client.make("f", 6);
        client.make("shut", Message.DIRECTORY + 3);
        client.error(Message.open(2, 3), 'h');
        client.done(Message.walk(1, 2, "d"));
        for (int way : new int[] {3, 4, 15, 19, 20, 32, 33, 48, 128, 255}) {
            client.error(Message.open(2, way), 'm');
        }
        for (int way : new int[] {1, 2, 16, 17, 18}) {
            client.error(Message.open(2, way), 'd');
        }
        client.done(Message.walk(1, 3, "d"));
        client.remove("d");
        client.error(Message.open(2, 3), 'm');
        client.error(Message.open(2, 1), 'g');
        client.done(Message.walk(1, 4, "shut"));
        client.error(Message.open(4, 0), 'm');
        client.error(Message.open(4, 1), 'd');
        client.done(Message.walk(1, 5, "f"));
        client.done(Message.open(5, 0));
        client.error(Message.open(5, 3), 'o');
    }

    private static void openTakesDataAway() {
        Client client = Client.attached();
        client.make("f", 6);
        client.done(Message.walk(1, 2, "f"));
        client.done(Message.open(2, 1));
        client.done(Message.write(2, 0, "hello"));
        client.done(Message.walk(1, 3, "f"));
        client.reply(Message.open(3, 0), new Message().qid(false, 1, 1).number(136, 4));
        client.data(1, "hello");
        client.done(Message.walk(1, 4, "f"));
        client.reply(Message.open(4, 16), new Message().qid(false, 2, 1).number(136, 4));
        client.about(1, 0, 2, 0, 6, 0);
        client.data(1, "");
        client.error(Message.write(4, 0, "no"), 'o');
        client.done(Message.write(2, 3, "x"));
        client.data(1, "\0\0\0x");
    }

    private static void openSaysRoom() {
        Client client = new Client();
        client.done(Message.begin(64, "9P2000"));
        client.done(Message.attach(1));
        client.done(Message.walk(1, 2));
        client.reply(Message.create(2, "f", 7, 0), new Message().qid(false, 0, 1).number(40, 4));
        client.reply(Message.open(1, 0), new Message().qid(true, 1, 0).number(40, 4));
    }

    private static void createMakesFiles() {
        Client client = Client.attached();
        client.done(Message.walk(1, 2));
        client.reply(Message.create(2, "dir", Client.DIR, 0),
                new Message().qid(true, 0, 1).number(136, 4));
        client.about(0, 0, 1, 0, 15, 0);
        client.about(1, 0, 0, 0, 15, 0);
        client.done(Message.walk(1, 3, "dir"));
        client.reply(Message.create(3, "abcz", 0x7ffffffdL, 18),
                new Message().qid(false, 0, 2).number(136, 4));
        client.about(0, 0, 1, 0, 15, 0);
        client.about(1, 0, 1, 0, 15, 0);
        client.about(2, 1, 0, 0, 5, 0);
        client.reply(Message.stat(3), new Message().stat(false, 0, 2, 5, 0, "abcz"));
        client.done(Message.walk(1, 4, "dir"));
        client.done(Message.create(4, "a", 0xfffffff8L, 0));
        client.about(3, 1, 0, 0, 8, 0);
        Check.same("files", client.yard().files(), 4);
        client.reply(Message.stat(4), new Message().stat(true, 0, 3, 0, 0, "a"));
    }

    private static void createErrorsInOrder() {
        Client client = Client.attached();
        client.make("ro", Message.DIRECTORY + 5);
        client.make("f", 7);
        client.make("d", Client.DIR);
        client.error(Message.create(2, "", 7, 3), 'h');
        client.done(Message.walk(1, 2));
        client.error(Message.create(2, "", 7, 3), 'm');
        client.error(Message.create(2, "x", 7, 19), 'm');
        String[] noNames = {"", "abcde", "A", "a.", "..", ".", "a1", "a\0", "{", "`"};
        for (String name : noNames) {
            client.error(Message.create(2, name, 7, 0), 'n');
        }
        client.error(Message.create(2, "", Client.DIR, 1), 'n');
        client.error(Message.create(2, "f", Client.DIR, 1), 'x');
        client.error(Message.create(2, "g", Client.DIR, 1), 'd');
        client.error(Message.create(2, "g", Client.DIR, 16), 'd');
        client.done(Message.walk(1, 3, "ro"));
        client.error(Message.create(3, "", 7, 0), 'm');
        client.done(Message.walk(1, 4, "f"));
        client.error(Message.create(4, "", 7, 0), 'd');
        Check.same("files", client.yard().files(), 4);
    }

    private static void createInWhatIsGone() {
        Client gone = Client.attached();
        gone.make("d", Client.DIR);
        gone.done(Message.walk(1, 5, "d"));
        gone.remove("d");
        gone.error(Message.create(5, "", 7, 0), 'g');
        gone.error(Message.create(5, "", 7, 3), 'm');
        gone.make("d", Client.DIR);
        Check.same("files", gone.yard().files(), 3);
        gone.done(Message.walk(1, 6));
        gone.done(Message.open(6, 0));
        gone.error(Message.create(6, "e", 7, 3), 'o');
    }

    private static void createOpens() {
        int[] ways = {0, 1, 2, 16, 17, 18};
        for (int way : ways) {
            Client client = Client.attached();
            client.done(Message.create(1, "f", 0, way));
            client.error(Message.create(1, "g", 7, 0), 'o');
            client.error(Message.open(1, 0), 'o');
            client.about(1, 0, 0, 0, 0, 0);
            opened(client, 1, way % 16 != 1, way % 16 != 0);
        }
        Client client = Client.attached();
        client.done(Message.create(1, "d", Message.DIRECTORY, 0));
        client.reply(Message.read(1, 0, 100), new Message().number(0, 4));
        client.error(Message.write(1, 0, ""), 'o');
    }

    private static void createUntilFull() {
        Client client = Client.attached();
        for (int i = 1; i < 40; i++) {
            String name = "" + (char) ('a' + i / 26) + (char) ('a' + i % 26);
            client.feed(Message.walk(1, 2), Message.create(2, name, 7, 0), Message.close(2));
            Check.same("walk", client.yard().serve(), 111);
            Check.same("create", client.yard().serve(), 115);
            Check.same("close", client.yard().serve(), 121);
            Check.is("drop", client.yard().drop(9 + 24 + 7));
        }
        Check.same("files", client.yard().files(), 40);
        Check.same("mode of the last", client.yard().about(39, 3), 7);
        Check.throwing("about(40, 0)", IndexOutOfBoundsException.class,
                () -> client.yard().about(40, 0));
        client.error(Message.create(1, "z", 7, 0), 'l');
        client.error(Message.create(1, "z", Client.DIR, 1), 'd');
        Check.same("version of the root", client.yard().about(0, 1), 39);
        client.remove("bn");
        Check.same("the last is gone", client.yard().about(39, 4), 1);
        client.error(Message.create(1, "z", 7, 0), 'l');
    }
}
