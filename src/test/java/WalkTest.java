/** Promise 3: walk; promise 7: how many handles there are. */
public final class WalkTest {
    public static void main(String[] args) {
        plainWalks();
        walkEndsAtAnError();
        errorsInOrder();
        walkFromWhatIsGone();
        walkMovesTheHandle();
        Check.end();
    }

    /** Root 0, directory d 1, d/f plain 2, directory d/e 3, directory shut 4 with x 5 shut in. */
    private static Client tree() {
        Client client = Client.attached();
        client.make("d", Client.DIR);
        client.make("f", 6, "d");
        client.make("e", Client.DIR, "d");
        client.make("shut", Message.DIRECTORY + 6);
        client.make("x", 7, "shut");
        return client;
    }

    private static void plainWalks() {
        Client client = tree();
        client.reply(Message.walk(1, 2), new Message().number(0, 2));
        Check.same("handles", client.yard().handles(), 2);
        client.reply(Message.walk(1, 3, "d", "f", "..", ".."),
                new Message().number(4, 2).qid(true, 2, 1).qid(false, 0, 2).qid(true, 2, 1)
                        .qid(true, 2, 0));
        Check.same("handles", client.yard().handles(), 3);
        client.reply(Message.walk(3, 4, ".."), new Message().number(1, 2).qid(true, 2, 0));
        client.reply(Message.walk(1, 5, "d", "e"),
                new Message().number(2, 2).qid(true, 2, 1).qid(true, 0, 3));
        client.reply(Message.walk(5, 6, "..", "f"),
                new Message().number(2, 2).qid(true, 2, 1).qid(false, 0, 2));
        Check.same("handles", client.yard().handles(), 6);
    }

    private static void walkEndsAtAnError() {
        Client client = tree();
        String[] missing = {"x", "dd", "", ".", "...", "D", ".d", "d.", "d\0", "ddddd", "d/f"};
        for (String name : missing) {
            client.error(Message.walk(1, 2, name, "d"), 'n');
        }
        client.reply(Message.walk(1, 2, "d", "x", "d"),
                new Message().number(1, 2).qid(true, 2, 1));
        Check.same("handles", client.yard().handles(), 1);
        client.reply(Message.walk(1, 2, "shut", "x"),
                new Message().number(1, 2).qid(true, 1, 4));
        client.done(Message.walk(1, 2, "shut"));
        client.error(Message.walk(2, 3, "x"), 'm');
        client.done(Message.walk(2, 3, ".."));
        Client other = tree();
        other.reply(Message.walk(1, 2, "d", "f", "f"),
                new Message().number(2, 2).qid(true, 2, 1).qid(false, 0, 2));
        other.done(Message.walk(1, 2, "d", "f"));
        other.error(Message.walk(2, 3, "f"), 'd');
        other.error(Message.walk(2, 3, ""), 'd');
        other.reply(Message.walk(2, 3, "..", "f", "x"),
                new Message().number(2, 2).qid(true, 2, 1).qid(false, 0, 2));
        Check.same("handles", other.yard().handles(), 2);
    }

    private static void errorsInOrder() {
        Client client = Client.attached();
        client.error(Message.walk(2, 3), 'h');
        client.error(Message.walk(Message.NO_HANDLE, 3), 'h');
        client.error(Message.walk(1, Message.NO_HANDLE), 'h');
        client.done(Message.walk(1, 2));
        client.error(Message.walk(1, 2), 'h');
        client.error(Message.walk(1, 2, "x"), 'h');
        client.done(Message.open(2, 0));
        client.error(Message.walk(2, 1), 'o');
        client.error(Message.walk(2, 2), 'o');
        client.error(Message.walk(2, Message.NO_HANDLE), 'o');
        for (int i = 3; i <= 8; i++) {
            client.done(Message.walk(1, i));
        }
        Check.same("handles", client.yard().handles(), 8);
        client.error(Message.walk(1, 9), 'l');
        client.error(Message.walk(1, 9, "x"), 'l');
        client.error(Message.walk(1, 8), 'h');
        client.error(Message.walk(1, Message.NO_HANDLE), 'h');
        client.error(Message.walk(2, 9), 'o');
        client.done(Message.walk(1, 1, ".."));
        Check.same("handles", client.yard().handles(), 8);
    }

    private static void walkFromWhatIsGone() {
        Client client = Client.attached();
        client.make("d", Client.DIR);
        client.done(Message.walk(1, 2, "d"));
        client.remove("d");
        client.error(Message.walk(2, 3), 'g');
        client.error(Message.walk(2, 2, ".."), 'g');
        client.error(Message.walk(2, 1), 'h');
        for (int i = 3; i <= 8; i++) {
            client.done(Message.walk(1, i));
        }
        client.error(Message.walk(2, 9), 'l');
        client.error(Message.walk(2, 2, "x"), 'g');
        client.error(Message.walk(1, 1, "d"), 'n');
    }

    private static void walkMovesTheHandle() {
        Client client = tree();
        client.done(Message.walk(1, 2, "d"));
        client.done(Message.walk(2, 2, "f"));
        client.reply(Message.stat(2), new Message().stat(false, 0, 2, 6, 0, "f"));
        client.reply(Message.walk(2, 2, "..", "x"), new Message().number(1, 2).qid(true, 2, 1));
        client.reply(Message.stat(2), new Message().stat(false, 0, 2, 6, 0, "f"));
        client.done(Message.walk(2, 2));
        client.done(Message.open(2, 2));
        client.error(Message.walk(2, 2, ".."), 'o');
        Check.same("handles", client.yard().handles(), 2);
    }
}
