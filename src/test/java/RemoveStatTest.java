/** Promise 3: close, remove and stat; promises 7 (handles) and 8 (about). */
public final class RemoveStatTest {
    public static void main(String[] args) {
        close();
        stat();
        remove();
        removeErrors();
        aboutOutside();
        Check.end();
    }

    private static void close() {
        Client client = Client.attached();
        client.error(Message.close(2), 'h');
        client.error(Message.close(Message.NO_HANDLE), 'h');
        client.done(Message.walk(1, 2));
        client.done(Message.open(2, 0));
        client.reply(Message.close(2), new Message());
        Check.same("handles", client.yard().handles(), 1);
        client.error(Message.close(2), 'h');
        client.done(Message.walk(1, 2));
        client.error(Message.read(2, 0, 9), 'o');
        client.make("a", 7);
        client.done(Message.walk(1, 3, "a"));
        client.remove("a");
        client.reply(Message.close(3), new Message());
    }

    private static void stat() {
        Client client = Client.attached();
        client.reply(Message.stat(1), new Message().stat(true, 0, 0, 7, 0, ""));
        client.error(Message.stat(2), 'h');
        client.make("f", 7);
        client.done(Message.walk(1, 2, "f"));
        client.done(Message.open(2, 1));
        client.done(Message.write(2, 0, "abc"));
        client.reply(Message.stat(2), new Message().stat(false, 1, 1, 7, 3, "f"));
        client.make("abcd", Message.DIRECTORY);
        client.done(Message.walk(1, 3, "abcd"));
        client.reply(Message.stat(3), new Message().stat(true, 0, 2, 0, 0, "abcd"));
        client.remove("abcd");
        client.error(Message.stat(3), 'g');
    }

    private static void remove() {
        Client client = Client.attached();
        client.make("d", Client.DIR);
        client.make("f", 0, "d");
        client.done(Message.walk(1, 2, "d", "f"));
        client.reply(Message.remove(2), new Message());
        Check.same("handles", client.yard().handles(), 1);
        client.about(2, 1, 0, 0, 0, 1);
        client.about(1, 0, 2, 0, 15, 0);
        Check.same("files", client.yard().files(), 3);
        client.error(Message.remove(2), 'h');
        client.done(Message.walk(1, 2, "d"));
        client.done(Message.open(2, 0));
        client.done(Message.remove(2));
        client.about(1, 0, 2, 0, 15, 1);
        client.about(0, 0, 2, 0, 15, 0);
        client.make("d", 6);
        client.about(3, 0, 0, 0, 6, 0);
    }

    private static void removeErrors() {
        Client client = Client.attached();
        client.error(Message.remove(1), 'm');
        Check.same("handles", client.yard().handles(), 0);
        client.error(Message.stat(1), 'h');
        client.done(Message.attach(1));
        client.make("d", Client.DIR);
        client.done(Message.walk(1, 2, "d"));
        client.done(Message.walk(2, 3));
        client.done(Message.walk(2, 4));
        client.make("f", 7, "d");
        client.error(Message.remove(2), 'b');
        Check.same("handles", client.yard().handles(), 3);
        client.about(1, 0, 1, 0, 15, 0);
        client.remove("d", "f");
        client.done(Message.remove(3));
        client.error(Message.remove(4), 'g');
        Check.same("handles", client.yard().handles(), 1);
        client.about(0, 0, 2, 0, 15, 0);

        Client shut = Client.attached();
        shut.done(Message.walk(1, 2));
        shut.done(Message.create(2, "ro", Message.DIRECTORY + 5, 0));
        shut.done(Message.walk(1, 3, "ro"));
        shut.error(Message.create(3, "f", 7, 0), 'm');
        shut.done(Message.remove(3));
        shut.error(Message.remove(2), 'g');
        Check.same("handles", shut.yard().handles(), 1);
    }

    private static void aboutOutside() {
        Client client = Client.attached();
        client.make("a", 7);
        int[][] wrong = {{-1, 0}, {2, 0}, {0, 5}, {0, -1}, {1, 5}, {39, 0}, {40, 0},
            {Integer.MAX_VALUE, 1}, {Integer.MIN_VALUE, 1}, {0, Integer.MAX_VALUE}};
        for (int[] one : wrong) {
            Check.throwing("about(" + one[0] + ", " + one[1] + ")",
                    IndexOutOfBoundsException.class, () -> client.yard().about(one[0], one[1]));
        }
    }
}
