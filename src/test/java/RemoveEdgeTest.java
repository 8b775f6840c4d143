/** Terms, the edges of the messages close, remove and stat. */
public final class RemoveEdgeTest {
    public static void main(String[] args) {
        Check.sentence("120 CLOSE: handle. H. It is no more. Reply: nothing.",
                RemoveEdgeTest::close);
        Check.sentence("122 REMOVE: handle. H. It is no more, whatever comes",
                RemoveEdgeTest::noMoreWhateverComes);
        Check.sentence("G, m: it is the root, or its parent may not be written",
                RemoveEdgeTest::mayNot);
        Check.sentence("b: it has children.", RemoveEdgeTest::children);
        Check.sentence("the errors in the order in which they are looked for (122)",
                RemoveEdgeTest::orderOfErrors);
        Check.sentence("The file is gone; its parent's version is 1 greater. Reply: nothing.",
                RemoveEdgeTest::gone);
        Check.sentence("124 STAT: handle. H, G. Reply: its stat.", RemoveEdgeTest::stat);
        Check.end();
    }

    private static void close() {
        Client client = Client.attached();
        client.make("f", 7);
        for (int way : new int[] {-1, 0, 1, 2}) {
            Client tried = client.again();
            tried.done(Message.walk(1, 2, "f"));
            if (way >= 0) {
                tried.done(Message.open(2, way));
            }
            tried.reply(Message.close(2), new Message());
            client.like("a handle that was closed", tried);
            tried.refused(Message.close(2), 'h');
        }
        client.refused(Message.close(2), 'h');
        client.refused(Message.close(0), 'h');
        client.refused(Message.close(Message.NO_HANDLE), 'h');
        client.done(Message.walk(1, 2, "f"), Message.walk(1, 3, "f"), Message.remove(3));
        client.reply(Message.close(2), new Message());
        client.reply(Message.close(1), new Message());
        Check.same("handles", client.yard().handles(), 0);
        client.refused(Message.close(1), 'h');
    }

    /** The error, and behind it all is as if the handle had been closed. */
    private static void removeError(Client client, long handle, char letter) {
        Client removed = client.again();
        removed.error(Message.remove(handle), letter);
        removed.refused(Message.stat(handle), 'h');
        Client closed = client.again();
        closed.done(Message.close(handle));
        closed.like("remove with error " + letter, removed);
    }

    private static void noMoreWhateverComes() {
        Client client = Client.attached();
        client.make("d", Client.DIR);
        client.make("x", 7, "d");
        client.make("f", 7);
        client.done(Message.walk(1, 2, "d"), Message.walk(1, 3, "f"), Message.walk(1, 4, "f"));
        client.done(Message.walk(1, 5, "f"), Message.open(5, 2));
        removeError(client, 1, 'm');
        removeError(client, 2, 'b');
        client.done(Message.remove(4));
        Check.same("handles", client.yard().handles(), 4);
        client.refused(Message.remove(4), 'h');
        removeError(client, 3, 'g');
        removeError(client, 5, 'g');
        client.refused(Message.remove(9), 'h');
        client.refused(Message.remove(Message.NO_HANDLE), 'h');
        client.refused(Message.remove(1).number(0, 1), 'f');
        client.refused(Message.of(122).number(1, 3), 'f');
    }

    /**
     * Only the root is refused: no file is made in a directory that may not be written, and no
     * mode changes, so that no file has such a parent.
     */
    private static void mayNot() {
        Client client = Client.attached();
        removeError(client, 1, 'm');
        client.make("d", Message.DIRECTORY + 3);
        client.make("x", 0, "d");
        removeError(client, 1, 'm');
        client.done(Message.walk(1, 2, "d", "x"));
        client.done(Message.remove(2));
        client.make("ro", Message.DIRECTORY);
        client.done(Message.walk(1, 2, "ro"));
        client.done(Message.remove(2));
    }

    private static void children() {
        Client client = Client.attached();
        client.make("d", Client.DIR);
        client.make("x", 7, "d");
        client.make("e", Client.DIR, "d");
        client.done(Message.walk(1, 2, "d"));
        removeError(client, 2, 'b');
        client.remove("d", "x");
        removeError(client, 2, 'b');
        client.remove("d", "e");
        client.reply(Message.remove(2), new Message());
        client.about(1, 0, 4, 0, 15, 1);
    }

    private static void orderOfErrors() {
        Client client = Client.attached();
        client.make("d", Client.DIR);
        removeError(client, 1, 'm');
        client.refused(Message.remove(9), 'h');
        client.refused(Message.remove(9).number(0, 1), 'f');
        new Client().refused(Message.remove(9), 'v');
    }

    private static void gone() {
        Client client = Client.attached();
        client.make("d", Client.DIR);
        client.make("f", 7, "d");
        client.done(Message.walk(1, 2, "d", "f"), Message.open(2, 2), Message.write(2, 0, "ab"));
        client.reply(Message.remove(2), new Message());
        client.about(2, 1, 1, 2, 7, 1);
        client.about(1, 0, 2, 0, 15, 0);
        client.about(0, 0, 1, 0, 15, 0);
        Check.same("handles", client.yard().handles(), 1);
        Check.same("files", client.yard().files(), 3);
        client.done(Message.walk(1, 2, "d"));
        client.reply(Message.remove(2), new Message());
        client.about(1, 0, 2, 0, 15, 1);
        client.about(0, 0, 2, 0, 15, 0);
    }

    private static void stat() {
        Client client = Client.attached();
        client.done(Message.walk(1, 2), Message.create(2, "abcd", 5, 1));
        client.done(Message.write(2, 23, "z"));
        Client looked = client.again();
        looked.reply(Message.stat(2), new Message().stat(false, 1, 1, 5, 24, "abcd"));
        looked.reply(Message.stat(1), new Message().stat(true, 1, 0, 7, 0, ""));
        client.like("two stats", looked);
        client.refused(Message.stat(3), 'h');
        client.refused(Message.stat(Message.NO_HANDLE), 'h');
        client.remove("abcd");
        client.refused(Message.stat(2), 'g');
        client.refused(Message.stat(2).number(0, 1), 'f');
    }
}
