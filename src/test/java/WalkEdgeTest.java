/** Terms, the edges of the message walk. */
public final class WalkEdgeTest {
    public static void main(String[] args) {
        Check.sentence("110 WALK: handle, new handle, k in 2 bytes, k strings.",
                WalkEdgeTest::howManyStrings);
        Check.sentence("H, o: it is open", WalkEdgeTest::openHandle);
        Check.sentence("h: the new one is another number, and is NONE or there is one",
                WalkEdgeTest::newHandle);
        Check.sentence("l: it is another number, and there are 8", WalkEdgeTest::eightHandles);
        Check.sentence("the errors in the order in which they are looked for (110)",
                WalkEdgeTest::orderOfErrors);
        Check.sentence("From where the handle stands it goes on by each string",
                WalkEdgeTest::fromWhereItStands);
        Check.sentence(".. to the parent (from a plain file, too)", WalkEdgeTest::toTheParent);
        Check.sentence("else d: it is no directory", WalkEdgeTest::noDirectory);
        Check.sentence("m: it may not be gone through", WalkEdgeTest::notGoneThrough);
        Check.sentence("n: no child has this name; to that child.", WalkEdgeTest::noSuchChild);
        Check.sentence("When the first one has an error, that is the reply",
                WalkEdgeTest::errorOfTheFirst);
        Check.sentence("else it ends where an error is met.", WalkEdgeTest::endsAtAnError);
        Check.sentence("Reply: how many strings were gone, in 2, and the qids of the files come"
                + " to.", WalkEdgeTest::replies);
        Check.sentence("If all were gone, the new handle (a number that is the same is it itself)"
                + " stands there, not open.", WalkEdgeTest::standsThere);
        Check.end();
    }

    /** Root 0; directories d 1, d/e 2, d/e/g 3; plain d/f 4; shut 5 without way in; d/e/g/x 6. */
    private static Client tree() {
        Client client = Client.attached();
        client.make("d", Client.DIR);
        client.make("e", Client.DIR, "d");
        client.make("g", Client.DIR, "d", "e");
        client.make("f", 6, "d");
        client.make("shut", Message.DIRECTORY + 6);
        client.make("x", 7, "d", "e", "g");
        return client;
    }

    private static Message walked(int... files) {
        Message made = new Message().number(files.length, 2);
        int[] versions = {2, 2, 1, 1, 0, 0, 0};
        for (int file : files) {
            made.qid(file != 4 && file != 6, versions[file], file);
        }
        return made;
    }

    private static void howManyStrings() {
        Client client = tree();
        client.again().reply(Message.walk(1, 2), walked());
        client.again().reply(Message.walk(1, 2, "d"), walked(1));
        client.again().reply(Message.walk(1, 2, "d", "e", "g"), walked(1, 2, 3));
        client.again().reply(Message.walk(1, 2, "d", "e", "g", "x"), walked(1, 2, 3, 6));
        client.refused(Message.walk(1, 2, "d", "e", "g", "x", ".."), 'f');
        client.refused(Message.of(110).number(1, 4).number(2, 4).number(0, 2).string("d"), 'f');
        client.refused(Message.of(110).number(1, 4).number(2, 4).number(2, 2).string("d"), 'f');
        client.refused(Message.of(110).number(1, 4).number(2, 4), 'f');
    }

    private static void openHandle() {
        Client client = tree();
        client.make("y", 7);
        for (int way = 0; way < 3; way++) {
            Client opened = client.again();
            opened.done(Message.walk(1, 2, "y"), Message.open(2, way));
            opened.refused(Message.walk(2, 3), 'o');
            opened.refused(Message.walk(2, 2), 'o');
            opened.refused(Message.walk(2, 3, ".."), 'o');
            opened.done(Message.walk(1, 3));
        }
        client.done(Message.walk(1, 2), Message.create(2, "c", 7, 0));
        client.refused(Message.walk(2, 3), 'o');
    }

    private static void newHandle() {
        Client client = tree();
        client.done(Message.walk(1, 4294967294L));
        client.refused(Message.walk(1, Message.NO_HANDLE), 'h');
        client.refused(Message.walk(1, 4294967294L), 'h');
        client.refused(Message.walk(1, 4294967294L, "d"), 'h');
        client.refused(Message.walk(4294967294L, 1), 'h');
        client.again().done(Message.walk(1, 4294967293L));
        client.again().done(Message.walk(1, 0));
        client.again().done(Message.walk(1, 1));
        client.again().done(Message.walk(1, 1, "d"));
    }

    private static Client withHandles(int count) {
        Client client = tree();
        for (int i = 2; i <= count; i++) {
            client.done(Message.walk(1, i));
        }
        Check.same("handles", client.yard().handles(), count);
        return client;
    }

    private static void eightHandles() {
        Client seven = withHandles(7);
        seven.done(Message.walk(1, 9, "d"));
        Check.same("handles", seven.yard().handles(), 8);
        Client eight = withHandles(8);
        eight.refused(Message.walk(1, 9), 'l');
        eight.refused(Message.walk(1, 9, "d"), 'l');
        eight.reply(Message.walk(1, 1, "d"), walked(1));
        eight.reply(Message.walk(8, 8), walked());
        Check.same("handles", eight.yard().handles(), 8);
        eight.done(Message.close(4));
        eight.done(Message.walk(1, 9));
        Check.same("handles", eight.yard().handles(), 8);
    }

    private static void orderOfErrors() {
        Client full = withHandles(7);
        full.done(Message.walk(1, 8), Message.open(8, 0));
        full.refused(Message.walk(9, 10), 'h');
        full.refused(Message.walk(9, 9), 'h');
        full.refused(Message.walk(8, 1), 'o');
        full.refused(Message.walk(8, Message.NO_HANDLE), 'o');
        full.refused(Message.walk(8, 9), 'o');
        full.refused(Message.walk(8, 9, "no"), 'o');
        full.refused(Message.walk(1, 2), 'h');
        full.refused(Message.walk(1, Message.NO_HANDLE), 'h');
        full.refused(Message.walk(1, 2, "no"), 'h');
        full.refused(Message.walk(1, 9, "no"), 'l');
        full.refused(Message.walk(8, 9, "", "", "", "", ""), 'f');
        errorsBeforeGone();
        Client plain = tree();
        plain.done(Message.walk(1, 1, "d", "f"));
        plain.refused(Message.walk(1, 2, "no"), 'd');
        Client shut = tree();
        shut.done(Message.walk(1, 1, "shut"));
        shut.refused(Message.walk(1, 2, "no"), 'm');
    }

    private static void errorsBeforeGone() {
        Client gone = Client.attached();
        gone.make("d", Message.DIRECTORY);
        gone.make("f", 7);
        gone.done(Message.walk(1, 2, "d"), Message.walk(1, 3, "f"), Message.walk(1, 4, "f"));
        gone.done(Message.open(4, 0));
        gone.remove("d");
        gone.remove("f");
        gone.refused(Message.walk(2, 5), 'g');
        gone.refused(Message.walk(2, 2, "x"), 'g');
        gone.refused(Message.walk(3, 5, "x"), 'g');
        gone.refused(Message.walk(2, 2, ".."), 'g');
        gone.refused(Message.walk(2, 1), 'h');
        gone.refused(Message.walk(2, Message.NO_HANDLE), 'h');
        gone.refused(Message.walk(4, 5), 'o');
        gone.done(Message.walk(1, 5), Message.walk(1, 6), Message.walk(1, 7), Message.walk(1, 8));
        gone.refused(Message.walk(2, 9), 'l');
        gone.refused(Message.walk(2, 2), 'g');
    }

    private static void fromWhereItStands() {
        Client client = tree();
        client.done(Message.walk(1, 2, "d"));
        client.again().reply(Message.walk(2, 3, "e"), walked(2));
        client.again().reply(Message.walk(2, 3, "e", "g", "x"), walked(2, 3, 6));
        client.refused(Message.walk(2, 3, "d"), 'n');
        client.refused(Message.walk(1, 3, "e"), 'n');
        client.done(Message.walk(2, 2, "e"));
        client.again().reply(Message.walk(2, 3, "g"), walked(3));
        client.refused(Message.walk(2, 3, "e"), 'n');
    }

    private static void toTheParent() {
        Client client = tree();
        client.again().reply(Message.walk(1, 2, ".."), walked(0));
        client.again().reply(Message.walk(1, 2, "..", "..", "..", "d"), walked(0, 0, 0, 1));
        client.again().reply(Message.walk(1, 2, "d", "f", "..", "e"), walked(1, 4, 1, 2));
        client.again().reply(Message.walk(1, 2, "shut", ".."), walked(5, 0));
        Client plain = client.again();
        plain.done(Message.walk(1, 1, "d", "f"));
        plain.again().reply(Message.walk(1, 2, ".."), walked(1));
        plain.again().reply(Message.walk(1, 2, "..", "..", ".."), walked(1, 0, 0));
        Client shut = client.again();
        shut.done(Message.walk(1, 1, "shut"));
        shut.again().reply(Message.walk(1, 2, ".."), walked(0));
    }

    private static void noDirectory() {
        Client client = tree();
        client.done(Message.walk(1, 1, "d", "f"));
        for (String name : new String[] {"f", "e", "x", "", ".", "...", "abcde"}) {
            client.refused(Message.walk(1, 2, name), 'd');
            client.refused(Message.walk(1, 1, name), 'd');
        }
        Client ended = tree();
        ended.again().reply(Message.walk(1, 2, "d", "f", "x"), walked(1, 4));
        Client standing = ended.again();
        standing.reply(Message.walk(1, 1, "d", "f", "x"), walked(1, 4));
        ended.like("a walk that ended early", standing);
    }

    private static void notGoneThrough() {
        Client client = tree();
        client.done(Message.walk(1, 99, "shut"), Message.create(99, "x", 7, 0));
        client.done(Message.close(99));
        Client ended = client.again();
        ended.reply(Message.walk(1, 2, "shut", "x"),
                new Message().number(1, 2).qid(true, 1, 5));
        client.like("a walk that ended early", ended);
        client.done(Message.walk(1, 1, "shut"));
        client.refused(Message.walk(1, 2, "x"), 'm');
        client.refused(Message.walk(1, 2, "no"), 'm');
        client.refused(Message.walk(1, 2, ""), 'm');
        client.refused(Message.walk(1, 2, "."), 'm');
        Client open = Client.attached();
        open.make("a", Message.DIRECTORY + 3);
        open.make("x", 7, "a");
        open.done(Message.walk(1, 2, "a", "x"));
    }

    private static void noSuchChild() {
        Client client = tree();
        client.again().done(Message.walk(1, 2, "d"));
        client.again().done(Message.walk(1, 2, "shut"));
        for (String name : new String[] {"e", "dd", "D", "", ".", "...", "....", "d\0", "\0d",
            "d.", ".d", "d/e", "/d", "d/", "shu", "shutt", "hut", "tuhs", "shuu", "..\0", "../",
            ".\u002f", "\u00e4"}) {
            client.refused(Message.walk(1, 2, name), 'n');
        }
        client.done(Message.walk(1, 2, "d"));
        client.refused(Message.walk(2, 3, "d"), 'n');
        client.refused(Message.walk(2, 3, "shut"), 'n');
        client.remove("d", "f");
        client.refused(Message.walk(2, 3, "f"), 'n');
    }

    private static void errorOfTheFirst() {
        Client client = tree();
        client.refused(Message.walk(1, 2, "no", "d"), 'n');
        client.refused(Message.walk(1, 1, "no", "..", "d", "e"), 'n');
        client.done(Message.walk(1, 2, "d", "f"), Message.walk(1, 3, "shut"));
        client.refused(Message.walk(2, 4, "x", ".."), 'd');
        client.refused(Message.walk(3, 4, "x", ".."), 'm');
    }

    private static void endsAtAnError() {
        Client client = tree();
        String[][] walks = {{"d", "no", "e"}, {"d", "e", "no", "g"}, {"d", "e", "g", "no"},
            {"d", "f", "e"}, {"d", "shut", "e"}, {"shut", "x"}, {"..", "no"}};
        int[][] due = {{1}, {1, 2}, {1, 2, 3}, {1, 4}, {1}, {5}, {0}};
        for (int i = 0; i < walks.length; i++) {
            for (int target = 1; target < 3; target++) {
                Client ended = client.again();
                ended.reply(Message.walk(1, target, walks[i]), walked(due[i]));
                client.like("a walk that ended early", ended);
            }
        }
    }

    private static void replies() {
        Client client = tree();
        client.again().reply(Message.walk(1, 2), new Message().number(0, 2));
        client.again().reply(Message.walk(1, 2, "d", "e", "g", ".."),
                new Message().number(4, 2).qid(true, 2, 1).qid(true, 1, 2).qid(true, 1, 3)
                        .qid(true, 1, 2));
        Client least = Client.attached(64);
        least.reply(Message.walk(1, 2, "..", "..", "..", ".."),
                new Message().number(4, 2).qid(true, 0, 0).qid(true, 0, 0).qid(true, 0, 0)
                        .qid(true, 0, 0));
    }

    private static void standsThere() {
        Client client = tree();
        Client other = client.again();
        other.done(Message.walk(1, 2, "d", "e"));
        Check.same("handles", other.yard().handles(), 2);
        other.reply(Message.stat(1), new Message().stat(true, 2, 0, 7, 0, ""));
        other.reply(Message.stat(2), new Message().stat(true, 1, 2, 7, 0, "e"));
        other.refused(Message.read(2, 0, 1), 'o');
        Client itself = client.again();
        itself.done(Message.walk(1, 1, "d", "e"));
        Check.same("handles", itself.yard().handles(), 1);
        itself.reply(Message.stat(1), new Message().stat(true, 1, 2, 7, 0, "e"));
        itself.refused(Message.read(1, 0, 1), 'o');
        Client same = client.again();
        same.done(Message.walk(1, 1));
        client.like("a walk of no strings to itself", same);
        Client copied = client.again();
        copied.done(Message.walk(1, 2, "d"), Message.walk(2, 3));
        copied.reply(Message.stat(3), new Message().stat(true, 2, 1, 7, 0, "d"));
    }
}
