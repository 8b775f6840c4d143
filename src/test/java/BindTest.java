import java.util.NoSuchElementException;

/** Promises 15 (bind) and 16 (unbind). */
public final class BindTest {
    public static void main(String[] args) {
        bindInThreeWays();
        bindKeepsOrder();
        bindPlainFiles();
        bindRefuses();
        bindHasLimits();
        bindSeesWhatIsGone();
        bindTheRoot();
        bindLooksThroughTheTable();
        unbind();
        Check.end();
    }

    /** Root 0, directories a 1, b 2, c 3, plain f 4, a/x 5, b/x 6, c/y 7, directory a/d 8. */
    private static Client tree() {
        Client client = Client.attached();
        client.make("a", Client.DIR);
        client.make("b", Client.DIR);
        client.make("c", Client.DIR);
        client.make("f", 6);
        client.make("x", 6, "a");
        client.make("x", 6, "b");
        client.make("y", 6, "c");
        client.make("d", Client.DIR, "a");
        return client;
    }

    private static void bind(Client client, String text, int how, int due) {
        client.text(text);
        Check.same("bind of " + text, client.yard().bind(0, how), due);
    }

    private static void look(Client client, String path, int due) {
        client.text(path);
        Check.same("look at " + path, client.yard().look(0), due);
    }

    private static void none(Client client, String path) {
        client.text(path);
        Check.throwing("look at " + path, NoSuchElementException.class,
                () -> client.yard().look(0));
    }

    private static void bindInThreeWays() {
        Client client = tree();
        bind(client, "a b", 0, 1);
        client.membersOf("b", 0, 1);
        look(client, "b/x", 5);
        client.membersOf("b", 1, 2);
        client.membersOf("a", 0, 1);
        Client before = tree();
        bind(before, "a b", 1, 2);
        before.membersOf("b", 0, 1, 2);
        look(before, "b/x", 5);
        look(before, "b/d", 8);
        Client behind = tree();
        bind(behind, "a b", 2, 2);
        behind.membersOf("b", 0, 2, 1);
        look(behind, "b/x", 6);
        look(behind, "b/d", 8);
        bind(behind, "c b", 0, 1);
        behind.membersOf("b", 0, 3);
        bind(behind, "b b", 2, 2);
        behind.membersOf("b", 0, 3, 3);
        bind(behind, "b b", 1, 4);
    }

    private static void bindKeepsOrder() {
        Client client = tree();
        bind(client, "a c", 1, 2);
        bind(client, "b c", 1, 3);
        client.membersOf("c", 0, 2, 1, 3);
        bind(client, "a c", 2, 4);
        client.membersOf("c", 0, 2, 1, 3, 1);
        bind(client, "c b", 0, 4);
        client.membersOf("b", 0, 2, 1, 3, 1);
        look(client, "b/x", 6);
        look(client, "b/y", 7);
    }

    private static void bindPlainFiles() {
        Client client = tree();
        bind(client, "a/x f", 0, 1);
        look(client, "f", 5);
        none(client, "f/x");
        for (String text : new String[] {"a f", "f a", "a/x b", "f "}) {
            client.text(text);
            for (int how = 0; how < 3; how++) {
                int way = how;
                Check.throwing("bind of " + text, IllegalStateException.class,
                        () -> client.yard().bind(0, way));
            }
        }
        client.text("a/x f");
        Check.throwing("bind", IllegalStateException.class, () -> client.yard().bind(0, 1));
        Check.throwing("bind", IllegalStateException.class, () -> client.yard().bind(0, 2));
        look(client, "f", 5);
    }

    private static void bindRefuses() {
        Client client = tree();
        Yard yard = client.yard();
        client.text("nox noy");
        for (int process : new int[] {-1, 4, Integer.MAX_VALUE, Integer.MIN_VALUE}) {
            Check.throwing("bind", IllegalArgumentException.class, () -> yard.bind(process, 0));
        }
        for (int how : new int[] {-1, 3, Integer.MAX_VALUE, Integer.MIN_VALUE}) {
            Check.throwing("bind", IllegalArgumentException.class, () -> yard.bind(0, how));
        }
        for (String text : new String[] {"no b", "a no", "f no", "no f", "a b c", "a  b", "a b ",
            "a a/x/d"}) {
            client.text(text);
            Check.throwing("bind of " + text, NoSuchElementException.class, () -> yard.bind(0, 0));
        }
        bind(client, "a x y/../b", 0, 1);
        client.membersOf("b", 0, 1);
    }

    private static void bindHasLimits() {
        Client client = tree();
        bind(client, "a b", 1, 2);
        bind(client, "b b", 1, 4);
        client.text("c b");
        Check.throwing("bind of five", UnsupportedOperationException.class,
                () -> client.yard().bind(0, 1));
        Check.throwing("bind of five", UnsupportedOperationException.class,
                () -> client.yard().bind(0, 2));
        client.membersOf("b", 0, 1, 2, 1, 2);
        client.text("f b");
        Check.throwing("bind of a plain one", IllegalStateException.class,
                () -> client.yard().bind(0, 1));
        bind(client, "b a", 0, 4);
        bind(client, "c c", 0, 1);
        bind(client, "f f", 0, 1);
        bind(client, "c a", 0, 1);
        bind(client, "b c", 0, 4);
        client.text("c/x f");
        Check.same("bind of a key", client.yard().bind(0, 0), 1);
        client.text("c c/d");
        Check.throwing("bind of a fifth key", UnsupportedOperationException.class,
                () -> client.yard().bind(0, 0));
        Check.throwing("bind of a fifth key, five files", UnsupportedOperationException.class,
                () -> client.yard().bind(0, 1));
        client.membersOf("c/d", 0, 8);
        client.text("b a/d");
        Check.same("bind for another process", client.yard().bind(1, 0), 1);
    }

    private static void bindSeesWhatIsGone() {
        Client client = tree();
        client.remove("a", "x");
        client.remove("a", "d");
        bind(client, "a b", 2, 2);
        bind(client, "a c", 0, 1);
        client.remove("a");
        client.membersOf("b", 0, 2);
        client.membersOf("c", 0);
        none(client, "c");
        none(client, "c/y");
        client.text("c b");
        Check.throwing("bind of nothing", NoSuchElementException.class,
                () -> client.yard().bind(0, 0));
        bind(client, "b c", 1, 1);
        client.membersOf("c", 0, 2);
        bind(client, "c b", 1, 2);
        client.membersOf("b", 0, 2, 2);
        client.text("c");
        Check.same("unbind", client.yard().unbind(0), 1);
        client.membersOf("c", 0, 3);
    }

    private static void bindTheRoot() {
        Client client = tree();
        bind(client, "a", 1, 2);
        client.membersOf("", 0, 1, 0);
        look(client, "x", 5);
        look(client, "f", 4);
        look(client, "a/x", 5);
        bind(client, "c /", 0, 1);
        look(client, "y", 7);
        none(client, "a");
        client.membersOf("/..", 0, 3);
        client.text("/");
        Check.same("unbind", client.yard().unbind(0), 0);
        look(client, "a", 1);
    }

    private static void bindLooksThroughTheTable() {
        Client client = tree();
        bind(client, "a b", 0, 1);
        bind(client, "c b/d", 0, 1);
        look(client, "a/d/y", 7);
        look(client, "b/d/y", 7);
        client.text("a/d");
        Check.same("unbind", client.yard().unbind(0), 1);
        look(client, "b/d", 8);
        bind(client, "c b", 1, 2);
        client.membersOf("b", 0, 3, 1);
        client.text("b");
        Check.same("unbind", client.yard().unbind(0), 0);
    }

    private static void unbind() {
        Client client = tree();
        Yard yard = client.yard();
        bind(client, "a b", 0, 1);
        bind(client, "a c", 0, 1);
        bind(client, "f f", 0, 1);
        client.text("no");
        for (int process : new int[] {-1, 4, Integer.MAX_VALUE, Integer.MIN_VALUE}) {
            Check.throwing("unbind", IllegalArgumentException.class, () -> yard.unbind(process));
        }
        Check.throwing("unbind", NoSuchElementException.class, () -> yard.unbind(0));
        client.text("a");
        Check.throwing("unbind of no key", NoSuchElementException.class, () -> yard.unbind(0));
        client.text("b f");
        Check.throwing("unbind of no key", NoSuchElementException.class, () -> yard.unbind(1));
        Check.same("unbind", yard.unbind(0), 2);
        Check.throwing("unbind again", NoSuchElementException.class, () -> yard.unbind(0));
        client.membersOf("b", 0, 2);
        client.membersOf("c", 0, 1);
        look(client, "f", 4);
        Check.same("unbind", yard.unbind(0), 1);
        client.text("c");
        Check.same("unbind", yard.unbind(0), 0);
        client.membersOf("c", 0, 3);
        goneKeysStay();
    }

    private static void goneKeysStay() {
        Client client = tree();
        bind(client, "a b", 0, 1);
        bind(client, "a c", 0, 1);
        client.remove("b", "x");
        client.remove("b");
        client.text("c");
        Check.same("unbind", client.yard().unbind(0), 1);
    }
}
