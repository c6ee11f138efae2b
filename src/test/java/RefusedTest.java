import java.util.function.ToLongFunction;

/** Every call, refused in every way that the document names, changes nothing; nor do those that only ask. */
public final class RefusedTest {
    /** An object that is full of everything; made anew for each call, as none is good for more than 512. */
    private static LoseLeague full() {
        LoseLeague x = Check.told("plain 9;proud 6;wise 17;careless 20;");
        for (int i = 0; i < 9; i++) {
            x.book(i % 4, (i + 1) % 4);
        }
        x.alter(0, 2, 3);
        x.alter(1, 3, 4);
        x.weeks(13);
        x.keep(1);
        x.sheet(0, 0, 7);
        x.lay(0, 1, 0);
        x.read(0, 0, 6, 1);
        x.book(1, 3);
        x.see(2, 1);
        for (int i = 1; i < 6; i++) {
            x.see(20, 9);
        }
        for (int i = 0; i < 160; i++) {
            x.feed('a' + i % 26);
        }
        return x;
    }

    private static void stays(String call, ToLongFunction<LoseLeague> f, long want) {
        LoseLeague x = full();
        String before = Check.state(x);
        Check.due(call, f.applyAsLong(x), want);
        Check.same("behind " + call, Check.state(x), before);
        Check.due("the image behind " + call, x.back(1), 13);
    }

    private static void bad(String call, ToLongFunction<LoseLeague> f) {
        stays(call, f, -1);
    }

    private static void refusedChanges() {
        bad("feed(128)", x -> x.feed(128));
        stays("feed(97)", x -> x.feed(97), -3);
        bad("end(161)", x -> x.end(161));
        bad("end(-1)", x -> x.end(-1));
        bad("alter(4, 1, 1)", x -> x.alter(4, 1, 1));
        bad("alter(0, 4, 1)", x -> x.alter(0, 4, 1));
        bad("alter(0, 0, 4)", x -> x.alter(0, 0, 4));
        bad("alter(0, 1, 21)", x -> x.alter(0, 1, 21));
        bad("alter(0, 2, 100)", x -> x.alter(0, 2, 100));
        bad("alter(0, 3, -1)", x -> x.alter(0, 3, -1));
        bad("lend(0, 0, 1)", x -> x.lend(0, 0, 1));
        bad("lend(0, 1, 21)", x -> x.lend(0, 1, 21));
        stays("lend(0, 2, 20)", x -> x.lend(0, 2, 20), -2);
        stays("lend(0, 2, 4)", x -> x.lend(0, 2, 4), -3);
        bad("book(1, 1)", x -> x.book(1, 1));
        stays("book(0, 1)", x -> x.book(0, 1), -3);
        bad("strike(11)", x -> x.strike(11));
        bad("strike(-1)", x -> x.strike(-1));
        bad("weeks(31)", x -> x.weeks(31));
        bad("weeks(-1)", x -> x.weeks(-1));
        bad("see(21, 9)", x -> x.see(21, 9));
        bad("see(0, 4)", x -> x.see(0, 4));
        stays("see(0, 9)", x -> x.see(0, 9), -3);
        bad("forget(7)", x -> x.forget(7));
        bad("forget(-1)", x -> x.forget(-1));
        bad("keep(2)", x -> x.keep(2));
        bad("keep(-1)", x -> x.keep(-1));
        bad("back(2)", x -> x.back(2));
        stays("back(0)", x -> x.back(0), -2);
        bad("sheet(0, 3, 1)", x -> x.sheet(0, 3, 1));
        bad("sheet(0, 0, 41)", x -> x.sheet(0, 0, 41));
        stays("sheet(0, 0, -1)", x -> x.sheet(0, 0, -1), -14);
        stays("lay(0, 7, 1)", x -> x.lay(0, 7, 1), -12);
        stays("lay(1, 0, 1)", x -> x.lay(1, 0, 1), -11);
        stays("read(0, 0, 0, 1)", x -> x.read(0, 0, 0, 1), -20);
        bad("read(0, 0, 0, 21)", x -> x.read(0, 0, 0, 21));
    }

    private static void asking() {
        stays("game(0, 2)", x -> x.game(0, 2) < 0 ? 0 : 1, 1);
        stays("runs(60, 0)", x -> x.runs(60, 0) < 0 ? 0 : 1, 1);
        stays("ahead(0, 60, 0)", x -> x.ahead(0, 60, 0) < 0 ? 0 : 1, 1);
        stays("loser(60)", x -> x.loser(60) == -1 ? 0 : 1, 1);
        stays("loses(0)", x -> x.loses(0) == -1 ? 0 : 1, 1);
        stays("order(0)", x -> x.order(0), -2);
        stays("loan(60, 0)", x -> x.loan(60, 0) == -1 ? 0 : 1, 1);
        stays("swap(60, 0)", x -> x.swap(60, 0) == -1 ? 0 : 1, 1);
        stays("skip(60, 0)", x -> x.skip(60, 0) == -1 ? 0 : 1, 1);
        stays("most(0, 60)", x -> x.most(0, 60) == -1 ? 0 : 1, 1);
        stays("kind(0, 60, 0)", x -> x.kind(0, 60, 0) < 0 ? 0 : 1, 1);
        stays("luck(3, 0, 8, 0)", x -> x.luck(3, 0, 8, 0) < 0 ? 0 : 1, 1);
        stays("mean(3, 8, 0)", x -> x.mean(3, 8, 0) < 0 ? 0 : 1, 1);
        stays("ask(0, 0)", x -> x.ask(0, 0) == -1 ? 0 : 1, 1);
        stays("drift(3, 60, 0)", x -> x.drift(3, 60, 0) < 0 ? 0 : 1, 1);
        stays("end(160)", x -> x.end(160), 160);
        stays("weeks(0)", x -> x.weeks(0), 0);
        stays("lend(0, 1, 0)", x -> x.lend(0, 1, 0) < 0 ? 0 : 1, 1);
    }

    public static void main(String[] args) {
        refusedChanges();
        asking();
        Check.finish("RefusedTest");
    }
}
