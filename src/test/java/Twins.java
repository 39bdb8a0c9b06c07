import java.util.ArrayList;
import java.util.List;
import java.util.function.Consumer;

/** Two objects made alike, one of which is asked a call more: whether all that can be told of them is the same still. */
final class Twins {
    private final String name;
    private final Consumer<Run> making;
    private final List<String> calls = new ArrayList<>();
    private final List<Long> answers;

    Twins(String name, Consumer<Run> making) {
        this.name = name;
        this.making = making;
        this.answers = tell(make(), calls);
    }

    private Run make() {
        Run run = new Run();
        making.accept(run);
        return run;
    }

    /** The answer that is due, and nothing has changed behind it. */
    void refuses(long want, String call, long... args) {
        Run run = make();
        Check.due(name + ": " + Run.told(call, args), run.call(call, args), want);
        sameStill(run, call, args);
    }

    void tells(String call, long... args) {
        Run run = make();
        run.call(call, args);
        sameStill(run, call, args);
    }

    void takes(String call, long... args) {
        Check.holds(name + ": " + Run.told(call, args) + " is not BAD", make().call(call, args) != Run.BAD);
    }

    private void sameStill(Run run, String call, long... args) {
        List<Long> now = tell(run, null);
        for (int i = 0; i < answers.size(); i++) {
            if (!answers.get(i).equals(now.get(i))) {
                Check.due(name + " behind " + Run.told(call, args) + ": " + calls.get(i), now.get(i), answers.get(i));
                return;
            }
        }
        Check.holds("as many answers as before", now.size() == answers.size());
    }

    /** All that calls tell of an object; it is of no use behind that. */
    private static List<Long> tell(Run run, List<String> calls) {
        Teller teller = new Teller(run, calls);
        for (int what = 0; what < 8; what++) teller.ask("count", what);
        teller.ask("trace");
        teller.askDear();
        teller.askFloods();
        for (int what : new int[] {0, 1, 3}) teller.askCells(what, 6);
        teller.askZones();
        for (int image = 0; image < 2; image++) {
            teller.ask("back", image);
            for (int what : new int[] {0, 1, 2, 6}) teller.ask("count", what);
            teller.askCells(1, 2);
            teller.askZones();
        }
        teller.ask("dam");
        teller.askCells(0, 6);
        teller.ask("clear");
        return teller.answers;
    }

    private record Teller(Run run, List<String> calls, List<Long> answers) {
        Teller(Run run, List<String> calls) {
            this(run, calls, new ArrayList<>());
        }

        void ask(String call, long... args) {
            answers.add(run.call(call, args));
            if (calls != null) calls.add(Run.told(call, args));
        }

        void askDear() {
            for (int k = -2; k < 0; k++) ask("least", k);
            for (String call : new String[] {"seep", "breach", "highest", "fits"}) ask(call);
            ask("ways", 300);
            for (int what = 0; what < 2; what++) {
                ask("next", what);
                for (int aim : new int[] {150, 400}) ask("cheapest", aim, what);
            }
            ask("filter", 4);
            ask("slack", 100);
        }

        void askFloods() {
            for (int i = 0; i < 8; i++) {
                ask("route", i, 100, 0);
                ask("route", i, 9999, 4);
                ask("ebb", i);
            }
            for (int what = 0; what < 6; what++) ask("pool", what, 0);
        }

        void askCells(int what, int rows) {
            for (int y = 0; y < rows; y++) for (int x = 0; x < 8; x++) ask("cell", x, y, what);
        }

        void askZones() {
            for (int z = 0; z < 6; z++) for (int what = 0; what < 3; what++) ask("zone", z, what, 10);
        }
    }
}
