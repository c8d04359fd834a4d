/** The examples of the document. */
public final class ExamplesTest {
    public static void main(String[] args) {
        Checks checks = new Checks();
        wall(checks);
        quarry(checks);
        gaps(checks);
        checks.end();
    }

    private static void wall(Checks checks) {
        Copestone yard = new Copestone();
        checks.due("build(4, 4, 0)", yard.build(4, 4, 0), 8);
        checks.due("stone(4, 2, 2)", yard.stone(4, 2, 2), 0);
        checks.due("lift(0)", yard.lift(0), 0);
        checks.due("lay(0, true, 0)", yard.lay(0, true, 0), 0);
        checks.due("stone(4, 2, 1)", yard.stone(4, 2, 1), 1);
        checks.due("lift(1)", yard.lift(1), 0);
        checks.due("lay(0, false, 0)", yard.lay(0, false, 0), 0);
        checks.due("room(0)", yard.room(0), 8);
        checks.due("isComplete(0)", yard.isComplete(0), true);
        checks.due("loadOn(0)", yard.loadOn(0), 80L);
    }

    private static void quarry(Checks checks) {
        Copestone yard = new Copestone();
        checks.due("quarry(12, 3)", yard.quarry(12, 3), 0);
        checks.due("bed(2)", yard.bed(2), 0);
        checks.due("split(4)", yard.split(4), true);
        checks.due("blocks(0)", yard.blocks(0), 2);
        checks.due("take(0, 0)", yard.take(0, 0), 0);
        checks.due("frost()", yard.frost(), 1);
        checks.due("size(0, 'l')", yard.size(0, 'l'), 2);
    }

    private static void gaps(Checks checks) {
        Copestone yard = new Copestone();
        checks.due("gap(3, 10)", yard.gap(3, 10), 1);
        checks.due("gap(2, 9)", yard.gap(2, 9), 2);
        checks.due("nextGap()", yard.nextGap(), 2);
        checks.due("mend(100)", yard.mend(100L), 200L);
    }
}
