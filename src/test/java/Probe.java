import java.util.ArrayList;
import java.util.List;
import java.util.function.Supplier;

/**
 * All that can be asked of a yard, the calls that change something too. Each part asks a yard of its own, so that
 * no part spoils what another one asks, and no yard is called too often.
 */
final class Probe {
    private interface Part {
        void ask(Probe probe);
    }

    private static final Part[] PARTS = {Probe::stones, Probe::heap, Probe::loads, Probe::courses,
        probe -> probe.places(true), probe -> probe.places(false), Probe::fillings, Probe::yard, Probe::dressing,
        Probe::packing, Probe::coping, probe -> probe.laying(true), probe -> probe.laying(false), Probe::settings,
        Probe::pressing, Probe::falling, Probe::taking, Probe::faults, Probe::joints, Probe::days, Probe::telling,
        Probe::striking, Probe::gaps, Probe::butting, Probe::bonding};

    private final Copestone yard;
    private final List<String> heard;

    private Probe(Copestone yard, List<String> heard) {
        this.yard = yard;
        this.heard = heard;
    }

    /** What yards answer, one for each part. */
    static List<String> ask(Supplier<Copestone> yards) {
        List<String> heard = new ArrayList<>();
        for (Part part : PARTS) {
            part.ask(new Probe(yards.get(), heard));
        }
        return heard;
    }

    private Object ask(String name, Object... args) {
        Object answer = Run.answerOf(yard, name, args);
        heard.add(Run.written(name, args) + " = " + answer);
        return answer;
    }

    private boolean did(String name, Object... args) {
        return !(ask(name, args) instanceof String);
    }

    private void stones() {
        for (int stone = 0; stone < 60 && did("state", stone); stone++) {
            ask("size", stone, 'l');
            ask("size", stone, 'h');
            ask("size", stone, 't');
        }
        ask("stone", 1, 1, 1);
    }

    private void heap() {
        int index = 0;
        while (index < 60 && did("heap", index)) {
            index++;
        }
        ask("throwAway");
        while (index > 0) {
            ask("lift", ask("heap", 0) instanceof Long first ? (Object) first.intValue() : (Object) 0);
            ask("throwAway");
            index--;
        }
    }

    private void loads() {
        for (int stone = 0; stone < 60; stone++) {
            ask("loadOn", stone);
        }
        ask("mover");
    }

    private void courses() {
        for (int course = 0; course < 8 && did("width", course); course++) {
            ask("room", course);
            ask("isComplete", course);
            ask("throughs", course);
            ask("fill", course, true);
            ask("fill", course, false);
        }
    }

    private void places(boolean isFront) {
        for (int course = 0; course < 8 && did("width", course); course++) {
            for (int place = 0; place < 24; place++) {
                if (Run.BOUNDS.equals(ask("at", course, isFront, place))) {
                    break;
                }
            }
        }
    }

    private void fillings() {
        for (int course = 0; course < 8 && did("width", course); course++) {
            for (int index = 0; index < 3; index++) {
                ask("fillAt", course, true, index);
                ask("fillAt", course, false, index);
            }
        }
    }

    private void yard() {
        ask("wallShare");
        ask("meanLoad");
        ask("checksum");
        ask("isTrue");
    }

    /** The edge, and what each mason was paid. */
    private void dressing() {
        ask("whet");
        ask("throwAway");
        for (int mason = 0; mason < 4; mason++) {
            int stone = ask("stone", 2, 2, 2) instanceof Long number ? number.intValue() : 0;
            ask("lift", stone);
            ask("dress", mason, 'l', 1);
            ask("dress", mason, 'h', 1);
            ask("throwAway");
        }
        ask("whet");
    }

    private void packing() {
        for (int course = 0; course < 8; course++) {
            ask("pack", course);
            ask("room", course);
        }
    }

    private void coping() {
        ask("cope");
        ask("throwAway");
        ask("stone", 1, 1, 6);
        ask("lift", ask("heap", 0) instanceof Long first ? (Object) first.intValue() : (Object) 0);
        ask("cope");
    }

    private void laying(boolean isFront) {
        for (int course = 0; course < 8; course++) {
            for (int place = 0; place < 24; place++) {
                Object answer = ask("lay", course, isFront, place);
                if (Run.BOUNDS.equals(answer) || Run.STATE.equals(answer)) {
                    break;
                }
            }
        }
        ask("checksum");
    }

    private void settings() {
        ask("friction", 50);
        ask("runs", 4);
        for (int course = 0; course < 8; course++) {
            ask("push", course, 0L);
        }
    }

    private void pressing() {
        for (int place = 0; place < 24; place++) {
            ask("press", true, place, 1L);
            ask("press", false, place, 1L);
        }
        loads();
        ask("build", 4, 4, 0);
    }

    private void falling() {
        for (int course = 7; course >= 0; course--) {
            ask("push", course, Long.MAX_VALUE);
        }
        for (int i = 0; i < 60 && did("fall"); i++) {
            ask("mover");
        }
        ask("checksum");
    }

    private void taking() {
        for (int bed = 0; bed < 6 && did("blocks", bed); bed++) {
            for (int block = 0; block < 30; block++) {
                Object answer = ask("take", bed, block);
                if (Run.BOUNDS.equals(answer)) {
                    break;
                }
                if (answer instanceof Long number) {
                    ask("size", number.intValue(), 'w');
                }
            }
        }
        ask("frost");
    }

    private void faults() {
        for (int bed = 0; bed < 6 && did("blocks", bed); bed++) {
            for (int place = 0; place < 30; place++) {
                ask("fault", bed, place);
            }
        }
    }

    private void joints() {
        for (int place = 1; place < 30; place++) {
            ask("split", place);
        }
        for (int bed = 0; bed < 6; bed++) {
            ask("blocks", bed);
        }
        ask("bed", 1);
        ask("quarry", 4, 1);
    }

    private void days() {
        ask("frost");
        for (int i = 0; i < 11; i++) {
            ask("pass", 1);
            ask("frost");
        }
        ask("checksum");
    }

    private void telling() {
        ask("thrust");
        ask("crown", 0, 999);
        ask("thrust");
        for (int index = 0; index < 8; index++) {
            ask("voussoir", index, 1, 1, 0, 999);
        }
        ask("thrust");
        ask("arch", 2);
    }

    private void striking() {
        for (int i = 0; i < 8; i++) {
            ask("set");
        }
        ask("strike");
        ask("thrust");
        ask("arch", 2);
    }

    private void gaps() {
        for (int i = 0; i < 11 && did("nextGap"); i++) {
            ask("mend", 1L);
        }
        for (int i = 0; i < 11; i++) {
            ask("gap", 1, 1);
        }
    }

    private void butting() {
        for (int wall = 0; wall < 8; wall++) {
            ask("phase", wall);
        }
        for (int wall = 0; wall < 8; wall++) {
            for (int other = wall + 1; other < 8; other++) {
                ask("meet", wall, other, false);
                ask("meet", other, wall, false);
            }
        }
        for (int i = 0; i < 9; i++) {
            ask("oldWall");
        }
    }

    private void bonding() {
        for (int wall = 0; wall < 8; wall++) {
            for (int other = wall + 1; other < 8; other++) {
                ask("meet", wall, other, true);
            }
        }
    }
}
