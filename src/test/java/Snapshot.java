/** All that can be seen of a yard by calls that change nothing. */
final class Snapshot {
    private Snapshot() {
    }

    static String of(Copestone yard) {
        StringBuilder seen = new StringBuilder();
        for (int stone = 0; stone < 60; stone++) {
            int number = stone;
            add(seen, "state", () -> yard.state(number));
            for (char what : "lhtw".toCharArray()) {
                add(seen, "size", () -> yard.size(number, what));
            }
            add(seen, "heap", () -> yard.heap(number));
            add(seen, "loadOn", () -> yard.loadOn(number));
        }
        for (int course = 0; course < 8; course++) {
            addCourse(seen, yard, course);
        }
        for (int i = 0; i < 8; i++) {
            int number = i;
            add(seen, "blocks", () -> yard.blocks(number));
            add(seen, "phase", () -> yard.phase(number));
        }
        add(seen, "mover", yard::mover);
        add(seen, "thrust", yard::thrust);
        add(seen, "nextGap", yard::nextGap);
        add(seen, "wallShare", yard::wallShare);
        add(seen, "meanLoad", yard::meanLoad);
        add(seen, "checksum", yard::checksum);
        add(seen, "isTrue", yard::isTrue);
        return seen.toString();
    }

    private static void addCourse(StringBuilder seen, Copestone yard, int course) {
        add(seen, "width", () -> yard.width(course));
        add(seen, "room", () -> yard.room(course));
        add(seen, "isComplete", () -> yard.isComplete(course));
        add(seen, "throughs", () -> yard.throughs(course));
        for (boolean isFront : new boolean[] {true, false}) {
            add(seen, "fill", () -> yard.fill(course, isFront));
            for (int i = 0; i < 24; i++) {
                int number = i;
                add(seen, "at", () -> yard.at(course, isFront, number));
                add(seen, "fillAt", () -> yard.fillAt(course, isFront, number));
            }
        }
    }

    private static void add(StringBuilder seen, String name, Checks.Call call) {
        Object answer;
        try {
            answer = call.answer();
        } catch (RuntimeException thrown) {
            answer = thrown.getClass().getSimpleName();
        }
        seen.append(name).append('=').append(answer).append('\n');
    }
}
