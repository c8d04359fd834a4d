/** Tests of the boundary cases that sentences of the document name, each titled by its sentence. */
abstract class Sentences {
    static final String ARGUMENT = Run.ARGUMENT;
    static final String STATE = Run.STATE;
    static final String BOUNDS = Run.BOUNDS;
    static final String UNSUPPORTED = Run.UNSUPPORTED;
    static final String ELEMENT = Run.ELEMENT;
    static final String ARITHMETIC = Run.ARITHMETIC;
    static final int LEAST = Integer.MIN_VALUE;
    static final int MOST = Integer.MAX_VALUE;

    private final Document document;

    Sentences(Document document) {
        this.document = document;
    }

    abstract void all();

    Run says(String section, String words) {
        return document.says(section, words);
    }

    Run says(int promise, String words) {
        return document.says("Promise " + promise, words);
    }

    /** A call that is told a course, and what it is told behind that, for each course that can be, or cannot. */
    void dueCourses(int promise, String name, Object... behind) {
        Run run = says(promise, "Throws `IndexOutOfBoundsException` if the course cannot be: it is below 0, above 7, or its width "
                + "would be below 2");
        int[][] walls = {{4, 0, 8}, {8, 1, 7}, {9, 1, 8}, {7, 2, 3}, {4, 2, 2}};
        for (int[] wall : walls) {
            run.does("build", 4, wall[0], wall[1]);
            run.does(name, told(wall[2] - 1, behind));
            for (int wrong : new int[] {wall[2], -1, 8, LEAST, MOST}) {
                run.refuses(BOUNDS, name, told(wrong, behind));
            }
        }
    }

    private static Object[] told(int course, Object[] behind) {
        Object[] args = new Object[behind.length + 1];
        args[0] = course;
        System.arraycopy(behind, 0, args, 1, behind.length);
        return args;
    }
}
