/** What the tests share: typing of scripts, and comparing of what is told with what is due. */
final class Calls {
    private static int wrong;
    private static int done;

    static void due(String what, Object got, Object want) {
        done++;
        if (!want.equals(got)) {
            wrong++;
            System.out.println(what + ": answered " + got + ", due is " + want);
        }
    }

    /** Ends a test: its exit code is 1 if an answer was not as due. */
    static void end(String name) {
        System.out.println(name + ": " + done + " answers, " + wrong + " not as due");
        if (wrong != 0) {
            System.exit(1);
        }
    }

    static void type(Snapshothall hall, String text) {
        for (int from = 0; from < text.length(); from += 40) {
            long[] numbers = new long[5];
            for (int i = from; i < Math.min(from + 40, text.length()); i++) {
                int at = (i - from) / 8;
                numbers[at] = numbers[at] << 8 | text.charAt(i);
            }
            hall.type(numbers[0], numbers[1], numbers[2], numbers[3], numbers[4]);
        }
    }

    /** The fault of a text is where it has a ^, which is no part of it; NONE without one. */
    static void fault(String marked) {
        Snapshothall hall = new Snapshothall();
        type(hall, marked.replace("^", ""));
        due("fault of " + marked, hall.fault(), marked.indexOf('^'));
    }

    /**
     * Runs a script and looks at what it tells: for each statement a text, as told(..) puts it. A place
     * of NAMES is written N, and stands in the script behind a ^.
     */
    static void play(Snapshothall hall, String marked, String... want) {
        type(hall, marked.replace("^", ""));
        int[] marks = marks(marked);
        int statements = hall.run();
        due("statements of " + marked, statements, want.length);
        int mark = 0;
        for (int i = 0; i < Math.min(statements, want.length); i++) {
            String due = want[i];
            if (due.equals("N")) {
                due = "N" + marks[Math.min(mark++, marks.length - 1)];
            }
            due("statement " + i + " of " + marked, told(hall, i), due);
        }
    }

    private static int[] marks(String marked) {
        int[] marks = new int[marked.length() + 1];
        int found = 0;
        for (int i = 0; i < marked.length(); i++) {
            if (marked.charAt(i) == '^') {
                marks[found] = i - found;
                found++;
            }
        }
        return marks;
    }

    /**
     * A result: its number, rows in square brackets if it has an answer, or N with its place, S, F,
     * R with the number of the rule, C or P for a refusal.
     */
    static String told(Snapshothall hall, int i) {
        switch (hall.result(i, 1)) {
            case Snapshothall.NAMES:
                return "N" + hall.result(i, 3);
            case Snapshothall.STATE:
                return "S";
            case Snapshothall.FULL:
                return "F";
            case Snapshothall.RULE:
                return "R" + hall.result(i, 5);
            case Snapshothall.CONFLICT:
                return "C";
            case Snapshothall.POWER:
                return "P";
            default:
                return hall.result(i, 4) == 0 ? "" + hall.result(i, 2) : rows(hall, i);
        }
    }

    static String rows(Snapshothall hall, int i) {
        StringBuilder told = new StringBuilder("[");
        for (int row = 0; row < hall.result(i, 2); row++) {
            told.append(row == 0 ? "" : ";");
            for (int column = 0; column < hall.result(i, 4); column++) {
                told.append(column == 0 ? "" : ",");
                told.append(hall.isNull(i, row, column) ? "-" : "" + hall.cell(i, row, column));
            }
        }
        return told.append("]").toString();
    }

    static String output(Snapshothall hall) {
        StringBuilder told = new StringBuilder();
        for (int i = 0; hall.outputByte(i) != Snapshothall.NONE; i++) {
            told.append((char) hall.outputByte(i));
        }
        return told.toString();
    }

    static long word(String letters) {
        long word = 0;
        for (int i = 0; i < letters.length(); i++) {
            word = word << 8 | letters.charAt(i);
        }
        return word;
    }

    /** A call of which only the exception is told. */
    interface Call {
        void call();
    }

    static void refuses(String what, Class<? extends RuntimeException> want, Call call) {
        String got = "nothing";
        try {
            call.call();
        } catch (RuntimeException e) {
            got = e.getClass().getSimpleName();
        }
        due(what + " throws", got, want.getSimpleName());
    }
}
