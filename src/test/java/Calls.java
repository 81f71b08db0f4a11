/** What the tests share: typing of scripts, and comparing of what is told with what is due. */
final class Calls {
    private static int wrong;
    private static int done;

    static void due(String what, Object got, Object want) {
        done++;
        if (!want.equals(got)) {
            wrong++;
            System.out.println(what + ": answered " + got + ", due is " + want);
        }
    }

    /** Ends a test: its exit code is 1 if an answer was not as due. */
    static void end(String name) {
        System.out.println(name + ": " + done + " answers, " + wrong + " not as due");
        if (wrong != 0) {
            System.exit(1);
        }
    }

    static void type(Snapshothall hall, String text) {
        for (int from = 0; from < text.length(); from += 40) {
            long[] numbers = new long[5];
            for (int i = from; i < Math.min(from + 40, text.length()); i++) {
                int at = (i - from) / 8;
                numbers[at] = numbers[at] << 8 | text.charAt(i);
            }
            hall.type(numbers[0], numbers[1], numbers[2], numbers[3], numbers[4]);
        }
    }

    /** The fault of a text is where it has a ^, which is no part of it; NONE without one. */
    static void fault(String marked) {
        Snapshothall hall = new Snapshothall();
        type(hall, marked.replace("^", ""));
        due("fault of " + marked, hall.fault(), marked.indexOf('^'));
    }

    /**
     * Runs a script and looks at what it tells: for each statement a text, as told(..) puts it. A place
     * of NAMES is written N, and stands in the script behind a ^.
     */
    static void play(Snapshothall hall, String marked, String... want) {
        type(hall, marked.replace("^", ""));
        int[] marks = marks(marked);
        int statements = hall.run();
        due("statements of " + marked, statements, want.length);
        int mark = 0;
        for (int i = 0; i < Math.min(statements, want.length); i++) {
            String due = want[i];
            if (due.equals("N")) {
                due = "N" + marks[Math.min(mark++, marks.length - 1)];
            }
            due("statement " + i + " of " + marked, told(hall, i), due);
        }
    }

    private static int[] marks(String marked) {
        int[] marks = new int[marked.length() + 1];
        int found = 0;
        for (int i = 0; i < marked.length(); i++) {
            if (marked.charAt(i) == '^') {
                marks[found] = i - found;
                found++;
            }
        }
        return marks;
    }

    /**
     * A result: its number, rows in square brackets if it has an answer, or N with its place, S, F,
     * R with the number of the rule, C or P for a refusal.
     */
    static String told(Snapshothall hall, int i) {
        switch (hall.result(i, 1)) {
            case Snapshothall.NAMES:
                return "N" + hall.result(i, 3);
            case Snapshothall.STATE:
                return "S";
            case Snapshothall.FULL:
                return "F";
            case Snapshothall.RULE:
                return "R" + hall.result(i, 5);
            case Snapshothall.CONFLICT:
                return "C";
            case Snapshothall.POWER:
                return "P";
            default:
                return hall.result(i, 4) == 0 ? "" + hall.result(i, 2) : rows(hall, i);
        }
    }

    static String rows(Snapshothall hall, int i) {
        StringBuilder told = new StringBuilder("[");
        for (int row = 0; row < hall.result(i, 2); row++) {
            told.append(row == 0 ? "" : ";");
            for (int column = 0; column < hall.result(i, 4); column++) {
                told.append(column == 0 ? "" : ",");
                told.append(hall.isNull(i, row, column) ? "-" : "" + hall.cell(i, row, column));
            }
        }
        return told.append("]").toString();
    }

    static String output(Snapshothall hall) {
        StringBuilder told = new StringBuilder();
        for (int i = 0; hall.outputByte(i) != Snapshothall.NONE; i++) {
            told.append((char) hall.outputByte(i));
        }
        return told.toString();
    }

    /** A text some times in a row, with another one between. */
    static String many(String part, String between, int times) {
        StringBuilder text = new StringBuilder();
        for (int i = 0; i < times; i++) {
            text.append(i == 0 ? "" : between).append(part);
        }
        return text.toString();
    }

    /** Runs a script, of which nothing is looked at. */
    static void run(Snapshothall hall, String script) {
        type(hall, script);
        hall.run();
    }

    /** Runs a script, each of whose statements has to be done. */
    static void done(Snapshothall hall, String script) {
        run(hall, script);
        for (int i = 0; i < hall.results(); i++) {
            due("refusal of statement " + i + " of " + script, hall.result(i, 1), 0);
        }
    }

    /** What the one statement of a script is told, as told(..) puts it. */
    static String tell(Snapshothall hall, String script) {
        run(hall, script);
        return told(hall, 0);
    }

    /** Runs a statement that is refused: it changes nothing that the calls tell, but the results. */
    static void leaves(Snapshothall hall, String marked, String want) {
        String before = kept(hall);
        play(hall, marked, want);
        due("what is kept behind " + marked, kept(hall), before);
    }

    /** A call that throws, and changes nothing. */
    static void throwsAlone(Snapshothall hall, String what, Class<? extends RuntimeException> want, Call call) {
        String before = kept(hall) + outcome(hall);
        refuses(what, want, call);
        due("what is kept behind " + what, kept(hall) + outcome(hall), before);
    }

    /** The results of the latest script, with all that is told of each. */
    static String outcome(Snapshothall hall) {
        StringBuilder all = new StringBuilder("results");
        for (int i = 0; i < hall.results(); i++) {
            for (int what = 0; what < 6; what++) {
                all.append(' ').append(hall.result(i, what));
            }
            all.append(told(hall, i));
        }
        return all.toString();
    }

    /** All that the calls tell of a hall but its results; to tell it changes nothing. */
    static String kept(Snapshothall hall) {
        StringBuilder all = new StringBuilder("text ");
        all.append(hall.type(0, 0, 0, 0, 0)).append(' ').append(hall.fault()).append(output(hall));
        for (int s = 0; s < 4; s++) {
            all.append("\nsession ").append(hall.session(s, 0)).append(' ').append(hall.session(s, 1)).append(' ')
                    .append(hall.session(s, 2));
        }
        for (int t = 0; t < hall.transactions(); t++) {
            all.append("\ntransaction");
            for (int what = 0; what < 9; what++) {
                all.append(' ').append(hall.transaction(t, what));
            }
            for (int u = 0; u < hall.transactions() && hall.transaction(t, 8) > 0; u++) {
                all.append(hall.isEdge(t, u) ? " to " + u : "");
            }
        }
        for (int i = 0; hall.order(i) != Snapshothall.NONE; i++) {
            all.append(i == 0 ? "\norder " : " ").append(hall.order(i));
        }
        for (int t = 0; t < 12; t++) {
            all.append(hasTable(hall, t) ? tableOf(hall, t) : "");
        }
        for (int i = 0; i < 16; i++) {
            all.append(hasIndex(hall, i) ? indexOf(hall, i) : "");
        }
        all.append("\nclock ").append(hall.clock()).append(" writes ").append(hall.writes()).append(' ');
        all.append(hall.isDown()).append(hall.checksum()).append(' ').append(hall.meanVersions()).append(' ');
        return all.append(hall.unseenShare()).append(" errors ").append(hall.errors()).toString();
    }

    static boolean hasTable(Snapshothall hall, int table) {
        try {
            return hall.table(table, 0) > 0;
        } catch (IndexOutOfBoundsException e) {
            return false;
        }
    }

    static boolean hasIndex(Snapshothall hall, int index) {
        try {
            return hall.index(index, 1) > 0;
        } catch (IndexOutOfBoundsException e) {
            return false;
        }
    }

    private static String tableOf(Snapshothall hall, int t) {
        StringBuilder all = new StringBuilder("\ntable ").append(t);
        for (int what = 0; what < 7; what++) {
            all.append(' ').append(hall.table(t, what));
        }
        for (int c = 0; c < hall.table(t, 0); c++) {
            all.append(" spread ").append(hall.spread(t, c)).append(" index ").append(hall.indexOf(t, c));
        }
        for (int p = 0; p < hall.table(t, 2); p++) {
            all.append("\n  ").append(hall.version(t, p, 0)).append(' ').append(hall.version(t, p, 1)).append(' ')
                    .append(hall.version(t, p, 2)).append(':');
            for (int c = 0; c < hall.table(t, 0); c++) {
                all.append(' ').append(hall.valueAt(t, p, c));
            }
        }
        return all.toString();
    }

    private static String indexOf(Snapshothall hall, int i) {
        StringBuilder all = new StringBuilder("\nindex ").append(i);
        for (int what = 0; what < 5; what++) {
            all.append(' ').append(hall.index(i, what));
        }
        for (int e = 0; e < hall.index(i, 2); e++) {
            all.append(e == 0 ? ":" : " ").append(hall.entryAt(i, e));
        }
        return all.toString();
    }

    static long word(String letters) {
        long word = 0;
        for (int i = 0; i < letters.length(); i++) {
            word = word << 8 | letters.charAt(i);
        }
        return word;
    }

    /** A call of which only the exception is told. */
    interface Call {
        void call();
    }

    static void refuses(String what, Class<? extends RuntimeException> want, Call call) {
        String got = "nothing";
        try {
            call.call();
        } catch (RuntimeException e) {
            got = e.getClass().getSimpleName();
        }
        due(what + " throws", got, want.getSimpleName());
    }
}
