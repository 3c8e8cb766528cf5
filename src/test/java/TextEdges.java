/** The edges of the text buffer and of plans as text: the terms, and promises 8 to 12. */
final class TextEdges {
    private static final Class<IllegalArgumentException> ARGUMENT = IllegalArgumentException.class;
    private static final Class<IllegalStateException> STATE = IllegalStateException.class;

    private TextEdges() {
    }

    static void run() {
        atMostSixtyCharacters();
        oneOrMoreTasks();
        lengths();
        crews();
        predecessorLists();
        letters();
        predecessors();
        risingLetters();
        firstErrorIsTheFirst();
        firstErrorAtTheEnd();
        threeExamples();
        readPlan();
        readPlanKeepsTheRest();
        append();
        clearText();
        isValid();
        firstError();
    }

    private static SlackPlan written(String text) {
        SlackPlan plan = new SlackPlan();
        Checks.write(plan, text);
        return plan;
    }

    /** Each is a plan: no error is found, and it can be read. */
    private static void plans(String... texts) {
        for (String text : texts) {
            Checks.same("isValid of " + text, written(text).isValid(), true);
            Checks.same("firstError of " + text, Checks.answer(() -> written(text).firstError()),
                "IllegalStateException");
            Checks.same("readPlan of " + text, Checks.answer(() -> written(text).readPlan()),
                String.valueOf(text.split(";").length));
        }
    }

    /** None is a plan; the mark | stands in front of the first error. */
    private static void errors(String... marked) {
        for (String each : marked) {
            String text = each.replace("|", "");
            Checks.same("isValid of " + each, written(text).isValid(), false);
            Checks.same("firstError of " + each, written(text).firstError(), each.indexOf('|'));
            Checks.same("readPlan of " + each, Checks.answer(() -> written(text).readPlan()),
                "IllegalArgumentException");
        }
    }

    // ---- terms

    private static void atMostSixtyCharacters() {
        Document.terms("There is a text buffer of at most 60 characters, initially empty.");
        SlackPlan plan = new SlackPlan();
        Checks.same("clearText of a new object", plan.clearText(), 0);
        for (int length = 1; length <= 60; length++) {
            Checks.same("append", plan.append(Plans.SIXTY.charAt(length - 1)), length);
        }
        Checks.same("append as the 61st", Checks.answer(() -> plan.append('0')), "IllegalStateException");
        Checks.same("isValid of 60 characters", plan.isValid(), true);
        Checks.same("readPlan of 60 characters", plan.readPlan(), 10);
        Checks.same("lengthOf what stands last", plan.lengthOf(9), 30);
        Checks.same("crewsOf what stands last", plan.crewsOf(9), 5);
        Checks.same("clearText of 60 characters", plan.clearText(), 60);
        Checks.same("append after clearText", plan.append('a'), 1);
    }

    private static void oneOrMoreTasks() {
        Document.terms("A plan is written as one or more tasks separated by \";\".");
        plans("a0", "a0;b0", Plans.ALL_LETTERS);
        errors("|", "|;", "|;a0", "a0;|", "a0;|;", "a0;|;b0", "a0|b0", "a0|,b0", "a0| ;b0", "a0;| b0");
    }

    private static void lengths() {
        Document.terms("A task is its letter, a length (0 to 30, without leading zeros), optionally \"*\" and the "
            + "crews (a digit from 0 to 5; 1 otherwise), and optionally \"<\" and one or more predecessors separated by "
            + "\"+\".");
        for (int length = 0; length <= 30; length++) {
            plans("a" + length, "a" + length + "*2;b" + length + "<a");
            Checks.same("lengthOf", Checks.planOf("a" + length).lengthOf(0), length);
        }
        errors("a3|1", "a3|9", "a4|0", "a9|9", "a30|0", "a29|9", "a10|0", "a0|0", "a0|1", "a0|30", "a|-1", "a|+1");
        errors("a|", "a|*1", "a|;", "a|<a", "a|/", "a|:", "a1|/", "a1|:", "a2|/", "a2|:", "a3|/", "a3|:");
        errors("a1;b|", "a1;b|<a", "a1;b3|1", "a1;b0|0");
    }

    private static void crews() {
        Document.terms("optionally \"*\" and the crews (a digit from 0 to 5; 1 otherwise)");
        for (int crews = 0; crews <= 5; crews++) {
            plans("a30*" + crews, "a0*" + crews + ";b1*" + crews + "<a");
            Checks.same("crewsOf", Checks.planOf("a30*" + crews).crewsOf(0), crews);
        }
        Checks.same("crewsOf, not written", Checks.planOf("a30").crewsOf(0), 1);
        Checks.same("crewsOf, not written behind others", Checks.planOf("a30*5;b1<a").crewsOf(1), 1);
        errors("a1*|6", "a1*|9", "a1*|/", "a1*|:", "a1*|", "a1*|;", "a1*|*", "a1*|<a", "a1*0|0", "a1*5|5", "a1*1|*1");
        errors("a1;b1*|", "a1;b1*|6", "a1;b1*|<a", "|*1");
    }

    private static void predecessorLists() {
        Document.terms("optionally \"<\" and one or more predecessors separated by \"+\"");
        plans("a1;b1", "a1;b1<a", "a1;b1;c1<a+b", "a1;b1*0<a", "a1;b1;c1<a9+b9",
            "a0;b0;c0;d0;e0;f0;g0;h0;i0<a1+b2+c3+d4+e5+f6+g7+h8");
        Checks.same("dependencyCount of eight", Checks.planOf(
            "a0;b0;c0;d0;e0;f0;g0;h0;i0<a1+b2+c3+d4+e5+f6+g7+h8").dependencyCount(), 8);
        errors("a1;b1<|", "a1;b1<|;c1", "a1;b1<|+", "a1;b1<|<a", "a1;b1<a|<a", "a1;b1<a|*1", "a1;b1<a1|*1");
        errors("a1;b1;c1<a+|", "a1;b1;c1<a+|;d1", "a1;b1;c1<a+|+b", "a1;b1;c1<a|b", "a1;b1;c1<a1|b", "a1;b1;c1<a|,b");
    }

    private static void letters() {
        Document.terms("The letters are \"a\" for the first task, \"b\" for the second one, and so on, up to \"t\".");
        StringBuilder text = new StringBuilder();
        for (int task = 0; task < 20; task++) {
            errors(text + "|" + (char) ('a' + task + 1) + "0", text + "|" + (char) ('a' + task - 1) + "0");
            errors(text + "|" + (char) ('A' + task) + "0", text + "|" + (char) ('a' + task + 256) + "0");
            text.append((char) ('a' + task)).append("0");
            plans(text.toString());
            Checks.same("taskCount", Checks.planOf(text.toString()).taskCount(), task + 1);
            text.append(";");
        }
        // A character whose lower half is that of the right one is another character.
        errors("|" + (char) ('a' + 0xff00) + "0", "a|" + (char) ('0' + 256), "a0|" + (char) (';' + 256) + "b0");
        errors("a1|" + (char) ('*' + 256) + "1", "a1*|" + (char) ('1' + 256), "a1;b1|" + (char) ('<' + 256) + "a");
        errors("a1;b1<|" + (char) ('a' + 256), "a1;b1;c1<a|" + (char) ('+' + 256) + "b", "|\0", "a1|\0", "|\uffff");
    }

    private static void predecessors() {
        Document.terms("A predecessor is the letter of a task in front of this one, and optionally a digit, the lag (0 "
            + "otherwise).");
        for (int lag = 0; lag <= 9; lag++) {
            plans("a1;b1<a" + lag);
            Checks.same("lagOf", Checks.planOf("a1;b1;c1<a" + lag + "+b").lagOf(0, 2), lag);
        }
        Checks.same("lagOf, not written", Checks.planOf("a1;b1<a").lagOf(0, 1), 0);
        Checks.same("lagOf, not written behind another", Checks.planOf("a1;b1;c1<a9+b").lagOf(1, 2), 0);
        errors("a1;b1<|b", "a1;b1<|c", "a1;b1<|c;c1", "a1;b1<|`", "a1;b1<|A", "a1;b1<|t", "a1;b1;c1<a+|c");
        errors("a1;b1<a1|0", "a1;b1<a0|0", "a1;b1<a|/", "a1;b1<a|:", "a1;b1<a|-", "a1;b1<|1", "a1;b1<|1a");
        StringBuilder text = new StringBuilder("a0");
        for (int task = 1; task < 19; task++) {
            text.append(';').append((char) ('a' + task)).append('0');
        }
        // s is the last of 19 tasks, and r the one just in front of it.
        plans(text + "<a", text + "<r", text + "<a+r", text + "<r9");
        errors(text + "<|s", text + "<|t", text + "<a+|s");
    }

    private static void risingLetters() {
        Document.terms("The letters of the predecessors of a task rise.");
        plans("a1;b1;c1;d1<a+b+c", "a1;b1;c1;d1<a+c", "a1;b1;c1;d1<b+c", "a1;b1;c1;d1<a+b");
        errors("a1;b1;c1;d1<b+|a", "a1;b1;c1;d1<b+|b", "a1;b1;c1;d1<a+|a", "a1;b1;c1;d1<a+b+|a", "a1;b1;c1;d1<a+b+|b");
        errors("a1;b1;c1;d1<b5+|a5", "a1;b1;c1;d1<b5+|b6");
        // They begin anew with the next task.
        plans("a1;b1;c1<b;d1<a", "a1;b1<a;c1<a+b;d1<a");
    }

    private static void firstErrorIsTheFirst() {
        Document.terms("The first error of a buffer that is not a plan is the index of the first character that cannot "
            + "follow the characters in front of it in any plan, or the length of the buffer if there is no such "
            + "character.");
        errors("|b0", "|bb", "|b0;b0", "a0;|a0;|", "a|a*6<|", "a4|0;b4|0", "a1;b1<|b+|a");
        SlackPlan plan = written("a0;c");
        for (int length = 5; length <= 60; length++) {
            plan.append('0');
            Checks.same("firstError with more behind it", plan.firstError(), 3);
        }
        SlackPlan first = written("?");
        for (int length = 2; length <= 60; length++) {
            first.append('a');
            Checks.same("firstError of the first character", first.firstError(), 0);
        }
    }

    private static void firstErrorAtTheEnd() {
        Document.terms("or the length of the buffer if there is no such character");
        Checks.same("firstError of nothing", new SlackPlan().firstError(), 0);
        String[] texts = {Plans.SIXTY, Plans.ALL_LETTERS, "a1*2;b30<a9;c10*0<a+b9;d0*5<b;e29<a1+b2+d3"};
        for (String text : texts) {
            SlackPlan plan = new SlackPlan();
            for (int length = 0; length < text.length(); length++) {
                String due = isWhole(text, length) ? "IllegalStateException" : String.valueOf(length);
                Checks.same("firstError of the first " + length + " of " + text, Checks.answer(plan::firstError), due);
                plan.append(text.charAt(length));
            }
        }
        // 60 characters, of which the last ones lack what must follow, or are the error.
        String begin = Plans.SIXTY.substring(0, 55);
        errors(begin + "j3*5;|", begin + "j3*5<|", begin + "j3<a+|", begin + "j30;k|");
        errors(begin + "j3*5|*", begin + "j30*|6", begin + "j3<a|a", begin + "j30;|j");
        plans(begin + "j3<a9", begin + "j3<i9", begin + "j30<i", begin + "j3*5");
    }

    /** Whether the piece ends behind a number, or behind the letter of a predecessor. */
    private static boolean isWhole(String text, int length) {
        if (length == 0) {
            return false;
        }
        char last = text.charAt(length - 1);
        char before = length > 1 ? text.charAt(length - 2) : ';';
        return last >= '0' && last <= '9' || last >= 'a' && (before == '<' || before == '+');
    }

    private static void threeExamples() {
        Document.terms("(So \"<\" cannot follow in the first task, \"+\" not behind the predecessor just in front of "
            + "the task, and \";\" not behind the task \"t\".)");
        errors("a1|<", "a30*5|<", "a1|<a", "|<a");
        plans("a1;b1<a", "a30*5;b30*5<a");
        errors("a1;b1<a|+", "a1;b1<a0|+", "a1;b1;c1<b|+", "a1;b1;c1<b9|+a", "a1;b1;c1<a+b|+c");
        errors("a1;b1;c1<a+|", "a1;b1;c1<a9+|");
        errors(Plans.ALL_LETTERS + "|;");
        plans(Plans.ALL_LETTERS);
        String nineteen = Plans.ALL_LETTERS.substring(0, 56);
        plans(nineteen, nineteen + ";t0");
        errors(nineteen + ";|", nineteen + ";|u0", nineteen + ";|s0");
    }

    // ---- promises 8 to 12

    private static void readPlan() {
        Document.promise(8, "Returns the number of tasks.");
        Checks.same("readPlan of one task", written("a0").readPlan(), 1);
        Checks.same("readPlan of 20 tasks", written(Plans.ALL_LETTERS).readPlan(), 20);
        Checks.same("readPlan of 60 characters", Plans.written().readPlan(), 10);
        Document.promise(8, "Throws `IllegalArgumentException` if the buffer is not a plan");
        Twins.refuses(Plans::empty, ARGUMENT, "readPlan of nothing", SlackPlan::readPlan);
        Twins.refuses(Plans::forty, ARGUMENT, "readPlan of nothing", SlackPlan::readPlan);
        Twins.refuses(Plans::rich, ARGUMENT, "readPlan of a piece", SlackPlan::readPlan);
        for (String text : new String[] {"a", "a1;", "a1;b1<", "b1", "a31", Plans.ALL_LETTERS + ";"}) {
            Twins.refuses(() -> behindOne(text), ARGUMENT, "readPlan of " + text, SlackPlan::readPlan);
        }
    }

    /** A plan of two tasks, with another text in the buffer. */
    private static SlackPlan behindOne(String text) {
        SlackPlan plan = Checks.planOf("a7*3;b8*4<a9");
        plan.clearText();
        Checks.write(plan, text);
        return plan;
    }

    private static void readPlanKeepsTheRest() {
        Document.promise(8, "Replaces all tasks and dependencies by the plan in the text buffer, which is not changed; "
            + "the number of crews remains.");
        SlackPlan plan = Plans.forty();
        plan.setCrews(9);
        Checks.write(plan, "a0");
        Checks.same("readPlan over 20 tasks", plan.readPlan(), 1);
        Checks.same("dependencyCount over 40", plan.dependencyCount(), 0);
        Checks.same("planLength", plan.planLength(), 0);
        for (int task = 1; task < 20; task++) {
            Checks.same("addTask behind the one", plan.addTask(1, 1), task);
        }
        Checks.same("dependencyCount of 20 new ones", plan.dependencyCount(), 0);
        Checks.same("planLength of 20 new ones", plan.planLength(), 1);
        Checks.same("readPlan once more", plan.readPlan(), 1);
        Checks.same("setCrews", plan.setCrews(1), 9);
        Checks.same("readPlan with one crew", plan.readPlan(), 1);
        Checks.same("setCrews after readPlan", plan.setCrews(5), 1);
        Checks.same("clearText", plan.clearText(), 2);
        SlackPlan apart = Checks.planOf("a1;b1<a9;c1<a+b");
        apart.clearText();
        Checks.write(apart, "a1;b1;c1");
        Checks.same("readPlan without dependencies", apart.readPlan(), 3);
        Checks.same("dependencyCount", apart.dependencyCount(), 0);
        Checks.same("lagOf a dependency that went", Checks.answer(() -> apart.lagOf(0, 1)), "NoSuchElementException");
        Checks.same("planLength without dependencies", apart.planLength(), 1);
        SlackPlan full = Plans.written();
        full.readPlan();
        Checks.same("clearText of 60 characters", full.clearText(), 60);
        Checks.same("dependencyCount of what was read", full.dependencyCount(), 1);
    }

    private static void append() {
        Document.promise(9, "- `character`: any character");
        for (int character = 0; character <= 0xffff; character += character < 300 || character > 0xfe00 ? 1 : 257) {
            Checks.same("append of character " + character, new SlackPlan().append((char) character), 1);
        }
        Document.promise(9, "Returns the length of the buffer afterwards.");
        Checks.same("append to nothing", new SlackPlan().append('\0'), 1);
        Checks.same("append as the 60th", written(Plans.SIXTY.substring(0, 59)).append('\uffff'), 60);
        Document.promise(9, "Throws `IllegalStateException` if the buffer has 60 characters");
        for (char sign : new char[] {'0', '5', ';', '<', '\0', '\uffff'}) {
            Twins.refuses(Plans::written, STATE, "append as the 61st", plan -> plan.append(sign));
        }
        String invalid = "x".repeat(60);
        Twins.refuses(() -> written(invalid), STATE, "append to 60 that are no plan", plan -> plan.append('a'));
    }

    private static void clearText() {
        Document.promise(10, "Returns the length that it had.");
        Checks.same("clearText of nothing", new SlackPlan().clearText(), 0);
        Checks.same("clearText of one", written("?").clearText(), 1);
        Checks.same("clearText of 60", Plans.written().clearText(), 60);
        SlackPlan plan = Plans.written();
        plan.clearText();
        Checks.same("clearText once more", plan.clearText(), 0);
        Checks.same("isValid after clearText", plan.isValid(), false);
        Checks.same("firstError after clearText", plan.firstError(), 0);
        for (int length = 1; length <= 60; length++) {
            Checks.same("append after clearText", plan.append('a'), length);
        }
    }

    private static void isValid() {
        Document.promise(11, "Returns true if it is.");
        Checks.same("isValid of nothing", new SlackPlan().isValid(), false);
        Checks.same("isValid of the shortest plan", written("a0").isValid(), true);
        Checks.same("isValid of 60 characters", Plans.written().isValid(), true);
        Checks.same("isValid of 59 of them", written(Plans.SIXTY.substring(0, 59)).isValid(), false);
        Checks.same("isValid of all letters", written(Plans.ALL_LETTERS).isValid(), true);
        Checks.same("isValid of all letters and one more", written(Plans.ALL_LETTERS + ";").isValid(), false);
        Checks.same("isValid without regard to the tasks", Plans.forty().isValid(), false);
    }

    private static void firstError() {
        Document.promise(12, "Returns the index.");
        Checks.same("firstError of nothing", new SlackPlan().firstError(), 0);
        Checks.same("firstError of one wrong character", written("b").firstError(), 0);
        Checks.same("firstError of one right character", written("a").firstError(), 1);
        Checks.same("firstError of the last of 60", written(Plans.SIXTY.substring(0, 59) + "6").firstError(), 59);
        Checks.same("firstError behind 59", written(Plans.SIXTY.substring(0, 59)).firstError(), 59);
        Checks.same("firstError behind 60", written(Plans.SIXTY.substring(0, 55) + "j3<a+").firstError(), 60);
        Document.promise(12, "Throws `IllegalStateException` if the buffer is a plan");
        Twins.refuses(Plans::written, STATE, "firstError of 60 characters", SlackPlan::firstError);
        Twins.refuses(() -> written("a0"), STATE, "firstError of the shortest plan", SlackPlan::firstError);
        Twins.refuses(() -> written(Plans.ALL_LETTERS), STATE, "firstError of all letters", SlackPlan::firstError);
    }
}
