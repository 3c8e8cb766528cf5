/** Promises 9 to 12: the text buffer. */
public final class TextTests {
    private static final Class<IllegalStateException> STATE = IllegalStateException.class;

    public static void main(String[] args) {
        promise9Append();
        promise10ClearText();
        promise11IsValid();
        promise12FirstError();
        promise12FirstErrorOfAFullBuffer();
        Checks.end();
    }

    private static void promise9Append() {
        SlackPlan plan = new SlackPlan();
        for (int length = 1; length <= 60; length++) {
            Checks.same("append", plan.append((char) (length * 1111)), length);
        }
        Checks.refuses(plan, STATE, "append as the 61st", () -> plan.append('a'));
        Checks.same("historySize: append is no modification", plan.historySize(), 0);
        Checks.same("clearText after a refused append", plan.clearText(), 60);
        Checks.same("append after clearText", plan.append('\uffff'), 1);
    }

    private static void promise10ClearText() {
        SlackPlan plan = Checks.planOf("a1");
        Checks.same("clearText", plan.clearText(), 2);
        Checks.same("clearText of nothing", plan.clearText(), 0);
        Checks.same("isValid of nothing", plan.isValid(), false);
        Checks.same("firstError of nothing", plan.firstError(), 0);
        Checks.same("taskCount after clearText", plan.taskCount(), 1);
        Checks.same("historySize: clearText is no modification", plan.historySize(), 1);
        plan.append('a');
        Checks.same("firstError of what came after", plan.firstError(), 1);
    }

    private static void promise11IsValid() {
        String[] plans = {
            "a0", "a9", "a10", "a19", "a20", "a29", "a30", "a0*0", "a30*5", "a1;b1", "a1;b1<a", "a1;b1<a0",
            "a1;b1<a9", "a1;b1*0<a9", "a1;b1;c1<a", "a1;b1;c1<b", "a1;b1;c1<a+b", "a1;b1;c1<a1+b2;d0",
            "a1;b1;c1;d1<a+c", "a0;b0;c0;d0;e0;f0;g0;h0;i0;j0;k0;l0;m0;n0;o0;p0;q0;r0;s0;t0",
            "a0;b0;c0;d0;e0;f0;g0;h0;i0;j0;k0;l0;m0;n0;o0;p0;q0;r0;s0;t30",
        };
        for (String text : plans) {
            SlackPlan plan = new SlackPlan();
            Checks.write(plan, text);
            Checks.same("isValid of " + text, plan.isValid(), true);
            Checks.refuses(plan, STATE, "firstError of " + text, plan::firstError);
            Checks.same("clearText of " + text, plan.clearText(), text.length());
        }
        SlackPlan plan = Checks.planOf("a1;b2<a");
        Checks.same("isValid twice", plan.isValid(), true);
        Checks.same("historySize: isValid is no modification", plan.historySize(), 1);
        plan.append(';');
        Checks.same("isValid of a piece", plan.isValid(), false);
        Checks.same("taskCount after isValid", plan.taskCount(), 2);
    }

    private static void promise12FirstError() {
        // The mark | stands in front of the first error.
        String[] texts = {
            "|", "|b1", "|A1", "|1", "|;", "a|", "a|a", "a|;", "a|-1", "a0|0", "a0|5", "a10|0", "a3|1", "a3|9",
            "a4|0", "a9|9", "a|:", "a1|:", "a1|/", "a1*|/", "a1|+", "a1|a", "a1*|", "a1*|6", "a1*|*", "a1*|-", "a1*5|5", "a1*0|*1", "a1|<", "a1*1|<a",
            "a1;|", "a1;|a1", "a1;|c1", "a1;b1<|", "a1;b1<|b", "a1;b1<|c", "a1;b1<|1", "a1;b1<|A", "a1;b1<a|a",
            "a1;b1<a|+", "a1;b1<a1|+", "a1;b1<a1|1", "a1;b1<a|*", "a1;b1<a|<", "a1;b1;c1<a+|", "a1;b1;c1<a+|a",
            "a1;b1;c1<a+|c", "a1;b1;c1<b|+a", "a1;b1;c1<a+b|+", "a1;b1;c1<a9+b9|+c", "a1;b1;c1<a+|1",
            "a1;b1;c1;d1<b+|a", "a1;b1;c1;d1<b+|b", "a1;b1;c1;d1<a+c|+b", "a1;b1<a2|2", "a1;|;", "a1|,b1", "a1| ;b1",
            "|\u0161", "a|\u0661", "a1;b1<|\u0161", "a1|\u0130",
            "a0;b0;c0;d0;e0;f0;g0;h0;i0;j0;k0;l0;m0;n0;o0;p0;q0;r0;s0;t0|;",
            "a0;b0;c0;d0;e0;f0;g0;h0;i0;j0;k0;l0;m0;n0;o0;p0;q0;r0;s0;|u",
        };
        for (String marked : texts) {
            int due = marked.indexOf('|');
            SlackPlan plan = new SlackPlan();
            Checks.write(plan, marked.replace("|", ""));
            Checks.same("isValid of " + marked, plan.isValid(), false);
            Checks.same("firstError of " + marked, plan.firstError(), due);
            Checks.same("clearText of " + marked, plan.clearText(), marked.replace("|", "").length());
        }
    }

    /** A plan has no greatest length of its own: a full buffer that only lacks its end has no such character. */
    private static void promise12FirstErrorOfAFullBuffer() {
        StringBuilder text = new StringBuilder("a30*5;b30*5;c30*5;d30*5;e30*5;f30*5;g30*5;h30*5;i30*5;j30*5");
        for (char last : new char[] {';', '<'}) {
            SlackPlan plan = new SlackPlan();
            Checks.write(plan, text.toString() + last);
            Checks.same("firstError of a full buffer", plan.firstError(), 60);
        }
        SlackPlan plan = new SlackPlan();
        Checks.write(plan, text.toString() + '+');
        Checks.same("firstError in a full buffer", plan.firstError(), 59);
    }
}
