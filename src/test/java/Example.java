/** The example of README.md, which shows this file and what it prints. */
public final class Example {
    public static void main(String[] args) {
        SlackPlan plan = new SlackPlan();
        int wall = plan.addTask(6, 2);                        // 6 days, 2 crews
        int roof = plan.addTask(3, 4);
        int garden = plan.addTask(2, 3);
        int length = plan.depend(wall, roof, 2);              // 2 days between the wall's end and the roof's start
        System.out.println("length of the plan: " + length);
        System.out.println("the roof starts on day " + plan.earliestStart(roof));
        System.out.println("slack of the garden: " + plan.slack(garden));
        System.out.println("12 days more in the garden delay the plan by " + plan.delayOfPlan(garden, 12));
        System.out.println("the garden's start by the schedule, with 5 crews: " + plan.scheduledStart(garden));
        plan.setCrews(plan.leastCrews());
        System.out.println("the garden's start by the schedule, with 4 crews: " + plan.scheduledStart(garden));

        try {
            plan.depend(roof, wall, 0);
        } catch (IllegalStateException e) {
            System.out.println("the wall is ahead of the roof");
        }
        System.out.println("states in the history after undo: " + plan.undo());

        for (char sign : "a4;b5*2<a3;c1<a+b".toCharArray()) {
            plan.append(sign);
        }
        System.out.println("tasks in the text: " + plan.readPlan() + ", length of the plan: " + plan.planLength());
        plan.append('+');
        System.out.println("first error of the text: " + plan.firstError());
    }
}
