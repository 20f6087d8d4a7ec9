/** Counts and prints the answers that are not as due. */
final class Checks {
    private int wrong = 0;
    private int made = 0;

    void equal(String what, long got, long due) {
        that(got == due ? what : what + " answered " + got + ", due is " + due, got == due);
    }

    void that(String what, boolean holds) {
        made++;
        if (!holds) {
            wrong++;
            if (wrong <= 50) {
                System.out.println("not so: " + what);
            }
        }
    }

    void end() {
        System.out.println(made + " answers looked at, " + wrong + " not as due");
        if (wrong > 0 || made == 0) {
            System.exit(1);
        }
    }
}
