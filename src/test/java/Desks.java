/** Desks on a later day, in as few calls as can be. */
final class Desks {
    private Desks() {
    }

    static Forwardroll onDay(int day) {
        Forwardroll desk = new Forwardroll();
        passTo(desk, day);
        return desk;
    }

    static void passTo(Forwardroll desk, int day) {
        while (desk.today() < day) {
            desk.pass(Math.min(100, day - desk.today()));
        }
    }
}
