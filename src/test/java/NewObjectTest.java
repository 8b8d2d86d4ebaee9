/** Promise 1: nothing is booted, no code; and an object is as new beside others that are used. */
public final class NewObjectTest {
    public static void main(String[] args) {
        UseOnceMachine used = Machines.ran(Machines.o(Machines.SPLIT, 1, 2, 8), Machines.o(Machines.SEAL, 2, 1, 0));
        UseOnceMachine x = new UseOnceMachine();
        for (int what = 0; what <= 7; what++) {
            Check.same("look(" + what + ")", x.look(what), 0);
        }
        for (int f = 0; f < 5; f++) {
            for (int r = 0; r < 8; r++) {
                Check.same("register(" + r + ", " + f + ")", x.register(r, f), 0);
            }
            for (int w = 0; w < 48; w++) {
                Check.same("word(" + w + ", " + f + ")", x.word(w, f), 0);
            }
        }
        for (int i = 0; i < 6; i++) {
            Check.same("count(" + i + ")", x.count(i), 0);
            Check.same("gate(" + i + ", 0)", x.gate(i, 0), 0);
        }
        Check.same("owner", x.owner(0, 1), -1);
        Check.same("reach", x.reach(), 0);
        Check.same("reaches", x.reaches(0), false);
        Check.same("conserve", x.conserve(), 0);
        Check.same("step", x.step(1), -2);
        Check.same("undo", x.undo(1), 0);
        Check.same("first order", x.code(0, 18, 0, 0, 0), 0);
        Check.same("boot", x.boot(), true);
        Check.same("the used one", used.gate(0, 0), 1);
        Check.end();
    }
}
