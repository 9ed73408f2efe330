/** Promise 20: lasts. */
public final class LastsTest {
    public static void main(String[] args) {
        PeatBog x = new PeatBog();
        Due.due("nothing wanted", x.lasts(), PeatBog.NONE);
        x.want(1);
        Due.due("nothing there", x.lasts(), 0);
        x.stack();
        x.stack();
        Due.bring(x, 0, 5, 0);
        Due.bring(x, 1, 4, 1);
        Due.due("90 by 1", x.lasts(), 90);
        x.want(20);
        Due.due("90 by 20, cut", x.lasts(), 4);
        x.want(91);
        Due.due("90 by 91", x.lasts(), 0);
        x.want(0);
        Due.due("nothing wanted again", x.lasts(), PeatBog.NONE);

        Due.enact(x, "if tons = 50 then send;");
        Due.passDays(x, 7);
        Due.due("count(4)", x.count(4), 50);
        x.want(9);
        Due.due("the store counts", x.lasts(), 10);
        x.want(0);
        Due.passDays(x, 30);
        Due.due("the other burns", x.stackOf(1, 4), 1);
        x.want(9);
        Due.due("what burns doesn't count", x.lasts(), 5);
        Due.finish();
    }
}
