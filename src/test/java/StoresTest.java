/** Promises 18 to 22: stores and days. */
public final class StoresTest {
    public static void main(String[] args) {
        putOnShelves();
        promise18Stray();
        promise18FurDays();
        promise19Count();
        promise20Transfer();
        promise20Overfull();
        promise21Wind();
        promise22Pass();
        promise22Wear();
        promise22WearOfLateFurs();
        Checks.end("StoresTest");
    }

    private static Pledgehouse house() {
        Pledgehouse x = new Pledgehouse();
        x.deposit(10000);
        for (int i = 0; i < 3; i++) {
            x.charter(i, 50, 100000);
        }
        return x;
    }

    /** Tells a thing and pledges it for 1; its number. */
    private static int stored(Pledgehouse x, int kind, int weight, int branch) {
        int thing = x.thing(kind, weight, 1000);
        x.pledge(0, thing, 0, branch, 1, false);
        return thing;
    }

    private static void putOnShelves() {
        Pledgehouse x = house();
        int[] places = {1, 2, 3, 0, 1, 0, 2};
        int[] weights = {40, 50, 50, 50, 20, 10, 10};
        int[] kinds = {0, 2, 3, 0, 3, 1, 1};
        for (int i = 0; i < places.length; i++) {
            Checks.due("10: place of " + i, x.thingOf(stored(x, kinds[i], weights[i], 0), 4), places[i]);
        }
        Checks.due("10: a full shelf", x.bears(0, 1), 0);
        int heavy = x.thing(Pledgehouse.RING, 11, 1000);
        Checks.noState("10: none bears it", () -> x.pledge(0, heavy, 0, 0, 1, false));
        Checks.due("10: another branch does", x.pledge(0, heavy, 0, 1, 1, false), 7);
        Checks.due("10: its place", x.thingOf(heavy, 4), 5);
    }

    private static void promise18Stray() {
        Pledgehouse x = house();
        int ring = stored(x, Pledgehouse.RING, 40, 0);
        int out = x.thing(Pledgehouse.RING, 1, 1000);
        stored(x, Pledgehouse.RING, 50, 2);
        Checks.noIndex("18: thing -1", () -> x.stray(-1, 0, 0));
        Checks.noIndex("18: thing 3", () -> x.stray(3, 0, 0));
        Checks.noIndex("18: branch -1", () -> x.stray(ring, -1, 0));
        Checks.noIndex("18: branch 3", () -> x.stray(ring, 3, 0));
        Checks.noIndex("18: shelf -1", () -> x.stray(ring, 0, -1));
        Checks.noIndex("18: shelf 4", () -> x.stray(ring, 0, 4));
        Checks.noIndex("18: index ahead of state", () -> x.stray(out, 0, 4));
        Checks.noState("18: OUT", () -> x.stray(out, 0, 0));
        x.stray(ring, 2, 1);
        Checks.due("18: the book does not know", x.thingOf(ring, 4), 1);
        Checks.due("18: off its shelf", x.bears(0, 1), 60);
        Checks.due("18: whether borne or not", x.bears(2, 1), -30);
        Checks.noState("18: cannot be found", () -> x.redeem(0, 0));
        x.stray(ring, 0, 1);
        Checks.due("18: back, can be found", x.redeem(0, 0), 1);
        Checks.noState("18: OUT now", () -> x.stray(ring, 0, 1));
        Checks.due("18: the other shelf", x.bears(2, 1), 10);
    }

    /** The days of a fur begin when it comes to another place, not when it stays. */
    private static void promise18FurDays() {
        Pledgehouse x = house();
        int fur = stored(x, Pledgehouse.FUR, 10, 0);
        x.pass(60);
        Checks.due("18: cold", x.thingOf(fur, 2), 0);
        x.stray(fur, 0, 2);
        x.pass(30);
        x.stray(fur, 0, 2);
        x.pass(29);
        Checks.due("18: 59 days", x.thingOf(fur, 2), 0);
        x.pass(1);
        Checks.due("18: it did not come", x.thingOf(fur, 2), 1);
        x.pass(59);
        x.stray(fur, 0, 3);
        x.pass(1);
        Checks.due("18: it came", x.thingOf(fur, 2), 1);
        x.count(0);
        x.transfer(fur, 0);
        Checks.due("18: cold again", x.thingOf(fur, 4), 0);
        x.pass(200);
        Checks.due("18: cold again", x.thingOf(fur, 2), 1);
        x.stray(fur, 1, 1);
        x.pass(59);
        x.stray(fur, 2, 0);
        x.stray(fur, 1, 1);
        x.pass(1);
        Checks.due("18: came twice on a day", x.thingOf(fur, 2), 1);
        x.stray(fur, 2, 0);
        x.pass(100);
        Checks.due("18: cold in another branch", x.thingOf(fur, 2), 1);
        x.stray(fur, 1, 1);
        x.pass(20);
        x.count(1);
        x.pass(40);
        Checks.due("18: a count moves nothing", x.thingOf(fur, 2), 2);
    }

    private static void promise19Count() {
        Pledgehouse x = house();
        int a = stored(x, Pledgehouse.RING, 10, 0);
        int b = stored(x, Pledgehouse.RING, 10, 0);
        int c = stored(x, Pledgehouse.RING, 10, 0);
        int d = stored(x, Pledgehouse.RING, 10, 1);
        Checks.noIndex("19: branch -1", () -> x.count(-1));
        Checks.noIndex("19: branch 3", () -> x.count(3));
        Checks.due("19: all as in the book", x.count(0), 0);
        x.stray(a, 0, 3);
        x.stray(b, 1, 0);
        x.stray(c, 2, 2);
        x.stray(d, 0, 0);
        Checks.due("19: two missing, two found", x.count(0), 202);
        Checks.due("19: found in its branch", x.thingOf(a, 4), 3);
        Checks.due("19: found of another", x.thingOf(d, 4), 0);
        Checks.due("19: missing stays", x.thingOf(b, 4), 1);
        Checks.due("19: told anew", x.count(0), 200);
        Checks.due("19: the third branch", x.count(2), 1);
        Checks.due("19: fewer are missing", x.count(0), 100);
        Checks.due("19: found, not missing there", x.count(1), 1);
        Checks.due("19: none is missing", x.count(0), 0);
        Checks.due("19: can be found", x.redeem(2, 0), 1);
        x.stray(b, 1, 1);
        x.police(b);
        x.court(b, true);
        Checks.due("19: OUT is not missing", x.count(1), 0);
    }

    private static void promise20Transfer() {
        Pledgehouse x = house();
        int ring = stored(x, Pledgehouse.RING, 50, 0);
        int fur = stored(x, Pledgehouse.FUR, 40, 0);
        int out = x.thing(Pledgehouse.RING, 1, 1000);
        Checks.noIndex("20: thing -1", () -> x.transfer(-1, 0));
        Checks.noIndex("20: thing 3", () -> x.transfer(3, 0));
        Checks.noIndex("20: branch -1", () -> x.transfer(ring, -1));
        Checks.noIndex("20: branch 3", () -> x.transfer(ring, 3));
        Checks.noIndex("20: index ahead of state", () -> x.transfer(out, 3));
        Checks.noState("20: OUT", () -> x.transfer(out, 0));
        Checks.due("20: its own shelf bears it", x.transfer(ring, 0), 1);
        Checks.due("20: another branch", x.transfer(ring, 2), 1);
        Checks.due("20: the book knows", x.thingOf(ring, 4), 9);
        Checks.due("20: its shelf", x.bears(2, 1), 10);
        Checks.due("20: the shelf before", x.bears(0, 1), 60);
        Checks.due("20: a fur", x.transfer(fur, 2), 0);
        x.stray(fur, 2, 1);
        Checks.noState("20: cannot be found", () -> x.transfer(fur, 2));
        Checks.due("20: found", x.count(2), 1);
        Checks.due("20: back to the cold", x.transfer(fur, 2), 0);
        Checks.due("20: can be found", x.redeem(1, 0), 1);
    }

    private static void promise20Overfull() {
        Pledgehouse x = house();
        int fur = stored(x, Pledgehouse.FUR, 30, 0);
        int[] rings = new int[8];
        for (int i = 0; i < 4; i++) {
            rings[i] = stored(x, Pledgehouse.RING, 31, 1);
        }
        for (int i = 0; i < 3; i++) {
            x.stray(rings[i], 0, i);
        }
        Checks.due("20: overfull", x.bears(0, 0), -1);
        Checks.due("20: the next that bears it", x.transfer(fur, 0), 3);
        Checks.due("20: off its shelf", x.bears(0, 0), 29);
        x.stray(rings[3], 0, 3);
        Checks.noState("20: no shelf bears it", () -> x.transfer(fur, 0));
        Checks.due("20: it stays", x.thingOf(fur, 4), 3);
        Checks.due("20: elsewhere", x.transfer(fur, 1), 0);
        int other = stored(x, Pledgehouse.FUR, 30, 2);
        x.stray(rings[0], 2, 0);
        Checks.due("20: a fur leaves the cold", x.transfer(other, 2), 1);
        x.pass(30);
        Checks.due("20: it stays where it is", x.transfer(other, 2), 1);
        x.pass(30);
        Checks.due("20: to there it does not come", x.thingOf(other, 2), 1);
    }

    private static void promise21Wind() {
        Pledgehouse x = house();
        int a = stored(x, Pledgehouse.CLOCK, 10, 0);
        int b = stored(x, Pledgehouse.CLOCK, 10, 0);
        stored(x, Pledgehouse.RING, 10, 0);
        int d = stored(x, Pledgehouse.CLOCK, 10, 1);
        Checks.noIndex("21: branch -1", () -> x.wind(-1));
        Checks.noIndex("21: branch 3", () -> x.wind(3));
        Checks.due("21: clocks alone", x.wind(0), 2);
        Checks.due("21: none there", x.wind(2), 0);
        x.stray(a, 1, 0);
        x.pass(50);
        Checks.due("21: what truly is there", x.wind(1), 2);
        x.pass(40);
        Checks.due("21: wound", x.thingOf(a, 2), 0);
        Checks.due("21: not wound", x.thingOf(b, 2), 1);
        Checks.due("21: wound", x.thingOf(d, 2), 0);
        x.pass(49);
        Checks.due("21: 89 days", x.thingOf(a, 2), 0);
        x.pass(1);
        Checks.due("21: 90 days", x.thingOf(a, 2), 1);
        x.redeem(1, 0);
        Checks.due("21: OUT is not wound", x.wind(0), 0);
        x.pass(5);
        x.pledge(0, b, 0, 0, 1, false);
        x.pass(89);
        Checks.due("21: stored anew", x.thingOf(b, 2), 1);
        x.transfer(b, 2);
        x.pass(1);
        Checks.due("21: a transfer winds nothing", x.thingOf(b, 2), 2);
    }

    private static void promise22Pass() {
        Pledgehouse x = house();
        Checks.noArgument("22: 0", () -> x.pass(0));
        Checks.noArgument("22: -1", () -> x.pass(-1));
        Checks.noArgument("22: 401", () -> x.pass(401));
        Checks.due("22: one", x.pass(1), 1);
        Checks.due("22: most", x.pass(400), 401);
        Checks.due("22: day", x.day(), 401);
        for (int i = 0; i < 11; i++) {
            x.pass(400);
        }
        Checks.noState("22: above 5000", () -> x.pass(200));
        Checks.noArgument("22: argument ahead of state", () -> x.pass(401));
        Checks.due("22: refusals change nothing", x.day(), 4801);
        Checks.due("22: the last day", x.pass(199), 5000);
        Checks.noState("22: behind the last day", () -> x.pass(1));
    }

    private static void promise22Wear() {
        Pledgehouse x = house();
        int fur = stored(x, Pledgehouse.FUR, 10, 0);
        int clock = stored(x, Pledgehouse.CLOCK, 10, 0);
        int ring = stored(x, Pledgehouse.RING, 10, 0);
        int tool = stored(x, Pledgehouse.TOOL, 10, 0);
        int out = x.thing(Pledgehouse.CLOCK, 1, 12);
        x.stray(fur, 0, 1);
        x.pass(400);
        Checks.due("22: a fur", x.thingOf(fur, 2), 6);
        Checks.due("22: a fur's value", x.thingOf(fur, 1), 400);
        Checks.due("22: a clock", x.thingOf(clock, 2), 4);
        Checks.due("22: a ring", x.thingOf(ring, 2), 0);
        Checks.due("22: a tool", x.thingOf(tool, 2), 0);
        Checks.due("22: OUT", x.thingOf(out, 2), 0);
        x.pass(400);
        Checks.due("22: a fur's most", x.thingOf(fur, 2), 10);
        Checks.due("22: worth nothing", x.thingOf(fur, 1), 0);
        x.pass(400);
        Checks.due("22: a fur's most", x.thingOf(fur, 2), 10);
        Checks.due("22: a clock's most", x.thingOf(clock, 2), 10);
        x.stray(fur, 0, 0);
        x.redeem(0, 0);
        Checks.due("22: wear stays", x.thingOf(fur, 2), 10);
        Checks.noState("22: no loan for it", () -> x.pledge(0, fur, 0, 0, 1, false));
        int again = stored(x, Pledgehouse.CLOCK, 10, 1);
        x.pass(90);
        x.redeem(4, 0);
        x.pass(90);
        Checks.due("22: OUT does not wear", x.thingOf(again, 2), 1);
        x.pledge(0, again, 0, 0, 1, false);
        x.pass(89);
        Checks.due("22: stored anew", x.thingOf(again, 2), 1);
        x.pass(1);
        Checks.due("22: wears on", x.thingOf(again, 2), 2);
        x.pledge(0, out, 0, 2, 1, false);
        x.pass(180);
        x.fashion(Pledgehouse.CLOCK, 200);
        // 12 * 8 / 10 is rounded down to 9 ahead of the fashion
        Checks.due("22: value rounded down twice", x.thingOf(out, 1), 18);
    }

    /** A fur that is stored late, and anew on the shelf where it was, comes there on that day. */
    private static void promise22WearOfLateFurs() {
        Pledgehouse x = house();
        stored(x, Pledgehouse.FUR, 50, 0);
        x.pass(25);
        int fur = stored(x, Pledgehouse.FUR, 50, 0);
        Checks.due("22: a warm shelf", x.thingOf(fur, 4), 1);
        x.pass(59);
        Checks.due("22: 59 days", x.thingOf(fur, 2), 0);
        x.pass(1);
        Checks.due("22: 60 days", x.thingOf(fur, 2), 1);
        x.pass(20);
        x.redeem(1, 0);
        x.pledge(0, fur, 0, 0, 1, false);
        Checks.due("22: the same shelf", x.thingOf(fur, 4), 1);
        x.pass(59);
        Checks.due("22: 59 days anew", x.thingOf(fur, 2), 1);
        x.pass(1);
        Checks.due("22: 60 days anew", x.thingOf(fur, 2), 2);
    }
}
