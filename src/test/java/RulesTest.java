/** Promises 1 to 9: a new object, things and rules. */
public final class RulesTest {
    public static void main(String[] args) {
        promise1New();
        promise2Thing();
        promise3Fashion();
        promise4Bias();
        promise5ClassOf();
        promise6Charter();
        promise7Rate();
        promise7RateInForce();
        promise8Term();
        promise9Amnesty();
        Checks.end("RulesTest");
    }

    private static void promise1New() {
        Pledgehouse x = new Pledgehouse();
        Checks.due("1: day", x.day(), 0);
        for (int what = 0; what <= 3; what++) {
            Checks.due("1: money " + what, x.money(what), 0);
        }
        Checks.due("1: moneyAnew", x.moneyAnew(), 0);
        Checks.noIndex("1: no thing", () -> x.thingOf(0, 0));
        Checks.noIndex("1: no ticket", () -> x.ticketOf(0, 0));
        for (int place = 0; place < 12; place++) {
            Checks.due("1: bears " + place, x.bears(place / 4, place % 4), 60);
        }
        for (int expert = 0; expert < 4; expert++) {
            for (int what = 0; what < 3; what++) {
                Checks.due("1: expert " + expert + " " + what, x.expertOf(expert, what), 0);
            }
        }
        Pledgehouse other = new Pledgehouse();
        other.thing(0, 1, 10);
        Checks.noIndex("1: objects share nothing", () -> x.thingOf(0, 0));
    }

    private static void promise2Thing() {
        Pledgehouse x = new Pledgehouse();
        Checks.noIndex("2: kind -1", () -> x.thing(-1, 1, 10));
        Checks.noIndex("2: kind 4 goes first", () -> x.thing(4, 0, 9));
        Checks.noArgument("2: weight 0", () -> x.thing(0, 0, 10));
        Checks.noArgument("2: weight 51", () -> x.thing(0, 51, 10));
        Checks.noArgument("2: worth 9", () -> x.thing(0, 1, 9));
        Checks.noArgument("2: worth 10001", () -> x.thing(0, 1, 10001));
        Checks.due("2: least", x.thing(Pledgehouse.RING, 1, 10), 0);
        Checks.due("2: most", x.thing(Pledgehouse.TOOL, 50, 10000), 1);
        Checks.due("2: kind", x.thingOf(1, 0), Pledgehouse.TOOL);
        Checks.due("2: value", x.thingOf(1, 1), 10000);
        Checks.due("2: wear", x.thingOf(1, 2), 0);
        Checks.due("2: OUT", x.thingOf(1, 3), Pledgehouse.OUT);
        Checks.due("2: no place", x.thingOf(1, 4), Pledgehouse.NONE);
        Checks.due("2: no ticket", x.thingOf(1, 5), Pledgehouse.NONE);
        Checks.due("2: not listed", x.thingOf(1, 6), 0);
        for (int i = 2; i < 40; i++) {
            Checks.due("2: number", x.thing(i % 4, 1 + i, 10 + i), i);
        }
        Checks.noState("2: the 41st", () -> x.thing(0, 1, 10));
        Checks.noArgument("2: argument ahead of state", () -> x.thing(0, 51, 10));
        Checks.noIndex("2: kind ahead of all", () -> x.thing(4, 51, 10));
        Checks.due("2: the 40th", x.thingOf(39, 1), 49);
        Checks.noIndex("2: none was added", () -> x.thingOf(40, 0));
    }

    private static void promise3Fashion() {
        Pledgehouse x = new Pledgehouse();
        x.thing(Pledgehouse.FUR, 1, 333);
        x.thing(Pledgehouse.RING, 1, 333);
        Checks.noIndex("3: kind -1", () -> x.fashion(-1, 100));
        Checks.noIndex("3: kind 4 goes first", () -> x.fashion(4, 201));
        Checks.noArgument("3: -1", () -> x.fashion(1, -1));
        Checks.noArgument("3: 201", () -> x.fashion(1, 201));
        Checks.due("3: first", x.fashion(1, 200), 100);
        Checks.due("3: value", x.thingOf(0, 1), 666);
        Checks.due("3: other kinds", x.thingOf(1, 1), 333);
        Checks.due("3: then", x.fashion(1, 99), 200);
        Checks.due("3: rounded down", x.thingOf(0, 1), 329);
        Checks.due("3: nothing", x.fashion(1, 0), 99);
        Checks.due("3: value of nothing", x.thingOf(0, 1), 0);
        for (int kind : new int[] {0, 2, 3}) {
            Checks.due("3: first of " + kind, x.fashion(kind, 7), 100);
        }
    }

    private static void promise4Bias() {
        Pledgehouse x = new Pledgehouse();
        x.deposit(100000);
        x.charter(0, 90, 100000);
        x.thing(0, 1, 999);
        Checks.noIndex("4: expert -1", () -> x.bias(-1, 0));
        Checks.noIndex("4: expert 4 goes first", () -> x.bias(4, 21));
        Checks.noArgument("4: -21", () -> x.bias(0, -21));
        Checks.noArgument("4: 21", () -> x.bias(0, 21));
        Checks.due("4: first", x.bias(2, -20), 0);
        Checks.due("4: then", x.bias(2, 20), -20);
        Checks.due("4: asked", x.expertOf(2, 0), 20);
        Checks.due("4: other experts", x.expertOf(1, 0), 0);
        x.bias(3, -7);
        // 999 * 93 / 100 = 929; 90 hundredths of that are 836
        Checks.noState("4: value by expert", () -> x.pledge(0, 0, 3, 0, 837, true));
        Checks.due("4: value by expert", x.pledge(0, 0, 3, 0, 836, true), 0);
    }

    private static void promise5ClassOf() {
        Pledgehouse x = new Pledgehouse();
        x.deposit(10000);
        x.charter(2, 90, 5000);
        x.thing(0, 1, 1000);
        Checks.noIndex("5: person -1", () -> x.classOf(-1, 0));
        Checks.noIndex("5: person 10", () -> x.classOf(10, 0));
        Checks.noIndex("5: class -1", () -> x.classOf(0, -1));
        Checks.noIndex("5: class 3", () -> x.classOf(0, 3));
        Checks.noState("5: class 0 at first", () -> x.pledge(9, 0, 0, 0, 900, true));
        Checks.due("5: first", x.classOf(9, 2), 0);
        Checks.noState("5: others stay", () -> x.pledge(8, 0, 0, 0, 900, true));
        Checks.due("5: lends more", x.pledge(9, 0, 0, 0, 900, true), 0);
        Checks.due("5: then", x.classOf(9, 1), 2);
        Checks.due("5: back", x.classOf(9, 0), 1);
    }

    private static void promise6Charter() {
        Pledgehouse x = new Pledgehouse();
        x.deposit(100000);
        x.thing(0, 1, 10000);
        x.thing(0, 1, 100);
        x.thing(0, 1, 101);
        Checks.noIndex("6: class -1", () -> x.charter(-1, 50, 1000));
        Checks.noIndex("6: class 3 goes first", () -> x.charter(3, 9, -1));
        Checks.noArgument("6: share 9", () -> x.charter(0, 9, 1000));
        Checks.noArgument("6: share 91", () -> x.charter(0, 91, 1000));
        Checks.noArgument("6: cap -1", () -> x.charter(0, 50, -1));
        Checks.noArgument("6: cap 100001", () -> x.charter(0, 50, 100001));
        Checks.noState("6: share at first", () -> x.pledge(0, 1, 0, 0, 51, true));
        Checks.noState("6: cap at first", () -> x.pledge(0, 0, 0, 0, 1001, true));
        Checks.due("6: cap at first", x.pledge(0, 0, 0, 0, 1000, true), 0);
        Checks.noState("6: cap with this one", () -> x.pledge(0, 1, 0, 0, 1, true));
        x.charter(0, 10, 1010);
        Checks.noState("6: least share", () -> x.pledge(0, 1, 0, 0, 11, true));
        Checks.due("6: least share and cap", x.pledge(0, 1, 0, 0, 10, true), 1);
        x.charter(0, 90, 0);
        Checks.due("6: loans stay", x.ticketOf(0, 2), 1000);
        Checks.noState("6: cap 0", () -> x.pledge(0, 2, 0, 0, 1, true));
        Checks.noState("6: cap 0 for others of it", () -> x.pledge(5, 2, 0, 0, 1, true));
        x.classOf(5, 1);
        // half of 101, rounded down
        Checks.noState("6: other classes stay", () -> x.pledge(5, 2, 0, 0, 51, true));
        Checks.due("6: other classes stay", x.pledge(5, 2, 0, 0, 50, true), 2);
    }

    private static void promise7Rate() {
        Pledgehouse x = new Pledgehouse();
        Checks.noIndex("7: step -1", () -> x.rate(-1, 0));
        Checks.noIndex("7: step 3 goes first", () -> x.rate(3, 101));
        Checks.noArgument("7: -1", () -> x.rate(0, -1));
        Checks.noArgument("7: 101", () -> x.rate(0, 101));
        Checks.due("7: step 0 at first", x.rate(0, 100), 10);
        Checks.due("7: step 1 at first", x.rate(1, 0), 15);
        Checks.due("7: step 2 at first", x.rate(2, 1), 20);
        Checks.due("7: step 0 then", x.rate(0, 5), 100);
        Checks.due("7: step 1 then", x.rate(1, 5), 0);
        x.pass(1);
        Checks.due("7: step 2 then", x.rate(2, 5), 1);
        for (int i = 6; i < 30; i++) {
            Checks.due("7: again " + i, x.rate(i % 3, 5), 5);
        }
        Checks.noState("7: 30 times", () -> x.rate(0, 5));
        Checks.noArgument("7: argument ahead of state", () -> x.rate(0, 101));
        Checks.noIndex("7: step ahead of all", () -> x.rate(3, 0));
    }

    /** Of several rates told on the day of a fortnight the last one counts; later ones do not. */
    private static void promise7RateInForce() {
        Pledgehouse x = new Pledgehouse();
        x.deposit(1000);
        x.thing(0, 1, 1000);
        x.pledge(0, 0, 0, 0, 500, true);
        x.rate(0, 50);
        x.pass(4);
        Checks.due("7: told on the first day", x.ticketOf(0, 3), 25);
        x.rate(0, 90);
        Checks.due("7: told later", x.ticketOf(0, 3), 25);
        x.pass(10);
        Checks.due("7: the fortnight of now", x.ticketOf(0, 3), 25 + 45);
        x.rate(0, 10);
        Checks.due("7: told on its day", x.ticketOf(0, 3), 25 + 5);
        x.rate(0, 20);
        Checks.due("7: told twice on its day", x.ticketOf(0, 3), 25 + 10);
        x.rate(1, 100);
        Checks.due("7: other steps", x.ticketOf(0, 3), 25 + 10);
        x.pass(1);
        x.rate(0, 0);
        Checks.due("7: told a day behind", x.ticketOf(0, 3), 25 + 10);
        Checks.due("7: anew", x.interestAnew(0), 35);
    }

    private static void promise8Term() {
        Pledgehouse x = new Pledgehouse();
        x.deposit(1000);
        x.thing(0, 1, 1000);
        x.thing(0, 1, 1000);
        x.pledge(0, 0, 0, 0, 10, true);
        Checks.noArgument("8: 13", () -> x.term(13));
        Checks.noArgument("8: 1001", () -> x.term(1001));
        Checks.due("8: first", x.term(14), 120);
        Checks.due("8: tickets stay", x.ticketOf(0, 6), 120);
        x.pass(2);
        x.pledge(0, 1, 0, 0, 10, true);
        Checks.due("8: from now on", x.ticketOf(1, 6), 16);
        Checks.due("8: then", x.term(1000), 14);
        x.renew(0, 0, 0);
        Checks.due("8: a renewal", x.ticketOf(0, 6), 1002);
        Checks.due("8: not the other", x.ticketOf(1, 6), 16);
    }

    private static void promise9Amnesty() {
        Pledgehouse x = new Pledgehouse();
        x.deposit(1000);
        x.thing(0, 1, 1000);
        x.pledge(0, 0, 0, 0, 500, true);
        x.pass(30);
        Checks.noArgument("9: from -1", () -> x.amnesty(-1, 5));
        Checks.noArgument("9: from 5001", () -> x.amnesty(5001, 5001));
        Checks.noArgument("9: to below from", () -> x.amnesty(5, 4));
        Checks.noArgument("9: to 5001", () -> x.amnesty(5, 5001));
        Checks.due("9: without", x.ticketOf(0, 3), 15);
        Checks.due("9: between fortnights", x.amnesty(1, 13), 1);
        Checks.due("9: between fortnights", x.ticketOf(0, 3), 15);
        Checks.due("9: its last day", x.amnesty(10, 14), 2);
        Checks.due("9: its last day", x.ticketOf(0, 3), 10);
        Checks.due("9: once only", x.amnesty(14, 14), 3);
        Checks.due("9: once only", x.ticketOf(0, 3), 10);
        Checks.due("9: its first day", x.amnesty(28, 5000), 4);
        Checks.due("9: its first day", x.ticketOf(0, 3), 5);
        Checks.due("9: anew", x.interestAnew(0), 5);
        Checks.due("9: the day 0", x.amnesty(0, 0), 5);
        Checks.due("9: the day 0", x.ticketOf(0, 3), 0);
        Checks.due("9: the day 5000", x.amnesty(5000, 5000), 6);
        for (int i = 7; i <= 10; i++) {
            Checks.due("9: how many", x.amnesty(1, 1), i);
        }
        Checks.noState("9: the 11th", () -> x.amnesty(1, 1));
        Checks.noArgument("9: argument ahead of state", () -> x.amnesty(2, 1));
    }
}
