/** The boundaries that the document names for things and rules: promises 1 to 9. */
public final class RulesEdgesTest {
    public static void main(String[] args) {
        newHouse();
        kindsWeightsWorths();
        mostThings();
        fashions();
        biases();
        classes();
        charters();
        greatestCap();
        rates();
        mostRates();
        terms();
        amnesties();
        mostAmnesties();
        Checks.end("RulesEdgesTest");
    }

    /** Nothing but money and three things, of which the first is pledged. */
    private static Story house() {
        return new Story().tell(x -> x.deposit(20000))
                .thing(Pledgehouse.RING, 5, 1000)
                .thing(Pledgehouse.FUR, 5, 1000)
                .thing(Pledgehouse.CLOCK, 5, 1000)
                .pledge(0, 0, 0, 0, 400, false)
                .tell(x -> x.pass(20));
    }

    private static void newHouse() {
        Story none = new Story();
        String what = Document.says(1, "No things, tickets and money; the day 0.");
        none.due(what, 0, x -> x.day());
        for (int i = 0; i < 4; i++) {
            int n = i;
            none.due(what, 0, x -> x.money(n));
        }
        none.due(what, 0, x -> x.moneyAnew());
        for (int thing : new int[] {-1, 0, 1, 39}) {
            none.refused(what + " thing " + thing, Story.INDEX, x -> x.thingOf(thing, 0));
            none.refused(what + " ticket " + thing, Story.INDEX, x -> x.ticketOf(thing, 0));
        }
        none.refused(what + " nothing is free", Story.STATE, x -> x.withdraw(1));
        none.due(what + " the first thing", 0, x -> x.thing(0, 1, 10));
        none.thing(0, 1, 10).refused(what + " no money for a loan", Story.STATE, x -> x.pledge(0, 0, 0, 0, 1, true));
        Story rich = none.more().tell(x -> x.deposit(1));
        rich.due(what + " the first ticket", 0, x -> x.pledge(0, 0, 0, 0, 1, true));
    }

    private static void kindsWeightsWorths() {
        Story few = house();
        few.range(Document.says(2, "- `kind`: RING to TOOL"), Story.INDEX, Pledgehouse.RING, Pledgehouse.TOOL,
                (x, n) -> x.thing(n, 1, 10), 3, 3);
        few.range(Document.says(2, "- `weight`: 1 to 50"), Story.ARGUMENT, 1, 50, (x, n) -> x.thing(0, n, 10), 3, 3);
        few.range(Document.says(2, "- `worth`: 10 to 10000"), Story.ARGUMENT, 10, 10000,
                (x, n) -> x.thing(0, 1, n), 3, 3);
        few.due("2: the least worth", 3, x -> x.thing(0, 1, 10), 10, x -> x.thingOf(3, 1));
        few.due("2: the most worth", 3, x -> x.thing(0, 1, 10000), 10000, x -> x.thingOf(3, 1));
        few.due("2: the last kind", 3, x -> x.thing(3, 1, 10), 3, x -> x.thingOf(3, 0));
        String first = Document.says(2, "If several exceptions of a throws clause apply, the one that is listed first");
        few.refused(first, Story.INDEX, x -> x.thing(4, 0, 10));
        few.refused(first, Story.INDEX, x -> x.thing(-1, 1, 10001));
        few.refused(first, Story.ARGUMENT, x -> x.thing(0, 51, 9));
    }

    private static void mostThings() {
        Story most = new Story().tell(x -> x.deposit(1000));
        for (int i = 0; i < 39; i++) {
            most.thing(i % 4, 1 + i, 10 + i);
        }
        String full = Document.says(2, "Throws `IllegalStateException` if there are 40");
        most.refused(full + " 39, with a wrong weight", Story.ARGUMENT, x -> x.thing(0, 0, 10));
        most.due(full + " 39", 39, x -> x.thing(3, 50, 10000), 10000, x -> x.thingOf(39, 1));
        Story all = most.more().thing(3, 50, 10000);
        all.refused(full, Story.STATE, x -> x.thing(0, 1, 10));
        all.refused(full + " the argument goes first", Story.ARGUMENT, x -> x.thing(0, 1, 9));
        all.refused(full + " the kind goes first", Story.INDEX, x -> x.thing(4, 51, 9));
        String number = Document.says(2, "Things are numbered from 0, at most 40");
        all.due(number, 10000, x -> x.thingOf(39, 1));
        all.refused(number, Story.INDEX, x -> x.thingOf(40, 0));
        all.refused(number, Story.INDEX, x -> x.thingOf(-1, 0));
    }

    private static void fashions() {
        Story few = house();
        few.range(Document.says(3, "- `kind`: RING to TOOL"), Story.INDEX, 0, 3, (x, n) -> x.fashion(n, 50), 100, 100);
        few.range(Document.says(3, "- `hundredths`: 0 to 200"), Story.ARGUMENT, 0, 200,
                (x, n) -> x.fashion(1, n), 100, 100);
        String what = Document.says(3, "Each kind has a fashion, 0 to 200 hundredths, 100 at first.");
        few.due(what, 100, x -> x.fashion(1, 0), 0, x -> x.thingOf(1, 1));
        few.due(what, 100, x -> x.fashion(1, 0), 0, x -> x.fashion(1, 7));
        few.due(what, 100, x -> x.fashion(1, 200), 2000, x -> x.thingOf(1, 1));
        few.due(what, 100, x -> x.fashion(1, 200), 1000, x -> x.thingOf(2, 1));
        few.refused("3: the kind goes first", Story.INDEX, x -> x.fashion(4, 201));
        few.refused("3: the kind goes first", Story.INDEX, x -> x.fashion(-1, -1));
        Story worn = house().thing(Pledgehouse.RING, 1, 99).thing(Pledgehouse.TOOL, 1, 10);
        String down = Document.says(3, "All divisions are rounded down, but for interest.");
        worn.due(down + " 9.9", 100, x -> x.fashion(3, 99), 9, x -> x.thingOf(4, 1));
        worn.due(down + " 0.1", 100, x -> x.fashion(3, 1), 0, x -> x.thingOf(4, 1));
        worn.due(down + " 1.98", 100, x -> x.fashion(0, 2), 1, x -> x.thingOf(3, 1));
        worn.due(down + " 198", 100, x -> x.fashion(0, 200), 198, x -> x.thingOf(3, 1));
    }

    private static void biases() {
        Story few = house();
        few.range(Document.says(4, "- `expert`: 0 to 3"), Story.INDEX, 0, 3, (x, n) -> x.bias(n, 5), 0, 0);
        few.range(Document.says(4, "- `hundredths`: -20 to 20"), Story.ARGUMENT, -20, 20,
                (x, n) -> x.bias(2, n), 0, 0);
        few.due("4: the least", 0, x -> x.bias(2, -20), -20, x -> x.expertOf(2, 0));
        few.due("4: the most", 0, x -> x.bias(2, 20), 20, x -> x.bias(2, 0));
        few.refused("4: the expert goes first", Story.INDEX, x -> x.bias(4, 21));
        few.refused("4: the expert goes first", Story.INDEX, x -> x.bias(-1, -21));
        // 1000 less 20 hundredths is 800, and half of that 400; with 20 more 600
        String value = Document.says(4, "is the value times 100 and the bias, together, divided by 100");
        Story least = house().tell(x -> x.bias(1, -20));
        least.due(value, 1, x -> x.pledge(5, 1, 1, 0, 400, true));
        least.refused(value, Story.STATE, x -> x.pledge(5, 1, 1, 0, 401, true));
        Story most = house().tell(x -> x.bias(1, 20));
        most.due(value, 1, x -> x.pledge(5, 1, 1, 0, 600, true));
        most.refused(value, Story.STATE, x -> x.pledge(5, 1, 1, 0, 601, true));
        most.refused(value + " of another expert", Story.STATE, x -> x.pledge(5, 1, 2, 0, 501, true));
    }

    private static void classes() {
        Story few = house();
        few.range(Document.says(5, "- `person`: 0 to 9"), Story.INDEX, 0, 9, (x, n) -> x.classOf(n, 1), 0, 0);
        few.range(Document.says(5, "- `newClass`: 0 to 2"), Story.INDEX, 0, 2, (x, n) -> x.classOf(4, n), 0, 0);
        few.due("5: the last class", 0, x -> x.classOf(9, 2), 2, x -> x.classOf(9, 0));
        few.due("5: the class between", 0, x -> x.classOf(0, 1), 1, x -> x.classOf(0, 2));
        few.due("5: of others", 0, x -> x.classOf(9, 2), 0, x -> x.classOf(8, 0));
        few.refused("5: both", Story.INDEX, x -> x.classOf(10, 3));
    }

    private static void charters() {
        Story few = house().tell(x -> x.classOf(5, 2));
        few.range(Document.says(6, "- `ofClass`: 0 to 2"), Story.INDEX, 0, 2,
                (x, n) -> Story.charter(n, 50, 1000).of(x), 0, 0);
        few.range(Document.says(6, "- `share`: 10 to 90"), Story.ARGUMENT, 10, 90,
                (x, n) -> Story.charter(2, n, 1000).of(x), 0, 0);
        few.range(Document.says(6, "- `cap`: 0 to 100000"), Story.ARGUMENT, 0, 100000,
                (x, n) -> Story.charter(2, 50, n).of(x), 0, 0);
        few.refused("6: the class goes first", Story.INDEX, Story.charter(3, 9, 1000));
        few.refused("6: the class goes first", Story.INDEX, Story.charter(-1, 50, -1));
        Story least = few.more().tell(Story.charter(2, 10, 100000));
        least.due("6: a tenth", 1, x -> x.pledge(5, 1, 0, 0, 100, true));
        least.refused("6: above a tenth", Story.STATE, x -> x.pledge(5, 1, 0, 0, 101, true));
        Story most = few.more().tell(Story.charter(2, 90, 100000));
        most.due("6: nine tenths", 1, x -> x.pledge(5, 1, 0, 0, 900, true));
        most.refused("6: above nine tenths", Story.STATE, x -> x.pledge(5, 1, 0, 0, 901, true));
        Story none = few.more().tell(Story.charter(2, 90, 0));
        none.refused("6: the cap 0", Story.STATE, x -> x.pledge(5, 1, 0, 0, 1, true));
        Story one = few.more().tell(Story.charter(2, 90, 1));
        one.due("6: the cap 1", 1, x -> x.pledge(5, 1, 0, 0, 1, true));
        one.refused("6: above the cap 1", Story.STATE, x -> x.pledge(5, 1, 0, 0, 2, true));
        String from = Document.says(6, "Tells share and cap of a class, for loans from now on.");
        Story later = few.more().pledge(5, 1, 0, 0, 500, false).tell(Story.charter(2, 10, 0));
        later.due(from, 500, x -> x.ticketOf(1, 2));
        later.due(from, 3, x -> x.renew(1, 5, 3));
        later.refused(from, Story.STATE, x -> x.pledge(5, 2, 0, 0, 1, true));
    }

    /** Five loans that are the greatest cap together. */
    private static void greatestCap() {
        Story rich = new Story().tell(x -> x.deposit(100000)).tell(x -> x.deposit(100000))
                .tell(Story.charter(1, 90, 100000)).tell(x -> x.classOf(6, 1))
                .tell(x -> x.fashion(0, 200)).tell(x -> x.bias(3, 20));
        for (int i = 0; i < 5; i++) {
            rich.thing(Pledgehouse.RING, 1, 10000);
        }
        String greatest = Document.says(6, "a cap, 0 to 100000, 1000 at first");
        // 10000 doubled, with 20 hundredths, is 24000, and nine tenths of it 21600
        rich.due(greatest, 0, x -> x.pledge(6, 0, 3, 0, 21600, true));
        rich.refused(greatest, Story.STATE, x -> x.pledge(6, 0, 3, 0, 21601, true));
        for (int i = 0; i < 4; i++) {
            rich.pledge(6, i, 3, 0, 21600, true);
        }
        rich.due(greatest, 4, x -> x.pledge(6, 4, 3, 0, 13600, true));
        rich.refused(greatest, Story.STATE, x -> x.pledge(6, 4, 3, 0, 13601, true));
    }

    private static void rates() {
        Story few = house();
        few.range(Document.says(7, "- `thousandths`: 0 to 100"), Story.ARGUMENT, 0, 100,
                (x, n) -> x.rate(1, n), 15, 15);
        few.range(Document.says(7, "- `step`: 0 to 2"), Story.INDEX, 0, 2, (x, n) -> x.rate(n, 50), 10, 20);
        few.due("7: the most", 10, x -> x.rate(0, 100), 100, x -> x.rate(0, 0));
        few.due("7: nothing", 10, x -> x.rate(0, 0), 0, x -> x.rate(0, 1));
        few.refused("7: the step goes first", Story.INDEX, x -> x.rate(3, 101));
        few.refused("7: the step goes first", Story.INDEX, x -> x.rate(-1, -1));
        String today = Document.says(7, "Tells the rate of a step, from today on.");
        Story eve = house().tell(x -> x.pass(7));
        // a fortnight begins on the day 28; on the day 27 two have begun
        eve.due(today + " a day ahead", 10, x -> x.rate(0, 100), 8, x -> x.ticketOf(0, 3));
        Story told = eve.more().tell(x -> x.rate(0, 100)).tell(x -> x.pass(1));
        told.due(today + " a day ahead", 8 + 40, x -> x.ticketOf(0, 3));
        Story on = eve.more().tell(x -> x.pass(1));
        on.due(today + " on the day", 10, x -> x.rate(0, 100), 8 + 40, x -> x.ticketOf(0, 3));
        Story behind = eve.more().tell(x -> x.pass(2));
        behind.due(today + " a day behind", 10, x -> x.rate(0, 100), 8 + 4, x -> x.ticketOf(0, 3));
    }

    private static void mostRates() {
        Story some = house();
        for (int i = 0; i < 29; i++) {
            int n = i;
            some.tell(x -> x.rate(n % 3, n));
        }
        String full = Document.says(7, "Throws `IllegalStateException` if rates were told 30 times");
        some.refused(full + " 29, with a wrong rate", Story.ARGUMENT, x -> x.rate(0, 101));
        some.refused(full + " 29, with a wrong step", Story.INDEX, x -> x.rate(3, 1));
        // the steps 0, 1 and 2 were told 27, 28 and 26 last
        some.due(full + " 29", 27, x -> x.rate(0, 99), Story.STATE, x -> x.rate(1, 99));
        Story all = some.more().tell(x -> x.rate(2, 50));
        for (int step = 0; step < 3; step++) {
            int n = step;
            all.refused(full, Story.STATE, x -> x.rate(n, 5));
        }
        all.refused(full + " the argument goes first", Story.ARGUMENT, x -> x.rate(0, -1));
        all.refused(full + " the step goes first", Story.INDEX, x -> x.rate(3, -1));
        Story later = all.more().tell(x -> x.pass(300));
        later.refused(full + " also later", Story.STATE, x -> x.rate(0, 5));
    }

    private static void terms() {
        Story few = house();
        few.range(Document.says(8, "- `days`: 14 to 1000"), Story.ARGUMENT, 14, 1000, (x, n) -> x.term(n), 120, 120);
        few.due("8: the most", 120, x -> x.term(1000), 1000, x -> x.term(14));
        String from = Document.says(8, "Tells the term of tickets that begin from now on.");
        few.due(from, 120, x -> x.term(14), 120, x -> x.ticketOf(0, 6));
        Story least = house().tell(x -> x.term(14)).pledge(1, 1, 0, 0, 100, false);
        least.due(from, 34, x -> x.ticketOf(1, 6));
        least.due(from, 4 + 4, x -> x.renew(0, 0, 0), 34, x -> x.ticketOf(0, 6));
        Story last = least.more().tell(x -> x.pass(14));
        last.refused(from + " its last day", Story.STATE, x -> x.offer(1, 1000));
        Story over = least.more().tell(x -> x.pass(15));
        over.due(from + " overdue", 1000 - 50 - 100 - 2, x -> x.offer(1, 1000));
        Story most = house().tell(x -> x.term(1000)).pledge(1, 1, 0, 0, 100, false).pass(1000);
        most.due(from, 1020, x -> x.ticketOf(1, 6));
        most.refused(from + " its last day", Story.STATE, x -> x.offer(1, 1000));
        Story late = most.more().tell(x -> x.pass(1));
        late.due(from + " overdue", Integer.MIN_VALUE, x -> x.offer(1, 0));
    }

    private static void amnesties() {
        Story few = house();
        few.range(Document.says(9, "- `from`: 0 to 5000: its first day, gone by or not"), Story.ARGUMENT, 0, 5000,
                (x, n) -> x.amnesty(n, 5000), 1, 1);
        for (int from : new int[] {0, 19, 4999, 5000}) {
            few.range(Document.says(9, "- `to`: from to 5000"), Story.ARGUMENT, from, 5000,
                    (x, n) -> x.amnesty(from, n), 1, 1);
        }
        few.refused("9: both", Story.ARGUMENT, x -> x.amnesty(5001, 5000));
        few.refused("9: both", Story.ARGUMENT, x -> x.amnesty(-1, -1));
        // fortnights began on the days 0 and 14
        String costs = Document.says(9, "A fortnight that began on a day of an amnesty costs nothing");
        few.due(costs + " up to the day before", 1, x -> x.amnesty(1, 13), 8, x -> x.ticketOf(0, 3));
        few.due(costs + " up to the day", 1, x -> x.amnesty(1, 14), 4, x -> x.interestAnew(0));
        few.due(costs + " from the day", 1, x -> x.amnesty(14, 5000), 4, x -> x.ticketOf(0, 3));
        few.due(costs + " from the day behind", 1, x -> x.amnesty(15, 5000), 8, x -> x.ticketOf(0, 3));
        few.due(costs + " the first day", 1, x -> x.amnesty(0, 0), 4, x -> x.ticketOf(0, 3));
        few.due(costs + " all days", 1, x -> x.amnesty(0, 5000), 0, x -> x.ticketOf(0, 3));
        String later = Document.says(9, "an amnesty may be told later");
        few.due(later, 4 + 4, x -> x.renew(0, 0, 0), 1, x -> x.amnesty(0, 14));
        Story ahead = house().tell(x -> x.amnesty(28, 28)).tell(x -> x.pass(7));
        ahead.due(later + " or sooner, the day before", 8, x -> x.ticketOf(0, 3));
        ahead.due(later + " or sooner", 28, x -> x.pass(1), 8, x -> x.ticketOf(0, 3));
        ahead.due(later + " or sooner, the next one", 42, x -> x.pass(15), 12, x -> x.ticketOf(0, 3));
    }

    private static void mostAmnesties() {
        Story some = house();
        for (int i = 0; i < 9; i++) {
            int n = i;
            some.tell(x -> x.amnesty(n + 1, n + 2));
        }
        String full = Document.says(9, "Throws `IllegalStateException` if there are 10");
        some.refused(full + " 9, with wrong days", Story.ARGUMENT, x -> x.amnesty(5, 4));
        some.due(full + " 9", 10, x -> x.amnesty(14, 14), 4, x -> x.ticketOf(0, 3));
        Story all = some.more().tell(x -> x.amnesty(1, 1));
        all.refused(full, Story.STATE, x -> x.amnesty(0, 5000));
        all.refused(full + " the arguments go first", Story.ARGUMENT, x -> x.amnesty(0, 5001));
    }
}
