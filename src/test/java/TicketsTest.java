/** Promises 10 to 17: tickets. */
public final class TicketsTest {
    public static void main(String[] args) {
        promise10Pledge();
        promise10Limits();
        promise10Loan();
        promise10Tickets();
        promise11Redeem();
        promise12Renew();
        promise13Give();
        promise14Notice();
        promise14NoticeOfOthers();
        promise15Show();
        promise16Police();
        promise17Court();
        Checks.end("TicketsTest");
    }

    /** A house with money and three rings, of which the first is pledged for 400 by the person 4. */
    private static Pledgehouse house() {
        Pledgehouse x = new Pledgehouse();
        x.deposit(5000);
        for (int i = 0; i < 3; i++) {
            x.thing(Pledgehouse.RING, 5, 1000);
        }
        x.pledge(4, 0, 2, 0, 400, false);
        return x;
    }

    private static void promise10Pledge() {
        Pledgehouse x = house();
        Checks.due("10: OPEN", x.ticketOf(0, 0), Pledgehouse.OPEN);
        Checks.due("10: its thing", x.ticketOf(0, 1), 0);
        Checks.due("10: its loan", x.ticketOf(0, 2), 400);
        Checks.due("10: no interest", x.ticketOf(0, 3), 0);
        Checks.due("10: its holder", x.ticketOf(0, 4), 4);
        Checks.due("10: money", x.money(0), 4600);
        Checks.due("10: stored", x.thingOf(0, 3), Pledgehouse.STORED);
        Checks.due("10: its place", x.thingOf(0, 4), 1);
        Checks.due("10: its ticket", x.thingOf(0, 5), 0);
        x.pass(7);
        Checks.due("10: next", x.pledge(3, 2, 2, 2, 1, false), 1);
        Checks.due("10: its thing", x.ticketOf(1, 1), 2);
        Checks.due("10: it began", x.ticketOf(1, 5), 7);
        Checks.due("10: its last day", x.ticketOf(1, 6), 127);
        Checks.due("10: its place", x.thingOf(2, 4), 9);
    }

    private static void promise10Limits() {
        Pledgehouse x = house();
        Checks.noIndex("10: person -1", () -> x.pledge(-1, 1, 0, 0, 1, true));
        Checks.noIndex("10: person 10", () -> x.pledge(10, 1, 0, 0, 1, true));
        Checks.noIndex("10: thing -1", () -> x.pledge(0, -1, 0, 0, 1, true));
        Checks.noIndex("10: thing 3", () -> x.pledge(0, 3, 0, 0, 1, true));
        Checks.noIndex("10: expert -1", () -> x.pledge(0, 1, -1, 0, 1, true));
        Checks.noIndex("10: expert 4", () -> x.pledge(0, 1, 4, 0, 1, true));
        Checks.noIndex("10: branch -1", () -> x.pledge(0, 1, 0, -1, 1, true));
        Checks.noIndex("10: branch 3 goes first", () -> x.pledge(0, 1, 0, 3, 0, true));
        Checks.noArgument("10: loan 0", () -> x.pledge(0, 1, 0, 0, 0, true));
        Checks.noArgument("10: loan 100001", () -> x.pledge(0, 1, 0, 0, 100001, true));
        Checks.noState("10: loan 100000", () -> x.pledge(0, 1, 0, 0, 100000, true));
        Checks.noArgument("10: argument ahead of state", () -> x.pledge(0, 0, 0, 0, 0, true));
        Checks.noState("10: not OUT", () -> x.pledge(4, 0, 0, 0, 1, true));
        x.police(1);
        Checks.noState("10: listed", () -> x.pledge(0, 1, 0, 0, 1, true));
        x.court(1, false);
        Checks.due("10: listed no more", x.pledge(0, 1, 0, 0, 1, true), 1);
        Checks.due("10: refusals change nothing", x.money(0), 4599);
    }

    private static void promise10Loan() {
        Pledgehouse x = house();
        Checks.noState("10: above the share", () -> x.pledge(4, 1, 0, 0, 501, true));
        Checks.due("10: the share", x.pledge(4, 1, 0, 0, 500, false), 1);
        Checks.noState("10: above the cap", () -> x.pledge(4, 2, 0, 0, 101, true));
        x.give(1, 6);
        Checks.noState("10: the cap is of who pledged", () -> x.pledge(4, 2, 0, 0, 101, true));
        x.renew(0, 4, 50);
        Checks.noState("10: loans of now", () -> x.pledge(4, 2, 0, 0, 151, true));
        x.withdraw(4000);
        Checks.due("10: what is free", x.money(2), 150);
        x.withdraw(1);
        Checks.noState("10: above what is free", () -> x.pledge(4, 2, 0, 0, 150, true));
        x.deposit(1);
        Checks.due("10: all that is free", x.pledge(4, 2, 0, 0, 150, true), 2);
        Checks.due("10: nothing is free", x.money(2), 0);
        x.redeem(1, 6);
        Checks.due("10: only OPEN ones count", x.pledge(4, 1, 0, 0, 500, true), 3);
    }

    private static void promise10Tickets() {
        Pledgehouse x = new Pledgehouse();
        x.deposit(1000);
        for (int i = 0; i < 6; i++) {
            x.thing(Pledgehouse.FUR, 50, 100);
        }
        for (int i = 0; i < 4; i++) {
            Checks.due("10: furs", x.pledge(0, i, 0, 1, 1, true), i);
            Checks.due("10: fur's place", x.thingOf(i, 4), 4 + i);
        }
        Checks.noState("10: no shelf bears it", () -> x.pledge(0, 4, 0, 1, 1, true));
        Checks.due("10: OUT still", x.thingOf(4, 3), Pledgehouse.OUT);
        for (int i = 4; i < 40; i++) {
            Checks.due("10: many", x.pledge(0, 5, 0, 2, 1, true), i);
            x.redeem(i, 0);
        }
        Checks.noState("10: the 41st", () -> x.pledge(0, 5, 0, 2, 1, true));
        Checks.due("10: the 40th", x.ticketOf(39, 0), Pledgehouse.REDEEMED);
    }

    private static void promise11Redeem() {
        Pledgehouse x = house();
        Checks.noIndex("11: ticket -1", () -> x.redeem(-1, 4));
        Checks.noIndex("11: ticket 1", () -> x.redeem(1, 4));
        Checks.noIndex("11: person -1", () -> x.redeem(0, -1));
        Checks.noIndex("11: person 10", () -> x.redeem(0, 10));
        x.pass(14);
        Checks.noState("11: who does not hold it", () -> x.redeem(0, 5));
        x.notice(0, 5);
        Checks.noState("11: barred by a notice", () -> x.redeem(0, 4));
        Checks.noState("11: who told the notice", () -> x.redeem(0, 5));
        x.show(0);
        x.police(0);
        Checks.noState("11: barred by a list", () -> x.redeem(0, 4));
        x.court(0, false);
        x.stray(0, 0, 2);
        Checks.noState("11: cannot be found", () -> x.redeem(0, 4));
        x.stray(0, 1, 1);
        Checks.noState("11: in another branch", () -> x.redeem(0, 4));
        x.stray(0, 0, 1);
        Checks.due("11: paid", x.redeem(0, 4), 408);
        Checks.due("11: REDEEMED", x.ticketOf(0, 0), Pledgehouse.REDEEMED);
        Checks.due("11: OUT", x.thingOf(0, 3), Pledgehouse.OUT);
        Checks.due("11: no place", x.thingOf(0, 4), Pledgehouse.NONE);
        Checks.due("11: no ticket", x.thingOf(0, 5), Pledgehouse.NONE);
        Checks.due("11: its shelf", x.bears(0, 1), 60);
        Checks.due("11: money", x.money(0), 5008);
        Checks.noState("11: again", () -> x.redeem(0, 4));
        Checks.due("11: pledged anew", x.pledge(7, 0, 0, 0, 400, true), 1);
        Checks.noState("11: the old ticket", () -> x.redeem(0, 4));
        Checks.due("11: on the day", x.redeem(1, 7), 400);
        x.pledge(7, 0, 0, 0, 400, true);
        x.pass(200);
        Checks.due("11: overdue", x.redeem(2, 7), 400 + 6 * 4 + 9 * 6);
    }

    private static void promise12Renew() {
        Pledgehouse x = house();
        Checks.noIndex("12: ticket 1", () -> x.renew(1, 4, 0));
        Checks.noIndex("12: ticket -1 goes first", () -> x.renew(-1, 4, -1));
        Checks.noIndex("12: person 10", () -> x.renew(0, 10, 0));
        Checks.noIndex("12: person -1", () -> x.renew(0, -1, 0));
        Checks.noArgument("12: less -1", () -> x.renew(0, 4, -1));
        Checks.noArgument("12: the whole loan", () -> x.renew(0, 4, 400));
        Checks.noArgument("12: argument ahead of state", () -> x.renew(0, 5, 400));
        Checks.noState("12: who does not hold it", () -> x.renew(0, 5, 0));
        x.pass(130);
        x.notice(0, 5);
        Checks.noState("12: barred by a notice", () -> x.renew(0, 4, 0));
        x.show(0);
        x.police(0);
        Checks.noState("12: barred by a list", () -> x.renew(0, 4, 0));
        x.court(0, false);
        x.stray(0, 2, 2);
        x.term(20);
        Checks.due("12: also not found, overdue", x.renew(0, 4, 399), 6 * 4 + 4 * 6 + 399);
        Checks.due("12: its loan", x.ticketOf(0, 2), 1);
        Checks.due("12: it began", x.ticketOf(0, 5), 130);
        Checks.due("12: its last day", x.ticketOf(0, 6), 150);
        Checks.due("12: OPEN", x.ticketOf(0, 0), Pledgehouse.OPEN);
        Checks.due("12: money", x.money(0), 4600 + 447);
        x.pass(3);
        Checks.due("12: free days again", x.ticketOf(0, 3), 0);
        x.pass(1);
        Checks.due("12: the first fortnight again", x.ticketOf(0, 3), 1);
        Checks.noArgument("12: the loan of now", () -> x.renew(0, 4, 1));
        Checks.due("12: nothing less", x.renew(0, 4, 0), 1);
        x.stray(0, 0, 1);
        x.redeem(0, 4);
        Checks.noState("12: not OPEN", () -> x.renew(0, 4, 0));
        Checks.noArgument("12: not OPEN, argument first", () -> x.renew(0, 4, 1));
    }

    private static void promise13Give() {
        Pledgehouse x = house();
        x.pledge(5, 1, 0, 0, 10, true);
        Checks.noIndex("13: ticket -1", () -> x.give(-1, 0));
        Checks.noIndex("13: ticket 2", () -> x.give(2, 0));
        Checks.noIndex("13: person -1", () -> x.give(0, -1));
        Checks.noIndex("13: person 10", () -> x.give(0, 10));
        Checks.noState("13: named", () -> x.give(1, 6));
        Checks.due("13: a named one's holder", x.ticketOf(1, 4), 5);
        Checks.due("13: who held it", x.give(0, 6), 4);
        Checks.due("13: who holds it", x.ticketOf(0, 4), 6);
        Checks.due("13: to himself", x.give(0, 6), 6);
        x.notice(0, 1);
        Checks.due("13: also barred", x.give(0, 7), 6);
        x.show(0);
        x.pass(121);
        x.offer(0, 900);
        Checks.due("13: SOLD", x.give(0, 8), 7);
        Checks.due("13: claims what is kept", x.claim(0, 8), 900 - 45 - 400 - 42);
        Checks.due("13: SOLD, without surplus", x.give(0, 9), 8);
        x.pledge(4, 2, 0, 0, 10, false);
        x.redeem(2, 4);
        Checks.noState("13: REDEEMED", () -> x.give(2, 5));
        x.pledge(4, 2, 0, 0, 10, false);
        x.police(2);
        Checks.due("13: listed", x.give(3, 5), 4);
        x.court(2, true);
        Checks.noState("13: SEIZED", () -> x.give(3, 5));
    }

    private static void promise14Notice() {
        Pledgehouse x = house();
        Checks.noIndex("14: ticket -1", () -> x.notice(-1, 0));
        Checks.noIndex("14: ticket 1", () -> x.notice(1, 0));
        Checks.noIndex("14: person -1", () -> x.notice(0, -1));
        Checks.noIndex("14: person 10", () -> x.notice(0, 10));
        x.pass(5);
        x.notice(0, 0);
        Checks.noState("14: there already", () -> x.notice(0, 1));
        Checks.due("14: barred", x.ticketOf(0, 8), 1);
        Checks.due("14: held still", x.ticketOf(0, 4), 4);
        x.pass(27);
        Checks.due("14: until then", x.ticketOf(0, 8), 1);
        x.give(0, 8);
        x.pass(1);
        Checks.due("14: ended", x.ticketOf(0, 8), 0);
        Checks.due("14: who told it", x.ticketOf(0, 4), 0);
        Checks.noState("14: nothing to show", () -> x.show(0));
        x.notice(0, 0);
        x.pass(40);
        Checks.due("14: the holder's own", x.ticketOf(0, 4), 0);
        Checks.due("14: the holder redeems", x.redeem(0, 0), 400 + 6 * 4);
        Checks.noState("14: REDEEMED", () -> x.notice(0, 1));
    }

    /** Of tickets that are named, SOLD or SEIZED. */
    private static void promise14NoticeOfOthers() {
        Pledgehouse x = house();
        x.pledge(5, 1, 0, 0, 100, true);
        x.notice(1, 2);
        x.police(1);
        x.court(1, true);
        Checks.due("14: SEIZED keeps the notice", x.ticketOf(1, 8), 1);
        Checks.noState("14: SEIZED with a notice", () -> x.notice(1, 3));
        x.pass(28);
        Checks.due("14: SEIZED is held", x.ticketOf(1, 4), 2);
        Checks.noState("14: SEIZED", () -> x.notice(1, 3));
        x.pass(100);
        x.offer(0, 900);
        x.notice(0, 9);
        Checks.due("14: SOLD", x.ticketOf(0, 8), 1);
        Checks.noState("14: bars a claim", () -> x.claim(0, 4));
        x.pass(28);
        Checks.noState("14: SOLD, held no more", () -> x.claim(0, 4));
        Checks.due("14: SOLD, who told it", x.claim(0, 9), 900 - 45 - 400 - 48);
    }

    private static void promise15Show() {
        Pledgehouse x = house();
        Checks.noIndex("15: ticket -1", () -> x.show(-1));
        Checks.noIndex("15: ticket 1", () -> x.show(1));
        Checks.noState("15: no notice", () -> x.show(0));
        x.notice(0, 7);
        x.pass(27);
        Checks.due("15: who told it", x.show(0), 7);
        Checks.due("15: barred no more", x.ticketOf(0, 8), 0);
        Checks.noState("15: again", () -> x.show(0));
        x.pass(1);
        Checks.due("15: held still", x.ticketOf(0, 4), 4);
        x.notice(0, 0);
        x.pass(27);
        Checks.due("15: a new notice has its own days", x.ticketOf(0, 8), 1);
        x.police(0);
        Checks.due("15: by a list too", x.ticketOf(0, 8), 3);
        Checks.due("15: the person 0", x.show(0), 0);
        Checks.due("15: the list bars", x.ticketOf(0, 8), 2);
        x.notice(0, 3);
        x.court(0, true);
        Checks.due("15: SEIZED", x.show(0), 3);
    }

    private static void promise16Police() {
        Pledgehouse x = house();
        Checks.noIndex("16: thing -1", () -> x.police(-1));
        Checks.noIndex("16: thing 3", () -> x.police(3));
        Checks.due("16: OUT", x.police(1), Pledgehouse.NONE);
        Checks.due("16: listed", x.thingOf(1, 6), 1);
        Checks.noState("16: again", () -> x.police(1));
        Checks.due("16: its ticket", x.police(0), 0);
        Checks.due("16: barred", x.ticketOf(0, 8), 2);
        Checks.noState("16: not redeemed", () -> x.redeem(0, 4));
        x.pass(400);
        Checks.due("16: until a court decides", x.thingOf(0, 6), 1);
        Checks.noState("16: not offered", () -> x.offer(0, 1000));
        x.court(0, false);
        x.redeem(0, 4);
        Checks.due("16: REDEEMED", x.police(0), Pledgehouse.NONE);
        Checks.due("16: only an OPEN one is barred", x.ticketOf(0, 8), 0);
        x.pledge(4, 2, 0, 0, 10, false);
        x.notice(1, 3);
        Checks.due("16: barred by a notice too", x.police(2), 1);
        Checks.due("16: barred by both", x.ticketOf(1, 8), 3);
    }

    private static void promise17Court() {
        Pledgehouse x = house();
        Checks.noIndex("17: thing -1", () -> x.court(-1, true));
        Checks.noIndex("17: thing 3", () -> x.court(3, false));
        Checks.noState("17: not listed", () -> x.court(0, true));
        x.police(0);
        Checks.due("17: against the owner", x.court(0, false), Pledgehouse.NONE);
        Checks.due("17: OPEN still", x.ticketOf(0, 0), Pledgehouse.OPEN);
        Checks.due("17: nothing charged", x.expertOf(2, 1), 0);
        Checks.due("17: listed no more", x.thingOf(0, 6), 0);
        x.renew(0, 4, 150);
        x.pass(30);
        x.police(0);
        x.stray(0, 1, 3);
        Checks.due("17: for the owner", x.court(0, true), 0);
        Checks.due("17: SEIZED", x.ticketOf(0, 0), Pledgehouse.SEIZED);
        Checks.due("17: no interest", x.ticketOf(0, 3), 0);
        Checks.due("17: no interest anew", x.interestAnew(0), 0);
        Checks.due("17: OUT", x.thingOf(0, 3), Pledgehouse.OUT);
        Checks.due("17: its ticket", x.thingOf(0, 5), Pledgehouse.NONE);
        Checks.due("17: its shelf", x.bears(1, 3), 60);
        Checks.due("17: the loan is charged", x.expertOf(2, 1), 250);
        Checks.due("17: no judgement", x.expertOf(2, 2), 0);
        Checks.due("17: money stays", x.money(0), 4750);
        Checks.noState("17: again", () -> x.court(0, true));
        x.police(1);
        Checks.due("17: OUT, for the owner", x.court(1, true), Pledgehouse.NONE);
        Checks.due("17: pledged anew", x.pledge(4, 0, 0, 0, 500, true), 1);
    }
}
