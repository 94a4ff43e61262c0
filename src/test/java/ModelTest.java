import java.util.Random;
import java.util.function.LongSupplier;

/** Long made-up runs (the seeds are fixed), in which every call and all that can be asked is held against Model. */
public final class ModelTest {
    private static final int RUNS = 600;
    private static final int CALLS = 512;
    /** How many kinds of calls change something; deposit and withdraw are one here. */
    private static final int KINDS = 24;
    private static final int[] ODD = {-1, 3, 4, 10, 40, Integer.MAX_VALUE, Integer.MIN_VALUE};

    private final Random random;
    private final Pledgehouse x = new Pledgehouse();
    private final Model model = new Model();
    private int things = 0;
    private int tickets = 0;
    private final int[] refused = new int[KINDS];
    private final int[] answered = new int[KINDS];

    private ModelTest(long seed) {
        random = new Random(seed);
    }

    public static void main(String[] args) {
        int[] refused = new int[KINDS];
        int[] answered = new int[KINDS];
        for (int seed = 0; seed < RUNS; seed++) {
            ModelTest run = new ModelTest(seed);
            run.begin();
            for (int i = 0; i < CALLS; i++) {
                run.step("run " + seed + " call " + i);
                if (i % 16 == 0 || i == CALLS - 1) {
                    run.askAll("run " + seed + " behind call " + i);
                }
            }
            for (int i = 0; i < refused.length; i++) {
                refused[i] += run.refused[i];
                answered[i] += run.answered[i];
            }
        }
        for (int call = 0; call < KINDS; call++) {
            Checks.due("call " + call + " was answered often", answered[call] > 100 ? 1 : 0, 1);
            Checks.due("call " + call + " was refused often", refused[call] > 100 ? 1 : 0, 1);
        }
        Checks.end("ModelTest");
    }

    private static long answer(LongSupplier call) {
        try {
            return call.getAsLong();
        } catch (RuntimeException e) {
            Checks.thrownByProgram("a call", e);
            if (e.getClass() == IndexOutOfBoundsException.class) {
                return Model.INDEX;
            }
            if (e.getClass() == IllegalArgumentException.class) {
                return Model.ARGUMENT;
            }
            return e.getClass() == IllegalStateException.class ? Model.STATE : Long.MIN_VALUE;
        }
    }

    private long same(String what, LongSupplier program, LongSupplier want) {
        long due = want.getAsLong();
        Checks.due(what, answer(program), due);
        return due;
    }

    /** A number from least to most, now and then one beside them or an odd one. */
    private int some(int least, int most) {
        int dice = random.nextInt(60);
        if (dice == 0) {
            return ODD[random.nextInt(ODD.length)];
        }
        if (dice == 1) {
            return random.nextBoolean() ? least - 1 : most + 1;
        }
        if (dice < 6) {
            return random.nextBoolean() ? least : most;
        }
        return most < least ? least : least + random.nextInt(most - least + 1);
    }

    private void begin() {
        int deposit = 1000 + random.nextInt(99000);
        same("deposit", () -> x.deposit(deposit), () -> model.deposit(deposit));
        int share = 50 + random.nextInt(41);
        int cap = 1000 + random.nextInt(30000);
        same("charter", () -> { x.charter(0, share, cap); return 0; }, () -> model.charter(0, share, cap));
    }

    private void step(String at) {
        int[] often = {0, 0, 0, 1, 2, 3, 4, 5, 6, 7, 8, 8, 8, 8, 9, 9, 10, 10, 10, 11, 11, 12, 12, 13, 13, 14, 14, 15,
            15, 16, 16, 17, 17, 18, 18, 19, 20, 20, 20, 20, 20, 21, 21, 21, 21, 22, 22, 23};
        int call = often[random.nextInt(often.length)];
        long due = call < 8 ? rule(at, call) : call < 16 ? ticket(at, call) : storeOrMoney(at, call);
        boolean isRefused = due == Model.INDEX || due == Model.ARGUMENT || due == Model.STATE;
        (isRefused ? refused : answered)[call]++;
        if (call == 0 && !isRefused) {
            things++;
        }
        if (call == 8 && !isRefused) {
            tickets++;
        }
    }

    private long rule(String at, int call) {
        int kind = some(0, 3);
        int step = some(0, 2);
        switch (call) {
            case 0: {
                int weight = some(1, 50);
                int worth = some(10, random.nextBoolean() ? 400 : 10000);
                return same(at + " thing", () -> x.thing(kind, weight, worth), () -> model.thing(kind, weight, worth));
            }
            case 1: {
                int hundredths = some(0, 200);
                return same(at + " fashion", () -> x.fashion(kind, hundredths), () -> model.fashion(kind, hundredths));
            }
            case 2: {
                int hundredths = some(-20, 20);
                return same(at + " bias", () -> x.bias(kind, hundredths), () -> model.bias(kind, hundredths));
            }
            case 3: {
                int who = some(0, 9);
                return same(at + " classOf", () -> x.classOf(who, step), () -> model.classOf(who, step));
            }
            case 4: {
                int share = some(10, 90);
                int cap = some(0, random.nextBoolean() ? 2000 : 100000);
                return same(at + " charter", () -> { x.charter(step, share, cap); return 0; },
                        () -> model.charter(step, share, cap));
            }
            case 5: {
                int thousandths = some(0, 100);
                return same(at + " rate", () -> x.rate(step, thousandths), () -> model.rate(step, thousandths));
            }
            case 6: {
                int days = some(14, random.nextInt(4) == 0 ? 1000 : 60);
                return same(at + " term", () -> x.term(days), () -> model.term(days));
            }
            default: {
                int from = some(0, 5000);
                int to = random.nextInt(5) == 0 ? some(0, 5000) : Math.min(5000, from + random.nextInt(60));
                return same(at + " amnesty", () -> x.amnesty(from, to), () -> model.amnesty(from, to));
            }
        }
    }

    private int holder(int ticket) {
        boolean isRight = random.nextInt(4) != 0 && ticket >= 0 && ticket < tickets;
        return isRight ? (int) model.ticketOf(ticket, 4) : some(0, 9);
    }

    private long ticket(String at, int call) {
        int ticket = some(0, tickets - 1);
        int thing = some(0, things - 1);
        int who = holder(ticket);
        boolean flag = random.nextInt(3) == 0;
        switch (call) {
            case 8: {
                int pledger = some(0, 9);
                int expert = some(0, 3);
                int branch = some(0, 2);
                int value = thing >= 0 && thing < things ? (int) model.thingOf(thing, 1) : 100;
                int loan = some(1, random.nextBoolean() ? Math.max(1, value * 6 / 10) : 60);
                return same(at + " pledge", () -> x.pledge(pledger, thing, expert, branch, loan, flag),
                        () -> model.pledge(pledger, thing, expert, branch, loan, flag));
            }
            case 9:
                return same(at + " redeem", () -> x.redeem(ticket, who), () -> model.redeem(ticket, who));
            case 10: {
                int loan = ticket >= 0 && ticket < tickets ? (int) model.ticketOf(ticket, 2) : 10;
                int less = some(0, random.nextBoolean() ? loan - 1 : 0);
                return same(at + " renew", () -> x.renew(ticket, who, less), () -> model.renew(ticket, who, less));
            }
            case 11:
                return same(at + " give", () -> x.give(ticket, who), () -> model.give(ticket, who));
            case 12: {
                int teller = some(0, 9);
                return same(at + " notice", () -> { x.notice(ticket, teller); return 0; },
                        () -> model.notice(ticket, teller));
            }
            case 13:
                return same(at + " show", () -> x.show(ticket), () -> model.show(ticket));
            case 14:
                return same(at + " police", () -> x.police(thing), () -> model.police(thing));
            default:
                return same(at + " court", () -> x.court(thing, flag), () -> model.court(thing, flag));
        }
    }

    private long storeOrMoney(String at, int call) {
        int ticket = some(0, tickets - 1);
        int thing = some(0, things - 1);
        int branch = some(0, 2);
        int who = holder(ticket);
        switch (call) {
            case 16: {
                int shelf = some(0, 3);
                return same(at + " stray", () -> { x.stray(thing, branch, shelf); return 0; },
                        () -> model.stray(thing, branch, shelf));
            }
            case 17:
                return same(at + " count", () -> x.count(branch), () -> model.count(branch));
            case 18:
                return same(at + " transfer", () -> x.transfer(thing, branch), () -> model.transfer(thing, branch));
            case 19:
                return same(at + " wind", () -> x.wind(branch), () -> model.wind(branch));
            case 20: {
                int days = some(1, random.nextInt(12) == 0 ? 400 : random.nextInt(3) == 0 ? 60 : 14);
                return same(at + " pass", () -> x.pass(days), () -> model.pass(days));
            }
            case 21: {
                int loan = ticket >= 0 && ticket < tickets ? (int) model.ticketOf(ticket, 2) : 10;
                int price = some(0, random.nextInt(10) == 0 ? 100000 : loan * 3);
                return same(at + " offer", () -> x.offer(ticket, price), () -> model.offer(ticket, price));
            }
            case 22:
                return same(at + " claim", () -> x.claim(ticket, who), () -> model.claim(ticket, who));
            default: {
                int amount = some(1, random.nextBoolean() ? 2000 : 100000);
                if (random.nextBoolean()) {
                    return same(at + " deposit", () -> x.deposit(amount), () -> model.deposit(amount));
                }
                return same(at + " withdraw", () -> x.withdraw(amount), () -> model.withdraw(amount));
            }
        }
    }

    private void askAll(String at) {
        same(at + " day", x::day, model::day);
        same(at + " moneyAnew", x::moneyAnew, model::moneyAnew);
        for (int what = -1; what <= 10; what++) {
            int w = what;
            same(at + " money " + w, () -> x.money(w), () -> model.money(w));
            for (int i = -1; i <= things; i++) {
                int thing = i;
                same(at + " thingOf " + i + " " + w, () -> x.thingOf(thing, w), () -> model.thingOf(thing, w));
            }
            for (int i = -1; i <= tickets; i++) {
                int ticket = i;
                same(at + " ticketOf " + i + " " + w, () -> x.ticketOf(ticket, w), () -> model.ticketOf(ticket, w));
                same(at + " interestAnew " + i, () -> x.interestAnew(ticket), () -> model.interestAnew(ticket));
            }
            for (int i = -1; i <= 4; i++) {
                int number = i;
                same(at + " expertOf " + i + " " + w, () -> x.expertOf(number, w), () -> model.expertOf(number, w));
                same(at + " bears " + i + " " + w, () -> x.bears(number, w), () -> model.bears(number, w));
            }
        }
    }
}
