/** What a cellar tells, as a text. */
final class View {
    private final BreweryCellar cellar;
    private final StringBuilder text = new StringBuilder();

    private View(BreweryCellar cellar) {
        this.cellar = cellar;
    }

    /** All that the cellar tells, but for the entries before a number; that takes less than 400 calls. */
    static String of(BreweryCellar cellar, int firstEntry) {
        View view = new View(cellar);
        view.counts();
        view.tanks();
        view.batches();
        view.orders();
        view.entries(firstEntry);
        view.sums();
        return view.text.toString();
    }

    private void line(String name, long... numbers) {
        text.append(name).append(':');
        for (long number : numbers) {
            text.append(' ').append(number);
        }
        text.append('\n');
    }

    private void counts() {
        line("day, batches, orders, rates, bytes, changes, loss", cellar.count(0), cellar.count(1), cellar.count(2),
                cellar.count(3), cellar.count(4), cellar.count(5), cellar.count(6));
        line("clean, in use, dirty, being cleaned", cellar.count(10), cellar.count(11), cellar.count(12),
                cellar.count(13));
        line("reason", cellar.reason());
    }

    private void tanks() {
        int batches = cellar.count(1);
        for (int tank = 0; tank < 6; tank++) {
            long[] numbers = new long[7 + batches];
            for (int what = 0; what < 7; what++) {
                numbers[what] = cellar.ofTank(tank, what);
            }
            for (int batch = 0; batch < batches; batch++) {
                numbers[7 + batch] = cellar.litres(tank, batch);
            }
            line("tank " + tank, numbers);
        }
    }

    private void batches() {
        int batches = cellar.count(1);
        for (int batch = 0; batch < batches; batch++) {
            long[] numbers = new long[7];
            for (int what = 0; what < 7; what++) {
                numbers[what] = cellar.ofBatch(batch, what);
            }
            line("batch " + batch, numbers);
        }
    }

    private void orders() {
        int orders = cellar.count(2);
        for (int order = 0; order < orders; order++) {
            long[] numbers = new long[7];
            for (int what = 0; what < 7; what++) {
                numbers[what] = cellar.ofOrder(order, what);
            }
            line("order " + order, numbers);
        }
        long[] planned = new long[orders];
        for (int i = 0; i < orders; i++) {
            planned[i] = cellar.planned(i);
        }
        line("planned", planned);
    }

    private void entries(int first) {
        int entries = cellar.entry(-1, 0);
        line("entries", entries);
        for (int i = first; i < entries; i++) {
            line("entry " + i, cellar.entry(i, 0), cellar.entry(i, 1), cellar.entry(i, 2), cellar.entry(i, 3));
        }
    }

    private void sums() {
        line("excise", cellar.excise(0), cellar.excise(1), cellar.excise(2), cellar.excise(3));
        long[] accounts = new long[13];
        for (int what = 0; what < accounts.length; what++) {
            accounts[what] = cellar.account(what);
        }
        line("accounts", accounts);
    }
}
