/** Promise 24: the hash is put together from the other answers, as the document lists them. */
public final class DigestTest {
    private static long hash;

    public static void main(String[] args) {
        LedgeLeaps x = new LedgeLeaps();
        due(x, new boolean[2], "");
        Check.type(x, "b5,");
        due(x, new boolean[2], "b5,");
        Check.type(x, "5;l+0");
        x.keep(1);
        due(x, new boolean[] {false, true}, "b5,5;l+0");
        x.run();
        due(x, new boolean[] {false, true}, "");
        x.keep(0);
        x.set(1, 5);
        x.build(6, 0);
        due(x, new boolean[] {true, true}, "");
        LedgeLeaps y = LooksTest.twoHighLedges();
        y.put(2, 5);
        due(y, new boolean[2], "");
        y.put(2, 0);
        due(y, new boolean[2], "");
        // shares with 3, 7 and more below the line
        for (int column = 7; column < 13; column++) {
            y.build(column, 8);
            y.build(column, 6 - column % 2);
            due(y, new boolean[2], "");
        }
        changesWithEach();
        Check.end();
    }

    private static void add(long value) {
        hash = 31 * hash + value;
    }

    private static void due(LedgeLeaps x, boolean[] kept, String buffer) {
        hash = 3511;
        for (int what = 0; what <= 9; what++) {
            add(x.count(what));
        }
        for (int setting = 0; setting <= 2; setting++) {
            add(x.setting(setting));
        }
        for (int cell = 0; cell < 200; cell++) {
            for (int what = 0; what <= 2; what++) {
                add(x.cellOf(cell % 20, cell / 20, what));
            }
        }
        for (int ledge = 0; ledge < x.count(1); ledge++) {
            for (int what = 0; what <= 5; what++) {
                add(x.ledgeOf(ledge, what));
            }
            add(x.fewest(x.count(4), ledge, 3, 0));
            add(x.fewest(x.count(4), ledge, 3, 1));
        }
        for (int side = 1; side >= -1; side -= 2) {
            for (int i = 0; i < 10; i++) {
                add(x.ifLeapt(x.count(2), x.count(3), side, i / 5, i % 5));
            }
        }
        add(x.arc(5, 0));
        add(x.arc(5, 1));
        for (int rank = 0; rank <= 2; rank++) {
            add(x.onlyRunning(rank));
        }
        add(Double.doubleToLongBits(x.reachShare()));
        add(kept[0] ? 1 : 0);
        add(kept[1] ? 1 : 0);
        add(buffer.length());
        for (int i = 0; i < buffer.length(); i++) {
            add(buffer.charAt(i));
        }
        Check.due("digest()", x.digest(), hash);
        Check.due("digest() again", x.digest(), hash);
    }

    private static void changesWithEach() {
        LedgeLeaps x = new LedgeLeaps();
        long before = x.digest();
        x.walk(1);
        x.undo();
        Check.due("digest() behind undo", x.digest(), before);
        x.append('!');
        Check.due("digest() is another one", x.digest() == before ? 1 : 0, 0);
        x.clearBuffer();
        Check.due("digest() behind clearBuffer", x.digest(), before);
        x.keep(0);
        Check.due("digest() is another one", x.digest() == before ? 1 : 0, 0);
    }
}
