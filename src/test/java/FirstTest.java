public final class FirstTest {
    public static void main(String[] args) {
        ThinLine x = new ThinLine();
        int row = Due.made(x, 0, 0, "shine 1000 - 100 if colour >= 140 and colour <= 159; shine 1000", 1);
        int c = Due.curve(x, "wide 3");
        Due.due("deep", x.deep(c, row, 0), 100);
        Due.due("score", x.deep(c, row, 2), 100000);
        Due.end();
    }
}
