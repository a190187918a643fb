public final class SmokeTest {
    public static void main(String[] args) {
        HarbourlightMonitor x = new HarbourlightMonitor();
        if (x.clock() != 0 || x.series(0, 0, 0) != 0) {
            System.exit(1);
        }
    }
}
