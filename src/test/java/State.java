/** Objects brought to a standing by calls: a refused call must answer alike, and change nothing, in each. */
enum State {
    /** No PARTS, nothing else. */
    NEW,
    /** No PARTS, but a text, one TRIED and an image. */
    TYPED,
    /** Nine PARTS of all sorts; all that can be kept, tried, lodged, typed and undone is there, but not full. */
    STANDING,
    /** As STANDING, with 100 MARBLES, 200 bytes and 9 TRIED. */
    FULL;

    static final String HOUSE = "landing;landing;fork 0 1 3;cup 2 2;sieve 2 3;fork 4 3 2;landing;cup 6 4;fork 5 7 1;";
    private static final String NEXT_HOUSE = "landing;cup 0 2;";

    WallMarbles made() {
        WallMarbles x = new WallMarbles();
        switch (this) {
            case NEW -> { }
            case TYPED -> {
                x.tried(1, WallMarbles.NONE);
                x.keep(0);
                Check.typed(x, NEXT_HOUSE);
            }
            case STANDING -> {
                stand(x, 33, 3);
                Check.typed(x, NEXT_HOUSE);
            }
            default -> {
                stand(x, 100, 9);
                Check.typed(x, NEXT_HOUSE + " ".repeat(200 - NEXT_HOUSE.length()));
            }
        }
        return x;
    }

    private static void stand(WallMarbles x, int marbles, int tried) {
        Check.told(x, HOUSE);
        for (int i = 0; i < marbles; i++) {
            if (i == 4) {
                x.keep(0);
            }
            if (i == 25) {
                x.lodge(3);
                x.keep(1);
            }
            x.let(i % 3 == 0 ? 1 : 0);
        }
        x.lodge(7);
        for (int i = 0; i < tried; i++) {
            x.tried(i % 2, i % 2 == 0 ? 0 : WallMarbles.NONE);
        }
        x.mark(3, 2);
    }
}
