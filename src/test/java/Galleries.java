/** Texts that several tests use. */
final class Galleries {
    /** Turns 0, 2, 4, 1, 3 and round again; the round of wat: 0, 1, 2, 1. */
    static final String FIVE = "gallery figures 5 span 4 stairs 4 shut 50;law times 1 plus 2 first 0;"
        + "figure ann is 2 walks 2;figure bob is 4 speaks 3;figure cyd is 1 walks 1;"
        + "watcher wat from 0 to 2;watcher zed from 3 to 3;seen 2 at 5;seen 4 at 8";

    /** Figure 0 is caught in minute 0, comes to 1 in minute 1 and is gone in minute 6. */
    static final String THREE = "gallery figures 3 span 2 stairs 2 shut 0;law times 1 plus 1 first 0;"
        + "figure a is 0 walks 1;watcher w from 1 to 2";

    /** 2, then 3 for ever. */
    static final String SETTLING = "gallery figures 4 span 1 stairs 0 shut 100;law times 0 plus 3 first 2";

    /** Always figure 3, who says 1, 2, nothing; the watcher is at 0, 1, 2, 3, 2, 1 and round again. */
    static final String SPEAKER = "gallery figures 4 span 3 stairs 0 shut 0;law times 1 plus 0 first 3;"
        + "figure s is 3 speaks 2;watcher w from 0 to 3";

    private Galleries() {
    }
}
