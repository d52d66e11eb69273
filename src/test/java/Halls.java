/** Texts that several tests tell. */
final class Halls {
    /** Three PLACES in a ring: the EXITS come round in three ACTS. */
    static final String RING = "hall rows 2 seats 3 law 3;"
        + "place 0 0 to 0 then 1;place 0 2 to 1 then 2;place 1 0 to 4 then 0;"
        + "exit 0 wide 1;exit 1 wide 2;"
        + "sits 0 1;sits 1 1;sits 1 2;";
    static final String BARE = "hall rows 1 seats 1 law 0;sits 0 0;";
    static final String PLACES_OF_NINE = "hall rows 3 seats 3 law 1;"
        + "place 0 0 to 0 then 1;place 0 1 to 0 then 2;place 0 2 to 0 then 3;"
        + "place 1 0 to 0 then 4;place 1 1 to 0 then 5;place 1 2 to 0 then 6;"
        + "place 2 0 to 0 then 7;place 2 1 to 0 then 8;place 2 2 to 0 then 0;";
    static final String EXITS_OF_SEVEN = "exit 0 wide 1;exit 1 wide 1;exit 2 wide 1;exit 3 wide 1;"
        + "exit 4 wide 1;exit 5 wide 1;exit 6 wide 1;";

    private Halls() {
    }
}
