/** The kinds of nodes, by the names that the document gives them. */
interface Kinds {
    int PARAGRAPH = 0;
    int HEADING = 1;
    int RULE = 2;
    int CODE = 3;
    int QUOTE = 4;
    int ROW = 5;
    int NUMBERED = 6;
    int ITEM = 7;
    int GROUP = 8;
    int BREAK = 9;
}
