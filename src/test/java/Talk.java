/** A row of calls on a house, which notes what they answer. No row has more than 130 calls. */
interface Talk {
    void with(Cardhouse house, Transcript said);

    static Transcript of(Talk talk, Cardhouse house) {
        Transcript said = new Transcript();
        talk.with(house, said);
        return said;
    }
}
