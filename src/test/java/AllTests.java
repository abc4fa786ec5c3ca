/** Runs every test of the project; ends with exit code 1 if one fails. */
public final class AllTests {
    public static void main(String[] args) {
        Check check = new Check();
        FaceTests.run(check);
        CueTests.run(check);
        PlayingTests.run(check);
        GroupTests.run(check);
        EffectTests.run(check);
        LevelTests.run(check);
        MacroTests.run(check);
        ModelTests.run(check);
        CueEdges.run(check);
        PlayingEdges.run(check);
        GroupEdges.run(check);
        EffectEdges.run(check);
        LevelEdges.run(check);
        MacroEdges.run(check);
        ObjectEdges.run(check);
        ReadmeTests.run(check);
        if (!check.tell()) {
            System.exit(1);
        }
    }
}
