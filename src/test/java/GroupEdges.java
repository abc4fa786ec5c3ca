import java.util.NoSuchElementException;

/** Promises 16 to 21 and what "Terms" says of groups and sources: a test for each sentence with a boundary case. */
final class GroupEdges {
    private static final Class<IllegalArgumentException> WRONG = IllegalArgumentException.class;
    private static final Class<IllegalStateException> FULL = IllegalStateException.class;
    private static final Class<NoSuchElementException> NONE = NoSuchElementException.class;
    private static final Class<IndexOutOfBoundsException> INDEX = IndexOutOfBoundsException.class;

    static void run(Check check) {
        fiveGroups(check);
        noMembersAtFirst(check);
        faderAtFirst(check);
        membersOfEachGroup(check);
        memberTwice(check);
        setMemberRefused(check);
        setMemberMovesNothing(check);
        faderLevels(check);
        faderNoGroup(check);
        faderWrongLevel(check);
        orderOfSetFader(check);
        movedToItsLevel(check);
        eachOfItsMembers(check);
        highestAtFirst(check);
        setLatestAnswers(check);
        setLatestRefused(check);
        noSourceYet(check);
        sourceNoChannel(check);
        sourceNotAMember(check);
        sourceInBothModes(check);
        greatestOfAll(check);
        latestOfGroup(check);
        latestWithoutSource(check);
        latestNotAMember(check);
        baseNoChannel(check);
    }

    private static void fiveGroups(Check check) {
        check.about(16, "Throws IllegalStateException if there are 5 groups");
        StageConsole x = new StageConsole();
        for (int i = 0; i < 5; i++) {
            int group = i;
            check.fails("not there yet", INDEX, () -> x.setFader(group, 0));
            check.is("group " + group, group, () -> x.addGroup());
            check.is("it is there", 0, () -> x.setFader(group, 255));
        }
        check.fails("a sixth", FULL, () -> x.addGroup());
        check.fails("once more", FULL, () -> x.addGroup());
        Twins.refuse(check, "a sixth", FULL, Stages::full, y -> y.addGroup());
    }

    private static void noMembersAtFirst(Check check) {
        check.about(16, "each has channels as its members, initially none");
        StageConsole x = new StageConsole();
        for (int i = 0; i < 60; i++) {
            int group = i / 12;
            int channel = i % 12;
            if (channel == 0) {
                x.addGroup();
            }
            check.is("group " + group + ", channel " + channel, false, () -> x.setMember(group, channel, true));
        }
    }

    private static void faderAtFirst(Check check) {
        check.about(16, "and a fader with a level, initially 0");
        StageConsole x = new StageConsole();
        for (int i = 0; i < 5; i++) {
            int group = i;
            x.addGroup();
            x.setMember(group, group, true);
            check.is("base level of a member of " + group, 0, () -> x.baseLevel(group));
            check.is("setFader of " + group, 0, () -> x.setFader(group, 200));
        }
    }

    private static void membersOfEachGroup(Check check) {
        check.about(17, "Sets whether a channel is a member of a group");
        StageConsole x = new StageConsole();
        for (int group = 0; group < 5; group++) {
            x.addGroup();
        }
        for (int i = 0; i < 60; i += 7) {
            x.setMember(i / 12, i % 12, true);
        }
        for (int i = 0; i < 60; i++) {
            int place = i;
            check.is("group " + place / 12 + ", channel " + place % 12, place % 7 == 0,
                () -> x.setMember(place / 12, place % 12, false));
        }
    }

    private static void memberTwice(Check check) {
        check.about(17, "Returns whether it was a member before");
        StageConsole x = new StageConsole();
        x.addGroup();
        boolean before = false;
        for (boolean isMember : new boolean[] {false, true, true, false, false, true, false}) {
            boolean due = before;
            check.is("to " + isMember, due, () -> x.setMember(0, 11, isMember));
            before = isMember;
        }
        Twins.keep(check, "a member as it is", true, Stages::busy, y -> y.setMember(0, 0, true));
        Twins.keep(check, "no member as it is", false, Stages::busy, y -> y.setMember(0, 1, false));
    }

    private static void setMemberRefused(Check check) {
        check.about(17, "Throws IndexOutOfBoundsException if there is no such group or no such channel");
        for (int group : Twins.outside(0, 1)) {
            Twins.refuse(check, "group " + group, INDEX, Stages::busy, x -> x.setMember(group, 3, true));
        }
        for (int channel : Twins.outside(0, 11)) {
            Twins.refuse(check, "channel " + channel, INDEX, Stages::busy, x -> x.setMember(1, channel, true));
            Twins.refuse(check, "channel " + channel, INDEX, Stages::busy, x -> x.setMember(1, channel, false));
        }
        Twins.refuse(check, "no group at all", INDEX, Stages::fresh, x -> x.setMember(0, 0, true));
        Twins.refuse(check, "neither", INDEX, Stages::busy, x -> x.setMember(2, 12, true));
        Twins.refuse(check, "a sixth group", INDEX, Stages::full, x -> x.setMember(5, 0, true));
        Twins.refuse(check, "a member of group 0 of none", INDEX, Stages::busy, x -> x.setMember(-1, 0, false));
    }

    private static void setMemberMovesNothing(Check check) {
        check.about(17, "whether it is a member from now on");
        StageConsole x = Stages.fader(90);
        x.setMember(0, 5, true);
        check.is("a member has the fader's level", 90, () -> x.baseLevel(5));
        check.fails("but no source yet", NONE, () -> x.latestSource(5));
        x.setMember(0, 0, false);
        check.is("a member no more has not", 0, () -> x.baseLevel(0));
        check.is("but its source still", 0, () -> x.latestSource(0));
        check.is("the fader stays", 90, () -> x.setFader(0, 90));
    }

    private static void faderLevels(Check check) {
        check.about(18, "level: the level, 0 to 255");
        StageConsole x = Stages.fader(0);
        for (int i = 0; i <= 255; i += i < 250 ? 5 : 1) {
            int level = i;
            int before = i == 0 ? 0 : i <= 250 ? i - 5 : i - 1;
            check.is("to " + level + ", the one before", before, () -> x.setFader(0, level));
            check.is("to " + level, level, () -> x.baseLevel(0));
        }
        check.is("down to 0", 255, () -> x.setFader(0, 0));
        check.is("down to 0", 0, () -> x.baseLevel(0));
    }

    private static void faderNoGroup(Check check) {
        check.about(18, "Throws IndexOutOfBoundsException if there is no such group");
        for (int group : Twins.outside(0, 1)) {
            Twins.refuse(check, "group " + group, INDEX, Stages::busy, x -> x.setFader(group, 7));
        }
        Twins.refuse(check, "no group at all", INDEX, Stages::fresh, x -> x.setFader(0, 7));
        Twins.refuse(check, "a sixth", INDEX, Stages::full, x -> x.setFader(5, 7));
        StageConsole x = Stages.full();
        check.is("the fifth", 14, () -> x.setFader(4, 7));
    }

    private static void faderWrongLevel(Check check) {
        check.about(18, "Throws IllegalArgumentException if the level is out of range");
        for (int level : Twins.outside(0, 255)) {
            Twins.refuse(check, "level " + level, WRONG, Stages::busy, x -> x.setFader(1, level));
        }
    }

    private static void orderOfSetFader(Check check) {
        check.about(18, "If several exceptions apply, the one that is documented first is thrown");
        Twins.refuse(check, "no group above, too high", INDEX, Stages::busy, x -> x.setFader(2, 256));
        Twins.refuse(check, "no group below, too low", INDEX, Stages::busy, x -> x.setFader(-1, -1));
    }

    private static void movedToItsLevel(Check check) {
        check.about(18, "When a fader is moved, also to the level that it has, its group becomes the latest source");
        StageConsole x = Stages.fader(60);
        x.addCue(1, 0, 'l');
        x.setChange(1, 0, 100);
        x.setLatest(0, true);
        x.go();
        check.is("the cues", -1, () -> x.latestSource(0));
        check.is("to the level that it has", 60, () -> x.setFader(0, 60));
        check.is("the group", 0, () -> x.latestSource(0));
        check.is("its level", 60, () -> x.baseLevel(0));
        StageConsole y = new StageConsole();
        y.addGroup();
        y.setMember(0, 11, true);
        check.is("from 0 to 0", 0, () -> y.setFader(0, 0));
        check.is("the group", 0, () -> y.latestSource(11));
    }

    private static void eachOfItsMembers(Check check) {
        check.about(18, "its group becomes the latest source of each of its members");
        for (int i = 0; i < 12; i++) {
            int only = i;
            StageConsole x = new StageConsole();
            x.addGroup();
            x.addGroup();
            x.setMember(1, only, true);
            x.setFader(1, 5);
            for (int j = 0; j < 12; j++) {
                int channel = j;
                Object due = channel == only ? (Object) 1 : NONE;
                check.is("member " + only + ", channel " + channel, due, () -> x.latestSource(channel));
            }
            x.setFader(0, 5);
            check.is("a group without members", 1, () -> x.latestSource(only));
        }
        StageConsole x = new StageConsole();
        x.addGroup();
        for (int channel = 0; channel < 12; channel++) {
            x.setMember(0, channel, true);
        }
        x.setFader(0, 8);
        for (int i = 0; i < 12; i++) {
            int channel = i;
            check.is("all are members", 0, () -> x.latestSource(channel));
        }
    }

    private static void highestAtFirst(Check check) {
        check.about(19, "Each channel is in the mode highest, as it is initially, or in the mode latest");
        StageConsole x = new StageConsole();
        x.addGroup();
        x.addGroup();
        for (int i = 0; i < 12; i++) {
            int channel = i;
            x.setMember(0, channel, true);
            x.setMember(1, channel, true);
        }
        x.setFader(0, 80);
        x.setFader(1, 30);
        for (int i = 0; i < 12; i++) {
            int channel = i;
            check.is("the highest", 80, () -> x.baseLevel(channel));
            check.is("setLatest", false, () -> x.setLatest(channel, true));
            check.is("the latest", 30, () -> x.baseLevel(channel));
        }
    }

    private static void setLatestAnswers(Check check) {
        check.about(19, "Returns whether it was in the mode latest before");
        StageConsole x = new StageConsole();
        boolean before = false;
        for (boolean isLatest : new boolean[] {false, true, true, false, false, true, false}) {
            boolean due = before;
            check.is("to " + isLatest, due, () -> x.setLatest(11, isLatest));
            before = isLatest;
        }
        Twins.keep(check, "latest as it is", true, Stages::busy, y -> y.setLatest(2, true));
        Twins.keep(check, "highest as it is", false, Stages::busy, y -> y.setLatest(0, false));
    }

    private static void setLatestRefused(Check check) {
        check.about(19, "Throws IndexOutOfBoundsException if there is no such channel");
        for (int channel : Twins.outside(0, 11)) {
            Twins.refuse(check, "channel " + channel, INDEX, Stages::busy, x -> x.setLatest(channel, true));
            Twins.refuse(check, "channel " + channel, INDEX, Stages::busy, x -> x.setLatest(channel, false));
        }
    }

    private static void noSourceYet(Check check) {
        check.about(20, "Throws NoSuchElementException if no source was the latest one yet");
        for (int channel = 0; channel < 12; channel++) {
            int asked = channel;
            Twins.refuse(check, "channel " + channel, NONE, Stages::fresh, x -> x.latestSource(asked));
        }
        Twins.refuse(check, "a channel that nothing moved", NONE, Stages::busy, x -> x.latestSource(3));
        StageConsole x = Stages.fader(9);
        x.setMember(0, 4, true);
        x.setLatest(4, true);
        x.park(4, 9);
        x.addCue(1, 5, 'l');
        x.go();
        x.pass(1);
        check.fails("a member, latest, parked, in a cue that moves nothing", NONE, () -> x.latestSource(4));
    }

    private static void sourceNoChannel(Check check) {
        check.about(20, "Throws IndexOutOfBoundsException if there is no such channel");
        for (int channel : Twins.outside(0, 11)) {
            Twins.refuse(check, "channel " + channel, INDEX, Stages::busy, x -> x.latestSource(channel));
            Twins.refuse(check, "channel " + channel + ", no source", INDEX, Stages::fresh, x -> x.latestSource(channel));
        }
    }

    private static void sourceNotAMember(Check check) {
        check.about(20, "Returns the number of the group, also if the channel is not a member any more, or -1 for the cues");
        StageConsole x = new StageConsole();
        for (int i = 0; i < 5; i++) {
            int group = i;
            x.addGroup();
            x.setMember(group, 0, true);
            x.setFader(group, 0);
            check.is("group " + group, group, () -> x.latestSource(0));
            x.setMember(group, 0, false);
            check.is("a member of " + group + " no more", group, () -> x.latestSource(0));
            x.setFader(group, 255);
            check.is("moved without it", group, () -> x.latestSource(0));
        }
        x.setFader(0, 1);
        check.is("another one, moved without it", 4, () -> x.latestSource(0));
        x.addCue(1, 40, 'l');
        x.setChange(1, 0, 1);
        x.go();
        check.is("the cues", -1, () -> x.latestSource(0));
        x.removeCue(1);
        check.is("the cues, when all are removed", -1, () -> x.latestSource(0));
    }

    private static void sourceInBothModes(Check check) {
        check.about(20, "The latest source is kept in both modes");
        StageConsole x = Stages.fader(50);
        x.addGroup();
        x.setMember(1, 0, true);
        check.is("in highest", 0, () -> x.latestSource(0));
        x.setLatest(0, true);
        check.is("kept into latest", 0, () -> x.latestSource(0));
        check.is("its level", 50, () -> x.baseLevel(0));
        x.setFader(1, 20);
        x.setLatest(0, false);
        check.is("kept into highest", 1, () -> x.latestSource(0));
        x.setFader(0, 40);
        check.is("moved in highest", 0, () -> x.latestSource(0));
        x.setFader(1, 30);
        x.setLatest(0, true);
        check.is("moved in highest, shown in latest", 30, () -> x.baseLevel(0));
    }

    private static void greatestOfAll(Check check) {
        check.about(21, "the greatest one of its cue level and the faders of all groups of which it is a member");
        for (int i = 0; i < 6; i++) {
            int top = i;
            StageConsole x = Stages.cue(0, 'l', top == 5 ? 201 : 10);
            x.go();
            for (int group = 0; group < 5; group++) {
                x.addGroup();
                x.setMember(group, 0, true);
                x.setFader(group, group == top ? 201 : 200);
            }
            check.is("source " + top + " is the greatest", 201, () -> x.baseLevel(0));
            check.is("without sources", 0, () -> x.baseLevel(11));
        }
        StageConsole x = Stages.fader(255);
        x.addGroup();
        x.setFader(1, 254);
        check.is("not a member", 0, () -> x.baseLevel(1));
        x.setMember(1, 0, true);
        check.is("255 at most", 255, () -> x.baseLevel(0));
        x.setMember(0, 0, false);
        check.is("a member no more", 254, () -> x.baseLevel(0));
    }

    private static void latestOfGroup(Check check) {
        check.about(21, "if that is a group of which it is a member now, whether it always was one or not");
        StageConsole x = Stages.fader(50);
        x.setLatest(0, true);
        x.setMember(0, 0, false);
        check.is("not a member now", 0, () -> x.baseLevel(0));
        x.setFader(0, 70);
        x.setMember(0, 0, true);
        check.is("a member again: the fader as it is now", 70, () -> x.baseLevel(0));
        x.addGroup();
        x.setMember(1, 0, true);
        x.setFader(1, 0);
        check.is("a latest fader at 0", 0, () -> x.baseLevel(0));
    }

    private static void latestWithoutSource(Check check) {
        check.about(21, "and its cue level otherwise, also if no source was the latest one yet");
        StageConsole x = new StageConsole();
        x.addGroup();
        x.setFader(0, 99);
        x.setMember(0, 0, true);
        x.setLatest(0, true);
        check.is("no source yet", 0, () -> x.baseLevel(0));
        x.addCue(1, 2, 'l');
        x.setChange(1, 0, 30);
        x.go();
        x.pass(1);
        check.is("the cues", 15, () -> x.baseLevel(0));
        x.setLatest(0, false);
        check.is("the highest", 99, () -> x.baseLevel(0));
    }

    private static void latestNotAMember(Check check) {
        check.about(21, "the level of its latest source, and its cue level otherwise");
        StageConsole x = Stages.fader(200);
        x.addGroup();
        x.setMember(1, 0, true);
        x.setFader(1, 100);
        x.addCue(1, 0, 'l');
        x.setChange(1, 0, 40);
        x.go();
        x.setLatest(0, true);
        x.setFader(0, 200);
        x.setMember(0, 0, false);
        check.is("not the other group, of which it is one", 40, () -> x.baseLevel(0));
        x.setFader(1, 100);
        x.goTo(1);
        check.is("a cue that moves nothing", 100, () -> x.baseLevel(0));
    }

    private static void baseNoChannel(Check check) {
        check.about(21, "Throws IndexOutOfBoundsException if there is no such channel");
        for (int channel : Twins.outside(0, 11)) {
            Twins.refuse(check, "channel " + channel, INDEX, Stages::busy, x -> x.baseLevel(channel));
        }
        StageConsole x = Stages.fader(3);
        x.setMember(0, 11, true);
        check.is("channel 0", 3, () -> x.baseLevel(0));
        check.is("channel 11", 3, () -> x.baseLevel(11));
        Twins.keep(check, "asked", 61, Stages::busy, y -> y.baseLevel(2));
    }
}
