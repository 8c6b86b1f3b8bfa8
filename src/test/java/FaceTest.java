import java.lang.reflect.Member;
import java.lang.reflect.Modifier;
import java.util.ArrayList;
import java.util.Collections;
import java.util.List;

/** The document's section 'The public face', and that nothing else of the class can be seen. */
public final class FaceTest {
    private static final String[] FACE = {
        "public CostChecker()",
        "public boolean CostChecker.accepted(int)",
        "public boolean CostChecker.base(int,int,int,int)",
        "public boolean CostChecker.claim(int,int,int,int,int)",
        "public boolean CostChecker.clear(int)",
        "public boolean CostChecker.cut(int,int)",
        "public boolean CostChecker.feed(int)",
        "public boolean CostChecker.term(int,int,int,int,int)",
        "public int CostChecker.check(int)",
        "public int CostChecker.depth(int)",
        "public int CostChecker.put(int,int,int)",
        "public int CostChecker.ran(int)",
        "public int CostChecker.run(int,int,int,int)",
        "public long CostChecker.bound(int,int,int,int,int)",
        "public static final int CostChecker.NONE",
    };

    private static final Dues DUES = new Dues();

    public static void main(String[] args) {
        int modifiers = CostChecker.class.getModifiers();
        DUES.due("the class is public", Modifier.isPublic(modifiers), true);
        DUES.due("the class is final", Modifier.isFinal(modifiers), true);
        DUES.due("NONE", CostChecker.NONE, -1);
        List<String> seen = visibleMembers();
        for (String member : FACE) {
            DUES.due(member, seen.remove(member), true);
        }
        DUES.due("members that are not in the face, " + seen, seen.size(), 0);
        DUES.close();
    }

    private static List<String> visibleMembers() {
        List<Member> all = new ArrayList<>();
        Collections.addAll(all, CostChecker.class.getDeclaredConstructors());
        Collections.addAll(all, CostChecker.class.getDeclaredMethods());
        Collections.addAll(all, CostChecker.class.getDeclaredFields());
        List<String> seen = new ArrayList<>();
        for (Member member : all) {
            if (!Modifier.isPrivate(member.getModifiers()) && !member.isSynthetic()) {
                seen.add(member.toString());
            }
        }
        return seen;
    }
}
