import java.io.IOException;

/** Holds each sentence of the document that names an edge, by a test of its own. */
public final class EdgesTest extends Checks {
    private EdgesTest() {
    }

    public static void main(String[] args) throws IOException {
        Sentences document = new Sentences();
        MachineEdges.hold(document);
        NetEdges.hold(document);
        PeerEdges.hold(document);
        PacketEdges.hold(document);
        ChangeEdges.hold(document);
        RefusalEdges.hold(document);
        document.complainOfRest();
        end("all sentences are held");
    }
}
