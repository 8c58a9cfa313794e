/** Runs all tests of the project; the argument is the project's folder. */
public final class AllTests {
    private AllTests() {
    }

    public static void main(String[] arguments) throws Exception {
        String root = arguments.length > 0 ? arguments[0] : ".";
        FaceTests.run(root);
        DocumentTests.run(root);
        DeviceTests.run();
        ByteTests.run();
        PipeTests.run();
        TransferTests.run();
        FrameTests.run();
        SnifferTests.run();
        EdgeDeviceTests.run();
        EdgeByteTests.run();
        EdgePipeTests.run();
        EdgeTransferTests.run();
        EdgeFrameTests.run();
        EdgeSnifferTests.run();
        MeetEndTests.run();
        MeetStateTests.run();
        MeetWornTests.run();
        RandomTests.run();
        System.out.println(Check.sum());
        if (!Check.isAllWell()) {
            System.exit(1);
        }
    }
}
