final class RandomTests { static void run() {} }
