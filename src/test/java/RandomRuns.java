final class RandomRuns { private RandomRuns() {} static void ruleX() {} }
