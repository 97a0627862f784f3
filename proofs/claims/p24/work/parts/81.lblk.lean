/-! ===== the methods' blocks ===== -/
