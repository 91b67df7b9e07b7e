theorem x_step {a b lo z : Int} (hab : a + 1 = b) (h : a ≤ z ∨ z < lo) (hz : ¬ z = a) : b ≤ z ∨ z < lo := by omega
