theorem pure_law {L : Nat} (hL : L ≤ 3074) (xs : Nat → Int32) : w_LW_law L xs := pure_law0 hL xs
