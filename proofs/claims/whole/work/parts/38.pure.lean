theorem pure_law (L : Nat) (xs : Nat → Int32) (hL : L ≤ 3072) : ∃ τ, f_L_law_18 L xs 0 214 0 ini_s = some (1, τ) := sorry
