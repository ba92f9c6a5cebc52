/-! what the reference sees at a piece of the class -/
def BR (b : Nat → Int32) : Prop := ∀ k, ∃ z : Int, -128 ≤ z ∧ z < 128 ∧ b k = Int32.ofInt z
theorem c255 {b : Nat → Int32} (h : BR b) (p c : Nat) (hc : c < 128) : b p &&& 255 = Int32.ofNat c ↔ b p = Int32.ofNat c := by
  have T : ∀ n : Nat, n < 256 → Int32.ofInt ((n : Int) - 128) &&& 255 = Int32.ofNat ((n + 128) % 256) := by decide +kernel
  obtain ⟨z, h1, h2, e⟩ := h p
  obtain ⟨n, rfl⟩ : ∃ n : Nat, z = (n : Int) - 128 := ⟨(z + 128).toNat, by omega⟩
  rw [e, T n (by omega), n_eq (by omega) (by omega), ← Int32.toInt_inj, n_int (by omega), Int32.toInt_ofInt_of_le (by omega) (by omega)]
  omega
theorem cneg {b : Nat → Int32} (h : BR b) (p : Nat) : b p &&& 255 ≠ -1 := by
  have T : ∀ n : Nat, n < 256 → Int32.ofInt ((n : Int) - 128) &&& 255 ≠ -1 := by decide +kernel
  obtain ⟨z, h1, h2, e⟩ := h p
  obtain ⟨n, rfl⟩ : ∃ n : Nat, z = (n : Int) - 128 := ⟨(z + 128).toNat, by omega⟩
  rw [e]; exact T n (by omega)
section
variable {b : Nat → Int32} {L p e : Nat} {kd vl : Int32}
/-- a sign c that is no letter, no digit, no blank -/
theorem ch_iff (h : BR b) (t : TK b L p kd vl e) {c : Nat} (hc : c < 128) (c1 : isl (Int32.ofNat c) = false) (c2 : isd (Int32.ofNat c) = false) : ch b L p = Int32.ofNat c ↔ kd = 3 ∧ b p = Int32.ofNat c := by
  unfold ch
  rcases t with ⟨rfl, rfl, -, -⟩ | ⟨h1, h2, rfl, -, -⟩ | ⟨h1, h2, rfl, -, -⟩ | ⟨h1, h2, h3, h4, rfl, -, -⟩
  · rw [if_pos (Nat.le_refl _)]
    constructor
    · intro q; exact absurd q.symm (by rw [n_ne1 (by omega)]; exact id)
    · intro q; exact absurd q.1 (by decide)
  · rw [if_neg (by omega), c255 h p c hc]
    constructor
    · intro q; rw [q, c1] at h2; exact absurd h2 (by decide)
    · intro q; exact absurd q.1 (by decide)
  · rw [if_neg (by omega), c255 h p c hc]
    constructor
    · intro q; rw [q, c2] at h2; exact absurd h2 (by decide)
    · intro q; exact absurd q.1 (by decide)
  · rw [if_neg (by omega), c255 h p c hc]
    exact ⟨fun q => ⟨rfl, q⟩, fun q => q.2⟩
theorem ch_end (h : BR b) (t : TK b L p kd vl e) : ch b L p = -1 ↔ kd = 0 := by
  unfold ch
  rcases t with ⟨rfl, rfl, -, -⟩ | ⟨h1, h2, rfl, -, -⟩ | ⟨h1, h2, rfl, -, -⟩ | ⟨h1, h2, h3, h4, rfl, -, -⟩
  · rw [if_pos (Nat.le_refl _)]; exact ⟨fun _ => rfl, fun _ => rfl⟩
  all_goals
    rw [if_neg (by omega)]
    exact ⟨fun q => absurd q (cneg h p), fun q => absurd q (by decide)⟩
theorem TK_3 (t : TK b L p kd vl e) (h : kd = 3) : p < L ∧ e = se b L p ∧ vl = sg (b p) (e - p) := by
  rcases t with ⟨rfl, rfl, -, -⟩ | ⟨h1, h2, rfl, -, -⟩ | ⟨h1, h2, rfl, -, -⟩ | ⟨h1, h2, h3, h4, -, h5, h6⟩
  · exact absurd h (by decide)
  · exact absurd h (by decide)
  · exact absurd h (by decide)
  · exact ⟨h1, h5, h6⟩
theorem TK_0 (t : TK b L p kd vl e) : kd = 0 ↔ p = L := by
  rcases t with ⟨rfl, rfl, -, -⟩ | ⟨h1, h2, rfl, -, -⟩ | ⟨h1, h2, rfl, -, -⟩ | ⟨h1, h2, h3, h4, rfl, h5, h6⟩
  · exact ⟨fun _ => rfl, fun _ => rfl⟩
  all_goals exact ⟨fun q => absurd q (by decide), fun q => by omega⟩
end
def sgP (x : Int32) (n : Nat) : Prop := (sg x n = 24 ↔ x = 37) ∧ (sg x n = 22 ↔ x = 42) ∧ (sg x n = 20 ↔ x = 43) ∧ (sg x n = 21 ↔ x = 45) ∧ (sg x n = 23 ↔ x = 47) ∧ (sg x n = 37 ↔ x = 59) ∧ (sg x n = 27 ↔ x = 61) ∧ (sg x n = 35 ↔ x = 91) ∧ (sg x n = 36 ↔ x = 93) ∧ ((25 ≤ sg x n ∧ sg x n ≤ 29) ↔ x = 60 ∨ x = 61 ∨ x = 62) ∧ ((22 ≤ sg x n ∧ sg x n ≤ 24) ↔ x = 42 ∨ x = 47 ∨ x = 37)
def sgB (x : Int32) (n : Nat) : Bool := (decide (sg x n = 24 ↔ x = 37) && (decide (sg x n = 22 ↔ x = 42) && (decide (sg x n = 20 ↔ x = 43) && (decide (sg x n = 21 ↔ x = 45) && (decide (sg x n = 23 ↔ x = 47) && (decide (sg x n = 37 ↔ x = 59) && (decide (sg x n = 27 ↔ x = 61) && (decide (sg x n = 35 ↔ x = 91) && (decide (sg x n = 36 ↔ x = 93) && (decide ((25 ≤ sg x n ∧ sg x n ≤ 29) ↔ x = 60 ∨ x = 61 ∨ x = 62) && decide ((22 ≤ sg x n ∧ sg x n ≤ 24) ↔ x = 42 ∨ x = 47 ∨ x = 37)))))))))))
theorem sg_tab : ∀ i : Nat, i < 256 → ∀ n : Nat, n < 3 → sgB (Int32.ofInt ((i : Int) - 128)) n = true := by decide +kernel
theorem sg_inv {b : Nat → Int32} (h : BR b) (p : Nat) {n : Nat} (hn : n < 3) : sgP (b p) n := by
  obtain ⟨z, h1, h2, e⟩ := h p
  obtain ⟨i, rfl⟩ : ∃ n : Nat, z = (n : Int) - 128 := ⟨(z + 128).toNat, by omega⟩
  have := sg_tab i (by omega) n hn
  rw [← e] at this
  unfold sgB at this
  simp only [Bool.and_eq_true, decide_eq_true_eq] at this
  exact this
theorem se_n (b : Nat → Int32) (L p : Nat) : 1 ≤ se b L p - p ∧ se b L p - p < 3 ∧ p + 1 ≤ se b L p := by unfold se; split <;> omega
