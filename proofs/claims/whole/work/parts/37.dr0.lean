/-! THE READERS: runs of like bytes; the small readers of the reference -/
theorem su_self {σ : mm_S} {a k : Nat} {x : Int32} (h : σ.1 a k = x) : su_i σ a k x = σ := by
  unfold su_i
  refine Prod.ext ?_ rfl
  funext i j
  show (if i = a ∧ j = k then x else σ.1 i j) = σ.1 i j
  by_cases c : i = a ∧ j = k
  · rw [if_pos c, c.1, c.2, h]
  · rw [if_neg c]
def rn (P : Int32 → Bool) (b : Nat → Int32) (L : Nat) : Nat → Nat → Nat
  | 0, i => i
  | f + 1, i => if i < L ∧ P (b i) = true then rn P b L f (i + 1) else i
def ed (P : Int32 → Bool) (b : Nat → Int32) (L i : Nat) : Nat := rn P b L (L - i) i
section
variable {P : Int32 → Bool} {b : Nat → Int32} {L i : Nat}
theorem ed_go (h : i < L) (hp : P (b i) = true) : ed P b L i = ed P b L (i + 1) := by
  unfold ed
  rw [show L - i = (L - (i + 1)) + 1 by omega]
  show (if i < L ∧ P (b i) = true then _ else _) = _
  rw [if_pos ⟨h, hp⟩]
theorem ed_no (h : ¬ (i < L ∧ P (b i) = true)) : ed P b L i = i := by
  unfold ed
  cases L - i with
  | zero => rfl
  | succ f => show (if i < L ∧ P (b i) = true then _ else _) = _; rw [if_neg h]
theorem ed_le (P : Int32 → Bool) (b : Nat → Int32) (L i : Nat) : i ≤ ed P b L i := by
  unfold ed
  generalize L - i = f
  induction f generalizing i with
  | zero => exact Nat.le_refl _
  | succ f ih =>
    show i ≤ (if i < L ∧ P (b i) = true then rn P b L f (i + 1) else i)
    split
    · have := ih (i + 1); omega
    · exact Nat.le_refl _
theorem ed_lt (P : Int32 → Bool) (b : Nat → Int32) (hi : i ≤ L) : ed P b L i ≤ L := by
  unfold ed
  generalize hf : L - i = f
  induction f generalizing i with
  | zero => exact hi
  | succ f ih =>
    show (if i < L ∧ P (b i) = true then rn P b L f (i + 1) else i) ≤ L
    split
    · exact ih (by omega) (by omega)
    · exact hi
theorem ed_at (P : Int32 → Bool) (b : Nat → Int32) (L i : Nat) : ¬ (ed P b L i < L ∧ P (b (ed P b L i)) = true) := by
  unfold ed
  generalize hf : L - i = f
  induction f generalizing i with
  | zero => intro q; have : i < L := q.1; omega
  | succ f ih =>
    show ¬ ((if i < L ∧ P (b i) = true then rn P b L f (i + 1) else i) < L ∧ P (b (if i < L ∧ P (b i) = true then rn P b L f (i + 1) else i)) = true)
    by_cases c : i < L ∧ P (b i) = true
    · rw [if_pos c]; exact ih (i + 1) (by omega)
    · rw [if_neg c]; exact c
theorem ed_in (P : Int32 → Bool) (b : Nat → Int32) {L i j : Nat} (h : i ≤ j) (hj : j < ed P b L i) : j < L ∧ P (b j) = true := by
  unfold ed at hj
  generalize hf : L - i = f at hj
  induction f generalizing i with
  | zero => have : j < i := hj; omega
  | succ f ih =>
    by_cases c : i < L ∧ P (b i) = true
    · have hj' : j < (if i < L ∧ P (b i) = true then rn P b L f (i + 1) else i) := hj
      rw [if_pos c] at hj'
      by_cases e : j = i
      · rw [e]; exact c
      · exact ih (i := i + 1) (by omega) (by omega) hj'
    · have hj' : j < (if i < L ∧ P (b i) = true then rn P b L f (i + 1) else i) := hj
      rw [if_neg c] at hj'; omega
theorem ed_idem (P : Int32 → Bool) (b : Nat → Int32) (L i : Nat) : ed P b L (ed P b L i) = ed P b L i := ed_no (ed_at P b L i)
end
def isb (x : Int32) : Bool := decide (x = 32)
def isl (x : Int32) : Bool := decide (97 ≤ x.toInt ∧ x.toInt ≤ 122)
def isd (x : Int32) : Bool := decide (48 ≤ x.toInt ∧ x.toInt ≤ 57)
def sk (b : Nat → Int32) (L i : Nat) : Nat := ed isb b L i
theorem sk_idem (b : Nat → Int32) (L i : Nat) : sk b L (sk b L i) = sk b L i := ed_idem _ _ _ _
def TP (b : Nat → Int32) (L : Nat) (ρ : mm_S) : Prop := L ≤ 400 ∧ ρ.1 214 1 = Int32.ofNat L ∧ ∀ k, ρ.1 215 k = b k
def mv (ρ : mm_S) (p : Nat) : mm_S := su_i ρ 214 8 (Int32.ofNat p)
theorem mv_8 (ρ : mm_S) (p : Nat) : (mv ρ p).1 214 8 = Int32.ofNat p := rd_is _ _ _ _
theorem mv_o (ρ : mm_S) (p : Nat) {a k : Nat} (h : ¬ (a = 214 ∧ k = 8)) : (mv ρ p).1 a k = ρ.1 a k := if_neg h
theorem mv_mv (ρ : mm_S) (p q : Nat) : mv (mv ρ p) q = mv ρ q := su_ii _ _ _ _ _
theorem mv_self {ρ : mm_S} {q : Nat} (h : ρ.1 214 8 = Int32.ofNat q) : mv ρ q = ρ := su_self h
theorem TP_mv {b : Nat → Int32} {L : Nat} {ρ : mm_S} (p : Nat) (h : TP b L ρ) : TP b L (mv ρ p) := ⟨h.1, (mv_o _ _ (by omega)).trans h.2.1, fun k => (mv_o _ _ (by omega)).trans (h.2.2 k)⟩
def ch (b : Nat → Int32) (L p : Nat) : Int32 := if L ≤ p then -1 else b p &&& 255
theorem l97 (x : Int32) : x < 97 ↔ x.toInt < 97 := by rw [Int32.lt_iff_toInt_lt]; exact Iff.rfl
theorem l122 (x : Int32) : 122 < x ↔ 122 < x.toInt := by rw [Int32.lt_iff_toInt_lt]; exact Iff.rfl
theorem l48 (x : Int32) : x < 48 ↔ x.toInt < 48 := by rw [Int32.lt_iff_toInt_lt]; exact Iff.rfl
theorem l57 (x : Int32) : 57 < x ↔ 57 < x.toInt := by rw [Int32.lt_iff_toInt_lt]; exact Iff.rfl
section
variable {b : Nat → Int32} {L q : Nat} {ρ : mm_S}
theorem r_see38 (T : TP b L ρ) (hq : q ≤ L) (e : ρ.1 214 8 = Int32.ofNat q) : f_X10_see_38 214 ρ = some (ch b L q, ρ) := by
  obtain ⟨hL, eL, eb⟩ := T
  unfold f_X10_see_38 ch
  rw [e, eL]
  simp (disch := omega) only [n_le]
  by_cases c : L ≤ q
  · rw [if_pos c, if_pos c]
  · rw [if_neg c, if_neg c, gd_n (by omega) (by omega), n_idx (by omega), eb]
theorem r_see (T : TP b L ρ) (hq : q ≤ L) (e : ρ.1 214 8 = Int32.ofNat q) : f_X10_see 214 ρ = some (ch b L (sk b L q), mv ρ (sk b L q)) := by
  unfold f_X10_see f_X10_see_0
  have hL := T.1
  refine wp_eq (wp_lp (fun m v τ => ∃ i, i ≤ L ∧ sk b L i = sk b L q ∧ τ = mv ρ i ∧ m = L - i) ?_ lpN (L - q) _ _ (Nat.lt_of_le_of_lt (show L - q ≤ 400 by omega) (by decide)) ⟨q, hq, rfl, (mv_self e).symm, rfl⟩)
  rintro m rec v τ ⟨i, hi, es, rfl, rfl⟩ hrec
  rw [mv_8, mv_o _ _ (by omega), T.2.1]
  simp (disch := omega) only [n_le]
  by_cases c : L ≤ i
  · rw [if_pos c, r_see38 (TP_mv i T) hi (mv_8 _ _), wp_some, ← es, show sk b L i = i from ed_no (by omega)]
  · rw [if_neg c, gd_n (by omega) (by omega), n_idx (by omega), mv_o _ _ (by omega), T.2.2]
    by_cases c2 : b i = 32
    · rw [if_pos c2, lt_eq, show Int32.ofNat i + 1 = Int32.ofNat (i + 1) from n_add i 1]
      refine hrec (L - (i + 1)) _ _ (by omega) ⟨i + 1, by omega, ?_, mv_mv _ _ _, rfl⟩
      rw [← es]; exact (ed_go (by omega) (decide_eq_true c2)).symm
    · rw [if_neg c2, r_see38 (TP_mv i T) hi (mv_8 _ _), wp_some, ← es, show sk b L i = i from ed_no (fun q => c2 (of_decide_eq_true q.2))]
theorem r_isLetter (i : Nat) (T : TP b L ρ) (hi : i < 1000) : f_X10_isLetter 214 (Int32.ofNat i) ρ = some (if i < L ∧ isl (b i) = true then 1 else 0, ρ) := by
  obtain ⟨hL, eL, eb⟩ := T
  unfold f_X10_isLetter isl
  rw [eL]
  simp (disch := omega) only [n_le]
  by_cases c : L ≤ i
  · rw [if_pos c, if_neg (by omega)]
  · rw [if_neg c, gd_n (by omega) (by omega), gd_n (by omega) (by omega), n_idx (by omega), eb]; simp only [l97, l122]
    by_cases c1 : (b i).toInt < 97
    · rw [if_pos c1, if_neg (fun q => by have := of_decide_eq_true q.2; omega)]
    · rw [if_neg c1]
      by_cases c2 : 122 < (b i).toInt
      · rw [if_pos c2, if_neg (fun q => by have := of_decide_eq_true q.2; omega)]
      · rw [if_neg c2, if_pos ⟨by omega, decide_eq_true (by omega)⟩]
theorem r_isDigit (i : Nat) (T : TP b L ρ) (hi : i < 1000) : f_X10_isDigit 214 (Int32.ofNat i) ρ = some (if i < L ∧ isd (b i) = true then 1 else 0, ρ) := by
  obtain ⟨hL, eL, eb⟩ := T
  unfold f_X10_isDigit isd
  rw [eL]
  simp (disch := omega) only [n_le]
  by_cases c : L ≤ i
  · rw [if_pos c, if_neg (by omega)]
  · rw [if_neg c, gd_n (by omega) (by omega), gd_n (by omega) (by omega), n_idx (by omega), eb]; simp only [l48, l57]
    by_cases c1 : (b i).toInt < 48
    · rw [if_pos c1, if_neg (fun q => by have := of_decide_eq_true q.2; omega)]
    · rw [if_neg c1]
      by_cases c2 : 57 < (b i).toInt
      · rw [if_pos c2, if_neg (fun q => by have := of_decide_eq_true q.2; omega)]
      · rw [if_neg c2, if_pos ⟨by omega, decide_eq_true (by omega)⟩]
theorem r_passWord (T : TP b L ρ) (hq : q ≤ L) (e : ρ.1 214 8 = Int32.ofNat q) : f_X10_passWord 214 ρ = some (mv ρ (ed isl b L q)) := by
  unfold f_X10_passWord f_X10_passWord_0
  have hL := T.1
  refine wp_eq (wp_lp (fun m v τ => ∃ i, i ≤ L ∧ ed isl b L i = ed isl b L q ∧ τ = mv ρ i ∧ m = L - i) ?_ lpN (L - q) _ _ (Nat.lt_of_le_of_lt (show L - q ≤ 400 by omega) (by decide)) ⟨q, hq, rfl, (mv_self e).symm, rfl⟩)
  rintro m rec v τ ⟨i, hi, es, rfl, rfl⟩ hrec
  rw [mv_8, r_isLetter i (TP_mv i T) (by omega), bd_s, mv_8]
  by_cases c : i < L ∧ isl (b i) = true
  · rw [if_pos c, if_neg (by decide), lt_eq, show Int32.ofNat i + 1 = Int32.ofNat (i + 1) from n_add i 1]
    refine hrec (L - (i + 1)) _ _ (by omega) ⟨i + 1, by omega, ?_, mv_mv _ _ _, rfl⟩
    rw [← es]; exact (ed_go c.1 c.2).symm
  · rw [if_neg c, if_pos rfl, wp_some, ← es, show ed isl b L i = i from ed_no c]
end
