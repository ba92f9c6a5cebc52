/-! the pieces of the class -/
def CB (b : Nat → Int32) (L : Nat) (σ : mm_S) : Prop := L ≤ 400 ∧ σ.1 1 1 = Int32.ofNat L ∧ ∀ k, σ.1 2 k = b k
def dg (x : Int32) : Nat := x.toInt.toNat - 48
theorem isd_of {x : Int32} (h : isd x = true) : x = Int32.ofNat (48 + dg x) ∧ dg x ≤ 9 := by
  have q := of_decide_eq_true h
  unfold dg
  refine ⟨?_, by omega⟩
  rw [← Int32.toInt_inj, n_int (by omega)]; omega
def nv (b : Nat → Int32) (p : Nat) : Nat → Nat
  | 0 => 0
  | n + 1 => 10 * nv b p n + dg (b (p + n))
theorem nv_lt {b : Nat → Int32} {p : Nat} : ∀ {n : Nat}, (∀ i, i < n → isd (b (p + i)) = true) → nv b p n < 10 ^ n
  | 0, _ => by show 0 < 1; decide
  | n + 1, h => by
    have a := nv_lt (n := n) (fun i q => h i (by omega))
    have c := (isd_of (h n (by omega))).2
    show 10 * nv b p n + dg (b (p + n)) < 10 ^ (n + 1)
    rw [Nat.pow_succ]; omega
section
variable {b : Nat → Int32} {L : Nat} {σ : mm_S}
theorem x_isLetter {i : Nat} (T : CB b L σ) (hi : i < 400) : f_X4_isLetter 3 (Int32.ofNat i) σ = some (if isl (b i) = true then 1 else 0, σ) := by
  obtain ⟨hL, eL, eb⟩ := T
  unfold f_X4_isLetter isl
  rw [gd_n (by omega) (by omega), gd_n (by omega) (by omega), n_idx (by omega), eb]; simp only [l97, l122]
  by_cases c1 : (b i).toInt < 97
  · rw [if_pos c1, if_neg (fun q => by have := of_decide_eq_true q; omega)]
  · rw [if_neg c1]
    by_cases c2 : 122 < (b i).toInt
    · rw [if_pos c2, if_neg (fun q => by have := of_decide_eq_true q; omega)]
    · rw [if_neg c2, if_pos (decide_eq_true (by omega))]
theorem x_isDigit {i : Nat} (T : CB b L σ) (hi : i < 400) : f_X4_isDigit 3 (Int32.ofNat i) σ = some (if isd (b i) = true then 1 else 0, σ) := by
  obtain ⟨hL, eL, eb⟩ := T
  unfold f_X4_isDigit isd
  rw [gd_n (by omega) (by omega), gd_n (by omega) (by omega), n_idx (by omega), eb]; simp only [l48, l57]
  by_cases c1 : (b i).toInt < 48
  · rw [if_pos c1, if_neg (fun q => by have := of_decide_eq_true q; omega)]
  · rw [if_neg c1]
    by_cases c2 : 57 < (b i).toInt
    · rw [if_pos c2, if_neg (fun q => by have := of_decide_eq_true q; omega)]
    · rw [if_neg c2, if_pos (decide_eq_true (by omega))]
theorem x_wordEnd {p : Nat} (T : CB b L σ) (hp : p < L) (hl : isl (b p) = true) : f_X4_wordEnd 3 (Int32.ofNat p) σ = some (Int32.ofNat (ed isl b L p), σ) := by
  have hL := T.1
  unfold f_X4_wordEnd f_X4_wordEnd_4
  rw [lt_eq, show Int32.ofNat p + 1 = Int32.ofNat (p + 1) from n_add p 1, ed_go hp hl]
  refine wp_eq (wp_lp (fun m v τ => τ = σ ∧ ∃ i, i ≤ L ∧ ed isl b L i = ed isl b L (p + 1) ∧ m = L - i ∧ v = Int32.ofNat i) ?_ lpN (L - (p + 1)) _ _ (Nat.lt_of_le_of_lt (show L - (p + 1) ≤ 400 by omega) (by decide)) ⟨rfl, p + 1, by omega, rfl, rfl, rfl⟩)
  rintro m rec v τ ⟨rfl, i, hi, es, rfl, rfl⟩ hrec
  rw [T.2.1]
  simp (disch := omega) only [n_le]
  by_cases c : L ≤ i
  · rw [if_pos c, wp_some, ← es, ed_no (by omega)]
  · rw [if_neg c, x_isLetter T (by omega), bd_s]
    by_cases c2 : isl (b i) = true
    · rw [if_pos c2, if_neg (by decide), lt_eq, n_addI]
      exact hrec (L - (i + 1)) _ _ (by omega) ⟨rfl, i + 1, by omega, by rw [← es]; exact (ed_go (by omega) c2).symm, rfl, rfl⟩
    · rw [if_neg c2, if_pos rfl, wp_some, ← es, ed_no (fun q => c2 q.2)]
theorem x_numberEnd {p : Nat} (T : CB b L σ) (hp : p < L) (hl : isd (b p) = true) : f_X4_numberEnd 3 (Int32.ofNat p) σ = some (Int32.ofNat (ed isd b L p), σ) := by
  have hL := T.1
  unfold f_X4_numberEnd f_X4_numberEnd_4
  rw [lt_eq, show Int32.ofNat p + 1 = Int32.ofNat (p + 1) from n_add p 1, ed_go hp hl]
  refine wp_eq (wp_lp (fun m v τ => τ = σ ∧ ∃ i, i ≤ L ∧ ed isd b L i = ed isd b L (p + 1) ∧ m = L - i ∧ v = Int32.ofNat i) ?_ lpN (L - (p + 1)) _ _ (Nat.lt_of_le_of_lt (show L - (p + 1) ≤ 400 by omega) (by decide)) ⟨rfl, p + 1, by omega, rfl, rfl, rfl⟩)
  rintro m rec v τ ⟨rfl, i, hi, es, rfl, rfl⟩ hrec
  rw [T.2.1]
  simp (disch := omega) only [n_le]
  by_cases c : L ≤ i
  · rw [if_pos c, wp_some, ← es, ed_no (by omega)]
  · rw [if_neg c, x_isDigit T (by omega), bd_s]
    by_cases c2 : isd (b i) = true
    · rw [if_pos c2, if_neg (by decide), lt_eq, n_addI]
      exact hrec (L - (i + 1)) _ _ (by omega) ⟨rfl, i + 1, by omega, by rw [← es]; exact (ed_go (by omega) c2).symm, rfl, rfl⟩
    · rw [if_neg c2, if_pos rfl, wp_some, ← es, ed_no (fun q => c2 q.2)]
def nw (b : Nat → Int32) (p e : Nat) : Int32 := if e - p ≤ 5 then Int32.ofNat (nv b p (e - p)) else -1
theorem dg_step {v : Nat} {x : Int32} (h : isd x = true) : Int32.ofNat v * 10 + x - 48 = Int32.ofNat (10 * v + dg x) := by
  obtain ⟨e, -⟩ := isd_of h
  have e2 : Int32.ofNat v * 10 + Int32.ofNat (48 + dg x) - 48 = Int32.ofNat (10 * v + dg x) := by
    rw [show (10 : Int32) = Int32.ofNat 10 from rfl, show (48 : Int32) = Int32.ofNat 48 from rfl, n_mul, n_add, n_sub (by omega)]; congr 1; omega
  rw [← e] at e2; exact e2
theorem dg_step' {v : Nat} {x : Int32} (h : isd x = true) : 10 * Int32.ofNat v + x - 48 = Int32.ofNat (10 * v + dg x) := by
  rw [Int32.mul_comm]; exact dg_step h
theorem x_numberOf {p e : Nat} (T : CB b L σ) (hp : p ≤ e) (he : e ≤ L) (hd : ∀ i, p ≤ i → i < e → isd (b i) = true) : f_X4_numberOf 3 (Int32.ofNat p) (Int32.ofNat e) σ = some (nw b p e, σ) := by
  have hL := T.1
  unfold f_X4_numberOf nw
  rw [n_sub hp, show (5 : Int32) = Int32.ofNat 5 from rfl]
  simp (disch := omega) only [n_le]
  by_cases c : e - p ≤ 5
  · rw [if_pos c, if_pos c]
    unfold f_X4_numberOf_14
    refine wp_eq (wp_lp (fun m v τ => τ = σ ∧ ∃ i, i ≤ e - p ∧ m = e - p - i ∧ v = (Int32.ofNat (nv b p i), Int32.ofNat (p + i))) ?_ lpN (e - p) _ _ (Nat.lt_of_le_of_lt (show e - p ≤ 400 by omega) (by decide)) ⟨rfl, 0, by omega, rfl, rfl⟩)
    rintro m rec v τ ⟨rfl, i, hi, rfl, rfl⟩ hrec
    simp (disch := omega) only [n_le]
    by_cases c2 : e ≤ p + i
    · rw [if_pos c2, wp_some, show e - p = i by omega]
    · rw [if_neg c2, gd_n (by omega) (by omega), n_idx (by omega), T.2.2, dg_step (hd _ (by omega) (by omega)), lt_eq, lt_eq, n_addI]
      exact hrec (e - p - (i + 1)) _ _ (by omega) ⟨rfl, i + 1, by omega, rfl, rfl⟩
  · rw [if_neg c, if_neg c]
/-- where a sign ends -/
def se (b : Nat → Int32) (L p : Nat) : Nat := if (b p = 60 ∨ b p = 62) ∧ p + 1 < L ∧ b (p + 1) = 61 then p + 2 else p + 1
theorem x_signEnd {p : Nat} (T : CB b L σ) (hp : p < L) : f_X4_signEnd 3 (Int32.ofNat p) σ = some (Int32.ofNat (se b L p), σ) := by
  have hL := T.1
  have h33 : ∀ s : Int32, (s = 0 ∨ s = 1) → f_X4_signEnd_33 3 (Int32.ofNat p) s σ = some (Int32.ofNat (if s = 1 ∧ p + 1 < L ∧ b (p + 1) = 61 then p + 2 else p + 1), σ) := by
    intro s hs
    unfold f_X4_signEnd_33
    rw [show Int32.ofNat p + 1 = Int32.ofNat (p + 1) from n_add p 1, show Int32.ofNat p + 2 = Int32.ofNat (p + 2) from n_add p 2, T.2.1]
    rcases hs with rfl | rfl
    · rw [if_pos rfl, if_neg (fun q => absurd q.1 (by decide))]
    · rw [if_neg (by decide)]
      simp (disch := omega) only [n_le]
      by_cases c : L ≤ p + 1
      · rw [if_pos c, if_neg (by omega)]
      · rw [if_neg c, gd_n (by omega) (by omega), n_idx (by omega), T.2.2]
        by_cases c2 : b (p + 1) = 61
        · rw [if_pos c2, if_pos ⟨trivial, by omega, c2⟩]
        · rw [if_neg c2, if_neg (fun q => c2 q.2.2)]
  unfold f_X4_signEnd se
  rw [gd_n (by omega) (by omega), gd_n (by omega) (by omega), n_idx (by omega), T.2.2, h33 1 (Or.inr rfl), h33 0 (Or.inl rfl)]
  by_cases c : b p = 60
  · rw [if_pos c]; simp only [c, true_or, true_and]
  · rw [if_neg c]
    by_cases c2 : b p = 62
    · rw [if_pos c2]; simp only [c2, or_true, true_and]
    · rw [if_neg c2, if_neg (show ¬ ((0 : Int32) = 1 ∧ _) from fun q => absurd q.1 (by decide)), if_neg (fun q => by rcases q.1 with h | h; exact c h; exact c2 h)]
/-- the number of a sign -/
def sg (x : Int32) (n : Nat) : Int32 :=
  if x = 37 then 24 else if x = 42 then 22 else if x = 43 then 20 else if x = 45 then 21 else if x = 47 then 23 else if x = 59 then 37 else
  if x = 60 then (if n = 1 then 25 else 26) else if x = 61 then 27 else if x = 62 then (if n = 1 then 29 else 28) else if x = 91 then 35 else if x = 93 then 36 else 38
theorem x_signOf {x : Int32} {n : Nat} (hn : n < 3) : f_X4_signOf x (Int32.ofNat n) σ = some (sg x n, σ) := by
  unfold f_X4_signOf sg
  have h : (Int32.ofNat n = 1) ↔ n = 1 := n_eq (m := 1) (by omega) (by omega)
  simp only [h]
  repeat' (first | rfl | split)
theorem x_wordOf {p e : Nat} (T : CB b L σ) (hp : p < e) (he : e ≤ L) : wp (f_X4_wordOf 3 (Int32.ofNat p) (Int32.ofNat e) σ) (fun r => WV b p e r.1 ∧ r.2 = σ) := by
  have hL := T.1
  unfold f_X4_wordOf f_X4_wordOf_11
  refine wp_lp (fun m v τ => τ = σ ∧ ∃ k i, k ≤ 20 ∧ (∀ j, j < k → ¬ mt b p e j) ∧ i ≤ wml k ∧ m = 122 - (wms k + i) ∧ v.1 = Int32.ofNat k ∧ v.2.1 = Int32.ofNat (p + i) ∧ v.2.2.2 = Int32.ofNat (wms k + i) ∧
    ((v.2.2.1 = 1 ∧ p + i ≤ e ∧ ∀ j, j < i → b (p + j) = wch (Int32.ofNat (wms k + j))) ∨ (v.2.2.1 = 0 ∧ ¬ mt b p e k))) ?_ lpN 122 _ _ (by decide) ⟨rfl, 0, 0, by omega, fun j q => by omega, by omega, rfl, rfl, rfl, rfl, Or.inl ⟨rfl, by omega, fun j q => by omega⟩⟩
  rintro m rec ⟨v1, v2, v3, v4⟩ τ ⟨rfl, k, i, hk, hno, hi, rfl, e1, e2, e4, hv⟩ hrec
  dsimp only at e1 e2 e4 hv ⊢
  subst e1 e2 e4
  by_cases k20 : k = 20
  · subst k20
    have i0 : i = 0 := by have : wml 20 = 0 := by decide
                          omega
    subst i0
    rw [if_pos (by decide), wp_some]
    exact ⟨Or.inr ⟨rfl, fun j hj => hno j hj⟩, rfl⟩
  · obtain ⟨w1, w2, w3, w4, w5, w6, w7⟩ := w_tab k (by omega)
    have nx : ∀ s : Int32, ¬ mt b p e k → wp (rec (Int32.ofNat (k + 1), Int32.ofNat p, 1, Int32.ofNat (wms k + wml k + 1)) τ) (fun r => WV b p e r.1 ∧ r.2 = τ) := by
      intro s hm
      refine hrec (122 - (wms (k + 1) + 0)) _ _ (by omega) ⟨rfl, k + 1, 0, by omega, fun j hj => ?_, by omega, rfl, rfl, rfl, ?_, Or.inl ⟨rfl, by omega, fun j q => by omega⟩⟩
      · by_cases c : j = k
        · rw [c]; exact hm
        · exact hno j (by omega)
      · show Int32.ofNat (wms k + wml k + 1) = _; rw [w1]
    rw [if_neg (by rw [show (122 : Int32) = Int32.ofNat 122 from rfl, n_le (by omega) (by omega)]; omega), gd_n (by omega) (by omega), lt_eq]
    by_cases ci : i = wml k
    · subst ci
      rw [w2, if_pos rfl]
      unfold f_X4_wordOf_89
      simp only [lt_eq, n_addI]
      rcases hv with ⟨rfl, h1, h2⟩ | ⟨rfl, h1⟩
      · rw [if_neg (by decide)]
        simp (disch := omega) only [n_eq]
        by_cases ce : p + wml k = e
        · rw [if_pos ce, wp_some]
          exact ⟨Or.inl ⟨k, by omega, ⟨ce, h2⟩, rfl⟩, rfl⟩
        · rw [if_neg ce]
          exact nx 0 (fun q => ce q.1)
      · rw [if_pos rfl]
        exact nx 0 h1
    · have hl := w7 i (by omega)
      have n32 : ¬ (wch (Int32.ofNat (wms k + i)) = 32) := fun q => by rw [q] at hl; exact absurd hl (by decide)
      rw [if_neg n32]
      unfold f_X4_wordOf_68
      simp only [lt_eq, n_addI]
      have bad : ¬ mt b p e k → wp (rec (Int32.ofNat k, Int32.ofNat (p + i + 1), 0, Int32.ofNat (wms k + i + 1)) τ) (fun r => WV b p e r.1 ∧ r.2 = τ) := fun hm =>
        hrec (122 - (wms k + (i + 1))) _ _ (by omega) ⟨rfl, k, i + 1, hk, hno, by omega, rfl, rfl, rfl, rfl, Or.inr ⟨rfl, hm⟩⟩
      rcases hv with ⟨rfl, h1, h2⟩ | ⟨rfl, h1⟩
      · rw [if_neg (by decide)]
        simp (disch := omega) only [n_le]
        by_cases ce : e ≤ p + i
        · rw [if_pos ce]
          exact bad (fun q => by have := q.1; omega)
        · rw [if_neg ce, gd_n (by omega) (by omega), n_idx (by omega), T.2.2]
          by_cases cb : b (p + i) = wch (Int32.ofNat (wms k + i))
          · rw [if_pos cb]
            refine hrec (122 - (wms k + (i + 1))) _ _ (by omega) ⟨rfl, k, i + 1, hk, hno, by omega, rfl, rfl, rfl, rfl, Or.inl ⟨rfl, by omega, fun j hj => ?_⟩⟩
            by_cases c : j = i
            · rw [c]; exact cb
            · exact h2 j (by omega)
          · rw [if_neg cb]
            exact bad (fun q => cb (q.2 i (by omega)))
      · rw [if_pos rfl]
        exact bad h1
end
