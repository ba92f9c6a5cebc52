/-! numbers and words, in step; the two readers' states -/
def fl (p : Nat) (w : Int32) : Int32 := ((1 : Int32) + ((8 : Int32) * Int32.ofNat p)) + w
theorem fl_0 {p w : Nat} (hp : p ≤ 400) (hw : w < 8) : fl p (Int32.ofNat w) ≠ 0 := by
  unfold fl
  rw [show (1 : Int32) = Int32.ofNat 1 from rfl, show (8 : Int32) = Int32.ofNat 8 from rfl, n_mul, n_add, n_add, Ne, n_zero (by omega)]; omega
def RG (t : Nat) (B : Nat → Int32) (f : Int32) (s : mm_S) : Prop := s.1 214 9 = f ∧ ∀ j, j < 400 * t → s.1 216 j = B j
def RF (t : Nat) (B : Nat → Int32) (x : Option (Int32 × mm_S)) (f : Int32) : Prop := wp x (fun r => r.1 = 0 ∧ RG t B f r.2)
theorem r_fails {ρ : mm_S} {w : Int32} {p : Nat} (h : ρ.1 214 9 = 0) : f_X10_fails 214 w (Int32.ofNat p) ρ = some (0, su_i ρ 214 9 (fl p w)) := by
  unfold f_X10_fails; rw [if_pos h]; rfl
theorem gb_0 {α : Type} {y : Option α} : gb 0 y = y := if_pos (Or.inl rfl)
theorem gb_1 {α : Type} {y : Option α} : gb 1 y = y := if_pos (Or.inr rfl)
section
variable {b : Nat → Int32} {L p e q : Nat} {kd vl : Int32} {ρ : mm_S}
theorem t_word {k : Nat} (hk : k < 20) (T : TP b L ρ) (hq : q ≤ L) (e8 : ρ.1 214 8 = Int32.ofNat q) (hp : sk b L q = p) (t : TK b L p kd vl e) : f_X10_isWord 214 (WK k) ρ = some (if kd = 1 ∧ vl = Int32.ofNat k then 1 else 0, mv ρ p) := by
  rw [r_isWord (WK k) T hq e8 hp.symm rfl]
  have e1 := ed_le isl b L p
  rcases t with ⟨rfl, rfl, -, -⟩ | ⟨h1, h2, rfl, h3, h4⟩ | ⟨h1, h2, rfl, -, -⟩ | ⟨h1, h2, h3, h4, rfl, -, -⟩
  · rw [if_neg (by rw [ed_no (by omega)]; omega), if_neg (fun q => absurd q.1 (by decide))]
  · rw [h3] at h4
    have i1 := mt_iff (b := b) (L := L) (p := p) hk rfl
    have i2 := WV_iff hk h4
    by_cases c : vl = Int32.ofNat k
    · rw [if_pos (i1.mpr (i2.mp c)), if_pos ⟨rfl, c⟩]
    · rw [if_neg (fun q => c (i2.mpr (i1.mp q))), if_neg (fun q => c q.2)]
  · rw [if_neg (by rw [ed_no (fun q => by have q1 := of_decide_eq_true q.2; have q2 := of_decide_eq_true h2; omega)]; omega), if_neg (fun q => absurd q.1 (by decide))]
  · rw [if_neg (by rw [ed_no (fun q => by rw [h2] at q; exact absurd q.2 (by decide))]; omega), if_neg (fun q => absurd q.1 (by decide))]
theorem t_digit (T : TP b L ρ) (t : TK b L p kd vl e) : f_X10_isDigit 214 (Int32.ofNat p) ρ = some (if kd = 2 then 1 else 0, ρ) := by
  have hL := T.1
  have te := TK_e t
  rw [r_isDigit p T (by omega)]
  rcases t with ⟨rfl, rfl, -, -⟩ | ⟨h1, h2, rfl, h3, h4⟩ | ⟨h1, h2, rfl, -, -⟩ | ⟨h1, h2, h3, h4, rfl, -, -⟩
  · rw [if_neg (by omega), if_neg (by decide)]
  · rw [if_neg (fun q => by have q1 := of_decide_eq_true q.2; have q2 := of_decide_eq_true h2; omega), if_neg (by decide)]
  · rw [if_pos ⟨h1, h2⟩, if_pos rfl]
  · rw [if_neg (fun q => by rw [h3] at q; exact absurd q.2 (by decide)), if_neg (by decide)]
theorem t_number (T : TP b L ρ) (hq : q ≤ L) (e8 : ρ.1 214 8 = Int32.ofNat q) (hp : sk b L q = p) (t : TK b L p 2 vl e) (w0 : ρ.1 214 9 = 0) (low high : Int32) (hl : 0 ≤ low) :
    ((vl < low ∨ high < vl) ∧ ∃ x, f_X10_numberHere 214 low high ρ = some (0, su_i (su_i (mv ρ e) 214 10 x) 214 9 (fl p 1))) ∨ (¬ (vl < low ∨ high < vl) ∧ f_X10_numberHere 214 low high ρ = some (1, su_i (mv ρ e) 214 10 vl)) := by
  have hL := T.1
  have te := TK_e t
  have tt := t
  rcases t with ⟨-, h, -, -⟩ | ⟨-, -, h, -⟩ | ⟨h1, h2, -, h3, h4⟩ | ⟨-, -, -, -, h, -, -⟩
  · exact absurd h (by decide)
  · exact absurd h (by decide)
  · have ein : ∀ i, p ≤ i → i < e → i < L ∧ isd (b i) = true := fun i q1 q2 => ed_in isd b (L := L) (i := p) q1 (by omega)
    have eno : ¬ (e < L ∧ isd (b e) = true) := by rw [h3]; exact ed_at isd b L p
    have key : f_X10_numberHere_34 214 low high (Int32.ofNat p) 0 (mv ρ p) = if vl < low ∨ high < vl then some (0, su_i (su_i (mv ρ e) 214 10 (Int32.ofNat (nv b p (min (e - p) 5)))) 214 9 (fl p 1)) else some (1, su_i (mv ρ e) 214 10 (Int32.ofNat (nv b p (min (e - p) 5)))) := by
      have red : ∀ (A B : Int32 × mm_S), (if vl < low ∨ high < vl then some A else some B) = some (if vl < low ∨ high < vl then A else B) := fun A B => by split <;> rfl
      rw [red]
      unfold f_X10_numberHere_34
      refine wp_eq (wp_lp (fun m v τ => ∃ i, p ≤ i ∧ i ≤ e ∧ m = e - i ∧ τ = mv ρ i ∧ v = Int32.ofNat (nv b p (min (i - p) 5))) ?_ lpN (e - p) _ _ (Nat.lt_of_le_of_lt (show e - p ≤ 400 by omega) (by decide)) ⟨p, by omega, by omega, rfl, rfl, by rw [show min (p - p) 5 = 0 by omega]; rfl⟩)
      rintro m rec v τ ⟨i, i1, i2, rfl, rfl, rfl⟩ hrec
      rw [mv_8, r_isDigit i (TP_mv i T) (by omega), bd_s]
      by_cases c : i = e
      · subst c
        rw [if_neg eno, if_pos rfl, lt_eq, rd_ik _ _ _ _ _ _ (by omega), mv_8, n_sub (by omega), show (5 : Int32) = Int32.ofNat 5 from rfl]
        simp (disch := omega) only [n_lt]
        have w1 : (su_i (mv ρ i) 214 10 (Int32.ofNat (nv b p (min (i - p) 5)))).1 214 9 = 0 := by rw [rd_ik _ _ _ _ _ _ (by omega), mv_o _ _ (by omega)]; exact w0
        have bad : ∀ (P : Prop), vl < low ∨ high < vl → wp (f_X10_numberHere_117 214 (Int32.ofNat p) (su_i (mv ρ i) 214 10 (Int32.ofNat (nv b p (min (i - p) 5))))) (fun r => r = if vl < low ∨ high < vl then (0, su_i (su_i (mv ρ i) 214 10 (Int32.ofNat (nv b p (min (i - p) 5)))) 214 9 (fl p 1)) else (1, su_i (mv ρ i) 214 10 (Int32.ofNat (nv b p (min (i - p) 5))))) := by
          intro _ hb
          unfold f_X10_numberHere_117
          rw [r_fails w1, bd_s, if_pos rfl, wp_some, if_pos hb]
        by_cases c5 : 5 < i - p
        · rw [if_pos c5]
          refine bad True (Or.inl ?_)
          rw [h4]; unfold nw; rw [if_neg (by omega)]
          rw [Int32.lt_iff_toInt_lt, show (-1 : Int32).toInt = -1 by decide]
          rw [Int32.le_iff_toInt_le, show (0 : Int32).toInt = 0 by decide] at hl
          omega
        · have hv : vl = Int32.ofNat (nv b p (min (i - p) 5)) := by rw [h4]; unfold nw; rw [if_pos (by omega), show min (i - p) 5 = i - p by omega]
          rw [if_neg c5, r_in, bd_s, ← hv]
          by_cases cb : vl < low ∨ high < vl
          · rw [if_pos cb, if_pos rfl]; rw [← hv] at bad; exact bad True cb
          · rw [if_neg cb, if_neg (by decide), wp_some, if_neg cb]
      · have hd := ein i i1 (by omega)
        rw [if_pos hd, if_neg (by decide), mv_8, n_sub (by omega), show (5 : Int32) = Int32.ofNat 5 from rfl]
        simp (disch := omega) only [n_le]
        unfold f_X10_numberHere_75
        rw [mv_8]
        simp only [lt_eq]
        rw [show Int32.ofNat i + 1 = Int32.ofNat (i + 1) from n_add i 1]
        by_cases c5 : 5 ≤ i - p
        · rw [if_pos c5]
          exact hrec (e - (i + 1)) _ _ (by omega) ⟨i + 1, by omega, by omega, rfl, mv_mv _ _ _, by rw [show min (i - p) 5 = 5 by omega, show min (i + 1 - p) 5 = 5 by omega]⟩
        · rw [if_neg c5, gd_n (by omega) (by omega), n_idx (by omega), mv_o _ _ (by omega), T.2.2, dg_step' hd.2]
          refine hrec (e - (i + 1)) _ _ (by omega) ⟨i + 1, by omega, by omega, rfl, mv_mv _ _ _, ?_⟩
          rw [show min (i - p) 5 = i - p by omega, show min (i + 1 - p) 5 = (i - p) + 1 by omega]
          show _ = Int32.ofNat (10 * nv b p (i - p) + dg (b (p + (i - p))))
          rw [show p + (i - p) = i by omega]
    have all : f_X10_numberHere 214 low high ρ = f_X10_numberHere_34 214 low high (Int32.ofNat p) 0 (mv ρ p) := by
      unfold f_X10_numberHere
      rw [r_see T hq e8, bd_s, hp, mv_8, t_digit (TP_mv p T) tt, bd_s, if_pos rfl, if_neg (by decide), lt_eq, mv_8]
    rw [all, key]
    by_cases cb : vl < low ∨ high < vl
    · rw [if_pos cb]; exact Or.inl ⟨cb, _, rfl⟩
    · rw [if_neg cb]
      refine Or.inr ⟨cb, ?_⟩
      have c5 : e - p ≤ 5 := by
        rcases Nat.lt_or_ge 5 (e - p) with c | c
        · exfalso; apply cb; left
          rw [h4]; unfold nw; rw [if_neg (by omega)]
          rw [Int32.lt_iff_toInt_lt, show (-1 : Int32).toInt = -1 by decide]
          rw [Int32.le_iff_toInt_le, show (0 : Int32).toInt = 0 by decide] at hl
          omega
        · exact c
      have hv : vl = Int32.ofNat (nv b p (min (e - p) 5)) := by rw [h4]; unfold nw; rw [if_pos (by omega), show min (e - p) 5 = e - p by omega]
      rw [← hv]
  · exact absurd h (by decide)
end
