/-! clauses of a HOUSE in step -/
def O3 (σ τ : mm_S) : Prop := ∀ a k, a ≠ 3 → τ.1 a k = σ.1 a k
def O4 (ρ υ : mm_S) : Prop := ∀ a k, ¬ (a = 214 ∧ (k = 8 ∨ k = 10)) → υ.1 a k = ρ.1 a k
def NZ (b : Nat → Int32) (L : Nat) (ρ : mm_S) (q : Nat) : Prop := TP b L ρ ∧ q ≤ L ∧ ρ.1 214 8 = Int32.ofNat q ∧ ρ.1 214 9 = 0
def RFh (X : Option (Int32 × mm_S)) (f : Int32) : Prop := wp X (fun r => r.1 = 0 ∧ r.2.1 214 9 = f)
def FH (b : Nat → Int32) (L : Nat) (f : Int32) (σ : mm_S) : Prop := (∃ p kd vl e, CP b L σ p kd vl e) ∧ σ.1 3 9 = f ∧ f ≠ 0 ∧ ∃ n, n ≤ 6 ∧ σ.1 7 3 = Int32.ofNat n
def HXr (n : Nat) (σ ρ : mm_S) : Prop := (ρ.1 220 1 = σ.1 7 1 ∧ ρ.1 220 2 = σ.1 7 2 ∧ ρ.1 220 3 = Int32.ofNat n ∧ σ.1 7 3 = Int32.ofNat n ∧ ρ.1 220 89 = σ.1 7 4) ∧ (∀ l, l < 6 → ρ.1 220 (41 + l) = σ.1 8 l ∧ ρ.1 220 (47 + l) = σ.1 9 l) ∧ (∀ l, l < 36 → ρ.1 220 (53 + l) = σ.1 10 l) ∧
  (∃ s, s ≤ 9 ∧ σ.1 7 1 = Int32.ofNat s) ∧ (∃ s, s ≤ 7 ∧ σ.1 7 2 = Int32.ofNat s) ∧ (∀ l, l < 6 → ∃ t, t ≤ 99 ∧ σ.1 8 l = Int32.ofNat t) ∧ (∀ l, l < 6 → ∃ t, t ≤ 999 ∧ σ.1 9 l = Int32.ofNat t) ∧ ∀ l, n ≤ l → l < 6 → σ.1 8 l = 0
theorem HXr_keep {n : Nat} {σ τ ρ υ : mm_S} (h : HXr n σ ρ) (g : ag (fun a k => (a = 7 ∧ 1 ≤ k) ∨ a = 8 ∨ a = 9 ∨ a = 10) σ τ) (g' : ag (fun a k => a = 220 ∧ 1 ≤ k) ρ υ) : HXr n τ υ := by
  obtain ⟨⟨h1, h2, h3, h3', h4⟩, h5, h6, h7, h8, h9, h10, h11⟩ := h
  unfold HXr
  rw [g' 220 1 (by omega), g' 220 2 (by omega), g' 220 3 (by omega), g' 220 89 (by omega), g 7 1 (by omega), g 7 2 (by omega), g 7 3 (by omega), g 7 4 (by omega)]
  refine ⟨⟨h1, h2, h3, h3', h4⟩, fun l hl => ?_, fun l hl => ?_, h7, h8, fun l hl => ?_, fun l hl => ?_, fun l h1 hl => ?_⟩
  · rw [g' _ _ (by omega), g' _ _ (by omega), g 8 l (by omega), g 9 l (by omega)]; exact h5 l hl
  · rw [g' _ _ (by omega), g 10 l (by omega)]; exact h6 l hl
  · rw [g 8 l (by omega)]; exact h9 l hl
  · rw [g 9 l (by omega)]; exact h10 l hl
  · rw [g 8 l (by omega)]; exact h11 l h1 hl
section
variable {b : Nat → Int32} {L p e q : Nat} {σ ρ : mm_S} {kd vl f : Int32}
theorem NZ_keep {ρ' : mm_S} (h : NZ b L ρ q) (g : ag (fun a k => (a = 214 ∧ (k = 1 ∨ k = 8 ∨ k = 9)) ∨ a = 215) ρ ρ') : NZ b L ρ' q := by
  obtain ⟨⟨h0, h1, h1'⟩, h2, h3, h4⟩ := h
  exact ⟨⟨h0, (g _ _ (by omega)).trans h1, fun k => (g _ _ (by omega)).trans (h1' k)⟩, h2, (g _ _ (by omega)).trans h3, (g _ _ (by omega)).trans h4⟩
theorem NZ_mv {q' : Nat} (h : NZ b L ρ q) (hq : q' ≤ L) : NZ b L (mv ρ q') q' := ⟨TP_mv _ h.1, hq, mv_8 _ _, (mv_o _ _ (by omega)).trans h.2.2.2⟩
theorem FH_num (h : FH b L f σ) (lo hi but : Int32) : f_X4_readNumber 3 lo hi but σ = some (0, σ) := by
  unfold f_X4_readNumber; rw [if_neg (by rw [h.2.1]; exact h.2.2.1)]
theorem FH_keep {τ : mm_S} (h : FH b L f σ) (g : O3 σ τ ∨ ag (fun a k => a ≠ 7 ∧ a ≠ 8 ∧ a ≠ 9 ∧ a ≠ 10) σ τ) (hc : ∃ p kd vl e, CP b L τ p kd vl e) (h9 : τ.1 3 9 = f) (h73 : ∃ n, n ≤ 6 ∧ τ.1 7 3 = Int32.ofNat n) : FH b L f τ := ⟨hc, h9, h.2.2.1, h73⟩
theorem FH_7 {k : Nat} {x : Int32} (h : FH b L f σ) (hk : k ≠ 3) : FH b L f (su_i σ 7 k x) := by
  obtain ⟨⟨p, kd, vl, e, c⟩, h2, h3, n, hn, h4⟩ := h
  exact ⟨⟨p, kd, vl, e, CP_keep c (ag_i (by omega))⟩, (rd_ia _ _ _ _ _ _ (by omega)).trans h2, h3, n, hn, (rd_ik _ _ _ _ _ _ (by omega)).trans h4⟩
theorem FH_add (h : FH b L f σ) (x y : Int32) : wp (f_X1_addLodger 7 x y σ) (FH b L f) := by
  obtain ⟨⟨p, kd, vl, e, c⟩, h2, h3, n, hn, h4⟩ := h
  unfold f_X1_addLodger
  rw [h4, show (6 : Int32) = Int32.ofNat 6 from rfl]
  simp (disch := omega) only [n_le]
  by_cases c6 : 6 ≤ n
  · rw [if_pos c6, wp_some]; exact ⟨⟨p, kd, vl, e, c⟩, h2, h3, n, hn, h4⟩
  · rw [if_neg c6, gd_n (by omega) (by omega), n_idx (by omega), lt_eq, rd_ia _ _ _ _ _ _ (by omega), h4, gd_n (by omega) (by omega), n_idx (by omega), lt_eq, rd_ia _ _ _ _ _ _ (by omega), rd_ia _ _ _ _ _ _ (by omega), h4, lt_eq, show Int32.ofNat n + 1 = Int32.ofNat (n + 1) from n_add n 1, wp_some]
    refine ⟨⟨p, kd, vl, e, CP_keep c (fun a k q => by rw [rd_ii, if_neg (by omega), rd_ii, if_neg (by omega), rd_ii, if_neg (by omega)])⟩, ?_, h3, n + 1, by omega, rd_is _ _ _ _⟩
    rw [rd_ia _ _ _ _ _ _ (by omega), rd_ia _ _ _ _ _ _ (by omega), rd_ia _ _ _ _ _ _ (by omega)]; exact h2
theorem FH_dear (h : FH b L f σ) (x y z : Int32) : wp (f_X1_setDearness 7 x y z σ) (FH b L f) := by
  obtain ⟨⟨p, kd, vl, e, c⟩, h2, h3, n, hn, h4⟩ := id h
  unfold f_X1_setDearness
  rw [lt_eq]
  by_cases c1 : x * 6 + y < 0
  · rw [if_pos c1, wp_some]; exact h
  · rw [if_neg c1]
    by_cases c2 : Int32.ofNat 36 ≤ x * 6 + y
    · rw [if_pos c2, wp_some]; exact h
    · rw [if_neg c2]
      obtain ⟨j, hj, ej⟩ : ∃ j, j < 36 ∧ x * 6 + y = Int32.ofNat j := by
        rcases isl_cases (n := 36) (by omega) (x * 6 + y) with ⟨l, hl, el⟩ | q
        · exact ⟨l, hl, el⟩
        · exact absurd q (by rintro (q | q); exact c1 q; exact c2 q)
      rw [ej, gd_n (by omega) (by omega), n_idx (by omega), lt_eq, wp_some]
      exact ⟨⟨p, kd, vl, e, CP_keep c (ag_i (by omega))⟩, (rd_ia _ _ _ _ _ _ (by omega)).trans h2, h3, n, hn, (rd_ia _ _ _ _ _ _ (by omega)).trans h4⟩
/-- a number on both sides -/
theorem J_num {n : Nat} (lo hi but : Int32) (hlo : 0 ≤ lo) (c : CP b L σ p kd vl e) (f0 : σ.1 3 9 = 0) (hn : n ≤ 6) (h73 : σ.1 7 3 = Int32.ofNat n) (ns : NZ b L ρ q) (hs : sk b L q = p) :
    (∃ f σ', f_X4_readNumber 3 lo hi but σ = some (0, σ') ∧ FH b L f σ' ∧ RFh (f_X10_numberHere 214 lo hi ρ) f) ∨
    (¬ (vl < lo ∨ hi < vl) ∧ ∃ ρ', f_X10_numberHere 214 lo hi ρ = some (1, ρ') ∧ NZ b L ρ' e ∧ ρ'.1 214 10 = vl ∧ O4 ρ ρ' ∧
      ((vl = but ∧ ∃ σ', f_X4_readNumber 3 lo hi but σ = some (0, σ') ∧ FH b L (fl p 1) σ') ∨ (vl ≠ but ∧ ∃ σ' kd' vl' e', f_X4_readNumber 3 lo hi but σ = some (vl, σ') ∧ CP b L σ' (sk b L e) kd' vl' e' ∧ p < sk b L e ∧ σ'.1 3 9 = 0 ∧ O3 σ σ'))) := by
  have T := CP_TK c
  have te := TK_e T
  have cc := CP_c c
  have hL := cc.2.2.2
  have fail : ∀ w, w < 8 → f_X4_fail 3 (Int32.ofNat w) σ = some (su_i σ 3 9 (fl p (Int32.ofNat w))) ∧ FH b L (fl p (Int32.ofNat w)) (su_i σ 3 9 (fl p (Int32.ofNat w))) := by
    intro w hw
    refine ⟨?_, ⟨⟨p, kd, vl, e, CP_keep c (ag_i (by omega))⟩, rd_is _ _ _ _, fl_0 (by omega) hw, n, hn, (rd_ia _ _ _ _ _ _ (by omega)).trans h73⟩⟩
    unfold f_X4_fail; rw [if_pos f0, cc.2.2.1]; rfl
  have f1 := fail 1 (by omega)
  have f0' := fail 0 (by omega)
  rw [show (Int32.ofNat 1) = 1 from rfl] at f1
  rw [show (Int32.ofNat 0) = 0 from rfl] at f0'
  unfold f_X4_readNumber
  rw [if_pos f0, lt_eq, cc.1, cc.2.1]
  by_cases k2 : kd = 2
  · rw [if_pos k2]
    subst k2
    have hp : p < L := by rcases T with ⟨-, h, -⟩ | ⟨h, -⟩ | ⟨h, -⟩ | ⟨h, -⟩ <;> first | exact h | exact absurd h (by decide)
    rcases t_number ns.1 ns.2.1 ns.2.2.1 hs T ns.2.2.2 lo hi hlo with ⟨cr, x, en1⟩ | ⟨cr, en1⟩
    · left
      refine ⟨fl p 1, su_i σ 3 9 (fl p 1), ?_, f1.2, ?_⟩
      · by_cases v1 : vl < lo
        · rw [if_pos v1, f1.1, bv_s]
        · rw [if_neg v1, if_pos (cr.resolve_left v1), f1.1, bv_s]
      · rw [en1]; exact wp_some.mpr ⟨rfl, rd_is _ _ _ _⟩
    · right
      refine ⟨cr, _, en1, ?_, rd_is _ _ _ _, fun a k q => ?_, ?_⟩
      · exact NZ_keep (NZ_mv ns te.2.1) (ag_i (by omega))
      · rw [rd_ii, if_neg (by omega), mv_o _ _ (by omega)]
      · rw [if_neg (fun q => cr (Or.inl q)), if_neg (fun q => cr (Or.inr q))]
        by_cases vb : vl = but
        · exact Or.inl ⟨vb, su_i σ 3 9 (fl p 1), by rw [if_pos vb, f1.1, bv_s], f1.2⟩
        · obtain ⟨i, kd', vl', e', s1, s2⟩ := x_step c hp
          refine Or.inr ⟨vb, st σ i, kd', vl', e', by rw [if_neg vb, s1, bv_s], s2, Nat.lt_of_lt_of_le (te.2.2.2 hp) (ed_le isb b L e), (st_o _ _ (by omega)).trans f0, fun a k q => st_o _ _ (by omega)⟩
  · left
    rw [if_neg k2, f0'.1, bv_s]
    refine ⟨fl p 0, _, rfl, f0'.2, ?_⟩
    unfold f_X10_numberHere
    rw [r_see ns.1 ns.2.1 ns.2.2.1, hs, bd_s, mv_8, t_digit (TP_mv p ns.1) T, bd_s, if_neg k2, if_pos rfl, mv_8, r_fails (NZ_mv ns te.1).2.2.2, bd_s, gb_0]
    exact wp_some.mpr ⟨rfl, rd_is _ _ _ _⟩
def KOh (b : Nat → Int32) (L N p : Nat) (X : Option (Int32 × mm_S)) (σ' : mm_S) : Prop :=
  (∃ f, FH b L f σ' ∧ RFh X f) ∨ (∃ ρ' n' q' p' kd' vl' e', X = some (1, ρ') ∧ CP b L σ' p' kd' vl' e' ∧ σ'.1 3 9 = 0 ∧ σ'.1 7 0 = 0 ∧ NZ b L ρ' q' ∧ sk b L q' = p' ∧ p < p' ∧ n' ≤ 6 ∧ HXr n' σ' ρ' ∧ ρ'.1 220 0 = 1 ∧ ρ'.1 214 11 = 6 ∧ ρ'.1 214 14 = Int32.ofNat N)
/-- a cell of the reference's row of what is read -/
theorem r_cell0 {c lo hi : Int32} {f : Int32} (h : RFh (f_X10_numberHere 214 lo hi ρ) f) : RFh (f_X10_cellHere 214 c lo hi ρ) f := by
  obtain ⟨⟨r, s⟩, er, r0, r9⟩ := h
  dsimp only at r0 r9
  unfold f_X10_cellHere
  rw [er, bd_s, if_pos r0]; exact wp_some.mpr ⟨rfl, r9⟩
theorem r_cell1 {c : Nat} {lo hi : Int32} {ρ' : mm_S} (hc : c < 90) (h : f_X10_numberHere 214 lo hi ρ = some (1, ρ')) : f_X10_cellHere 214 (Int32.ofNat c) lo hi ρ = some (1, su_i ρ' 220 c (ρ'.1 214 10)) := by
  unfold f_X10_cellHere
  rw [h, bd_s, if_neg (show ¬ ((1 : Int32) = 0) by decide), gd_n hc (by omega), n_idx (by omega), lt_eq]
theorem rng {v lo hi : Nat} {vl : Int32} (hl : lo < 2147483648) (hh : hi < 2147483648) (h : ¬ (vl < Int32.ofNat lo ∨ Int32.ofNat hi < vl)) : ∃ t, lo ≤ t ∧ t ≤ hi ∧ vl = Int32.ofNat t := by
  rcases in_cases lo hi hl hh vl with ⟨w, h1, h2, h3⟩ | q
  · exact ⟨w, h1, h2, h3⟩
  · exact absurd q h
end
