/-! the states of both readers of a RULE -/
def JC (b : Nat → Int32) (L a m : Nat) (C : List Int32) (σ : mm_S) (p : Nat) (kd vl : Int32) (e : Nat) : Prop :=
  CP b L σ p kd vl e ∧ σ.1 3 9 = 0 ∧ σ.1 3 10 = Int32.ofNat m ∧ σ.1 a 1 = Int32.ofNat C.length ∧ ∀ i, i < C.length → σ.1 (a + 1) i = C.getD i 0
def JR (b : Nat → Int32) (L t : Nat) (B : Nat → Int32) (m : Nat) (R : List Int32) (ρ : mm_S) (q : Nat) : Prop :=
  TP b L ρ ∧ q ≤ L ∧ ρ.1 214 8 = Int32.ofNat q ∧ ρ.1 214 9 = 0 ∧ ρ.1 214 12 = Int32.ofNat m ∧ ρ.1 214 11 = Int32.ofNat t ∧ ρ.1 217 t = Int32.ofNat R.length ∧
  (∀ i, i < R.length → ρ.1 216 (400 * t + i) = R.getD i 0) ∧ ∀ j, j < 400 * t → ρ.1 216 j = B j
def FV (b : Nat → Int32) (L a : Nat) (f : Int32) (σ : mm_S) : Prop := (∃ p kd vl e, CP b L σ p kd vl e) ∧ σ.1 3 9 = f ∧ f ≠ 0 ∧ ∃ c, c ≤ 400 ∧ σ.1 a 1 = Int32.ofNat c
theorem CP_TK {b : Nat → Int32} {L p e : Nat} {kd vl : Int32} {σ : mm_S} (h : CP b L σ p kd vl e) : TK b L p kd vl e := by
  obtain ⟨N, i, -, -, -, -, -, -, h, -⟩ := h; exact h
theorem CP_c {b : Nat → Int32} {L p e : Nat} {kd vl : Int32} {σ : mm_S} (h : CP b L σ p kd vl e) : σ.1 3 6 = kd ∧ σ.1 3 7 = vl ∧ σ.1 3 8 = Int32.ofNat p ∧ L ≤ 400 := by
  obtain ⟨N, i, h0, -, -, h1, h2, h3, h, -⟩ := h; exact ⟨h1, h2, h3, h0.1.1⟩
section
variable {b : Nat → Int32} {L a m p e : Nat} {C : List Int32} {σ : mm_S} {kd vl f : Int32}
theorem JC_step (ha : 14 ≤ a) (h : JC b L a m C σ p kd vl e) (hp : p < L) : ∃ σ' kd' vl' e', f_X4_step 3 σ = some σ' ∧ JC b L a m C σ' (sk b L e) kd' vl' e' := by
  obtain ⟨h1, h2, h3, h4, h5⟩ := h
  obtain ⟨i, kd', vl', e', s1, s2⟩ := x_step h1 hp
  refine ⟨_, kd', vl', e', s1, s2, ?_, ?_, ?_, fun j hj => ?_⟩
  · rw [st_o _ _ (by omega)]; exact h2
  · rw [st_o _ _ (by omega)]; exact h3
  · rw [st_o _ _ (by omega)]; exact h4
  · rw [st_o _ _ (by omega)]; exact h5 j hj
theorem FV_step (ha : 14 ≤ a) (h : FV b L a f σ) : wp (f_X4_step 3 σ) (FV b L a f) := by
  obtain ⟨⟨p, kd, vl, e, h1⟩, h2, h3, c, h4, h5⟩ := h
  have te := TK_e (CP_TK h1)
  by_cases hp : p < L
  · obtain ⟨i, kd', vl', e', s1, s2⟩ := x_step h1 hp
    rw [s1, wp_some]
    exact ⟨⟨_, _, _, _, s2⟩, (st_o _ _ (by omega)).trans h2, h3, c, h4, (st_o _ _ (by omega)).trans h5⟩
  · rw [x_stepE h1 (by omega), wp_some]
    exact ⟨⟨_, _, _, _, h1⟩, h2, h3, c, h4, h5⟩
theorem JC_fail (ha : 14 ≤ a) (h : JC b L a m C σ p kd vl e) (hC : C.length ≤ 400) {w : Nat} (hw : w < 8) : ∃ σ', f_X4_fail 3 (Int32.ofNat w) σ = some σ' ∧ FV b L a (fl p (Int32.ofNat w)) σ' ∧ σ'.1 3 6 = kd ∧ σ'.1 3 7 = vl := by
  obtain ⟨h1, h2, h3, h4, h5⟩ := h
  have te := TK_e (CP_TK h1)
  have cc := CP_c h1
  refine ⟨su_i σ 3 9 (fl p (Int32.ofNat w)), ?_, ⟨⟨p, kd, vl, e, CP_keep h1 (ag_i (by omega))⟩, rd_is _ _ _ _, fl_0 (by omega) hw, C.length, hC, ?_⟩, ?_, ?_⟩
  · unfold f_X4_fail; rw [if_pos h2, cc.2.2.1]; rfl
  · rw [rd_ia _ _ _ _ _ _ (by omega)]; exact h4
  · rw [rd_ik _ _ _ _ _ _ (by omega)]; exact cc.1
  · rw [rd_ik _ _ _ _ _ _ (by omega)]; exact cc.2.1
theorem FV_fail (h : FV b L a f σ) (w : Int32) : f_X4_fail 3 w σ = some σ := by
  unfold f_X4_fail; rw [if_neg (by rw [h.2.1]; exact h.2.2.1)]
theorem FV_add (ha : 14 ≤ a) (h : FV b L a f σ) (x : Int32) : wp (f_X5_add a x σ) (FV b L a f) := by
  obtain ⟨⟨p, kd, vl, e, h1⟩, h2, h3, c, h4, h5⟩ := h
  unfold f_X5_add
  rw [h5]
  simp (disch := omega) only [n_le]
  by_cases q : 400 ≤ c
  · rw [if_pos q, wp_some]; exact ⟨⟨_, _, _, _, h1⟩, h2, h3, c, h4, h5⟩
  · rw [if_neg q, gd_n (by omega) (by omega), n_idx (by omega), lt_eq, lt_eq, wp_some, rd_ia _ _ _ _ _ _ (by omega), h5, show Int32.ofNat c + 1 = Int32.ofNat (c + 1) from n_add c 1]
    refine ⟨⟨p, kd, vl, e, CP_keep h1 (fun a' k' q => ?_)⟩, ?_, h3, c + 1, by omega, rd_is _ _ _ _⟩
    · rw [rd_ia _ _ _ _ _ _ (by omega), rd_ia _ _ _ _ _ _ (by omega)]
    · rw [rd_ia _ _ _ _ _ _ (by omega), rd_ia _ _ _ _ _ _ (by omega)]; exact h2
theorem FV_count (ha : 14 ≤ a) (h : FV b L a f σ) : wp (f_X4_countPart 3 σ) (FV b L a f) := by
  obtain ⟨⟨p, kd, vl, e, h1⟩, h2, h3, c, h4, h5⟩ := h
  unfold f_X4_countPart
  rw [lt_eq]
  have F : FV b L a f (su_i σ 3 10 (σ.1 3 10 + 1)) := ⟨⟨p, kd, vl, e, CP_keep h1 (ag_i (by omega))⟩, (rd_ik _ _ _ _ _ _ (by omega)).trans h2, h3, c, h4, (rd_ia _ _ _ _ _ _ (by omega)).trans h5⟩
  split
  · rw [wp_some]; exact F
  · rw [FV_fail F, bv_s, wp_some]; exact F
theorem JC_add (ha : 14 ≤ a) (h : JC b L a m C σ p kd vl e) (hC : C.length < 400) (x : Int32) : ∃ σ', f_X5_add a x σ = some σ' ∧ JC b L a m (C ++ [x]) σ' p kd vl e := by
  obtain ⟨h1, h2, h3, h4, h5⟩ := h
  unfold f_X5_add
  rw [h4]
  simp (disch := omega) only [n_le]
  rw [if_neg (by omega), gd_n (by omega) (by omega), n_idx (by omega), lt_eq, lt_eq, rd_ia _ _ _ _ _ _ (by omega), h4, show Int32.ofNat C.length + 1 = Int32.ofNat (C.length + 1) from n_add _ 1]
  refine ⟨_, rfl, CP_keep h1 (fun a' k' q => ?_), ?_, ?_, ?_, fun i hi => ?_⟩
  · rw [rd_ia _ _ _ _ _ _ (by omega), rd_ia _ _ _ _ _ _ (by omega)]
  · rw [rd_ia _ _ _ _ _ _ (by omega), rd_ia _ _ _ _ _ _ (by omega)]; exact h2
  · rw [rd_ia _ _ _ _ _ _ (by omega), rd_ia _ _ _ _ _ _ (by omega)]; exact h3
  · rw [rd_is, List.length_append]; rfl
  · rw [rd_ia _ _ _ _ _ _ (by omega)]
    rw [List.length_append, List.length_singleton] at hi
    by_cases c : i = C.length
    · subst c; rw [rd_is, List.getD_eq_getElem?_getD, List.getElem?_append_right (Nat.le_refl _), Nat.sub_self]; rfl
    · rw [rd_ik _ _ _ _ _ _ c, h5 i (by omega), List.getD_eq_getElem?_getD, List.getD_eq_getElem?_getD, List.getElem?_append_left (by omega)]
theorem JC_count (ha : 14 ≤ a) (h : JC b L a m C σ p kd vl e) (hm : m < 60) : ∃ σ', f_X4_countPart 3 σ = some σ' ∧ JC b L a (m + 1) C σ' p kd vl e := by
  obtain ⟨h1, h2, h3, h4, h5⟩ := h
  unfold f_X4_countPart
  rw [lt_eq, h3, show Int32.ofNat m + 1 = Int32.ofNat (m + 1) from n_add m 1, rd_is, if_pos (by rw [show (60 : Int32) = Int32.ofNat 60 from rfl, n_le (by omega) (by omega)]; omega)]
  refine ⟨_, rfl, CP_keep h1 (ag_i (by omega)), (rd_ik _ _ _ _ _ _ (by omega)).trans h2, rd_is _ _ _ _, (rd_ia _ _ _ _ _ _ (by omega)).trans h4, fun i hi => (rd_ia _ _ _ _ _ _ (by omega)).trans (h5 i hi)⟩
theorem JC_count0 (ha : 14 ≤ a) (h : JC b L a 60 C σ p kd vl e) (hC : C.length ≤ 400) : ∃ σ', f_X4_countPart 3 σ = some σ' ∧ FV b L a (fl p 3) σ' ∧ σ'.1 3 6 = kd ∧ σ'.1 3 7 = vl := by
  obtain ⟨h1, h2, h3, h4, h5⟩ := h
  unfold f_X4_countPart
  rw [lt_eq, h3, rd_is, if_neg (by decide)]
  have J : JC b L a 61 C (su_i σ 3 10 (Int32.ofNat 60 + 1)) p kd vl e := ⟨CP_keep h1 (ag_i (by omega)), (rd_ik _ _ _ _ _ _ (by omega)).trans h2, rd_is _ _ _ _, (rd_ia _ _ _ _ _ _ (by omega)).trans h4, fun i hi => (rd_ia _ _ _ _ _ _ (by omega)).trans (h5 i hi)⟩
  obtain ⟨σ', e1, e2⟩ := JC_fail (w := 3) ha J hC (by omega)
  rw [show (3 : Int32) = Int32.ofNat 3 from rfl, e1, bv_s]
  exact ⟨_, rfl, e2⟩
end
section
variable {b : Nat → Int32} {L t m q : Nat} {B : Nat → Int32} {R : List Int32} {ρ : mm_S}
theorem JR_mv {q' : Nat} (h : JR b L t B m R ρ q) (hq : q' ≤ L) : JR b L t B m R (mv ρ q') q' := by
  obtain ⟨h1, h2, h3, h4, h5, h6, h7, h8, h9⟩ := h
  exact ⟨TP_mv _ h1, hq, mv_8 _ _, (mv_o _ _ (by omega)).trans h4, (mv_o _ _ (by omega)).trans h5, (mv_o _ _ (by omega)).trans h6, (mv_o _ _ (by omega)).trans h7, fun i hi => (mv_o _ _ (by omega)).trans (h8 i hi), fun j hj => (mv_o _ _ (by omega)).trans (h9 j hj)⟩
theorem JR_num (h : JR b L t B m R ρ q) (x : Int32) : JR b L t B m R (su_i ρ 214 10 x) q := by
  obtain ⟨⟨h0, h1, h1'⟩, h2, h3, h4, h5, h6, h7, h8, h9⟩ := h
  exact ⟨⟨h0, (rd_ik _ _ _ _ _ _ (by omega)).trans h1, fun k => (rd_ia _ _ _ _ _ _ (by omega)).trans (h1' k)⟩, h2, (rd_ik _ _ _ _ _ _ (by omega)).trans h3, (rd_ik _ _ _ _ _ _ (by omega)).trans h4, (rd_ik _ _ _ _ _ _ (by omega)).trans h5, (rd_ik _ _ _ _ _ _ (by omega)).trans h6, (rd_ia _ _ _ _ _ _ (by omega)).trans h7, fun i hi => (rd_ia _ _ _ _ _ _ (by omega)).trans (h8 i hi), fun j hj => (rd_ia _ _ _ _ _ _ (by omega)).trans (h9 j hj)⟩
theorem JR_puts (ht : t < 6) (h : JR b L t B m R ρ q) (hR : R.length < 400) (s v : Int32) : ∃ ρ', f_X10_puts 214 s v ρ = some ρ' ∧ JR b L t B m (R ++ [s + 16 * v]) ρ' q ∧ ag (fun a k => a ≠ 216 ∧ a ≠ 217) ρ ρ' := by
  obtain ⟨⟨h0, h1, h1'⟩, h2, h3, h4, h5, h6, h7, h8, h9⟩ := h
  unfold f_X10_puts
  rw [h6, gd_n (by omega) (by omega), n_idx (by omega), h7, show (400 : Int32) = Int32.ofNat 400 from rfl, n_mul, n_add, gd_n (by omega) (by omega), n_idx (by omega), lt_eq, rd_ia _ _ _ _ _ _ (by omega), h6, gd_n (by omega) (by omega), gd_n (by omega) (by omega), n_idx (by omega), rd_ia _ _ _ _ _ _ (by omega), h7, lt_eq,
    show Int32.ofNat R.length + 1 = Int32.ofNat (R.length + 1) from n_add _ 1]
  refine ⟨_, rfl, ⟨⟨h0, ?_, fun k => ?_⟩, h2, ?_, ?_, ?_, ?_, ?_, fun i hi => ?_, fun j hj => ?_⟩, fun a k c => ?_⟩
  · rw [rd_ia _ _ _ _ _ _ (by omega), rd_ia _ _ _ _ _ _ (by omega)]; exact h1
  · rw [rd_ia _ _ _ _ _ _ (by omega), rd_ia _ _ _ _ _ _ (by omega)]; exact h1' k
  · rw [rd_ia _ _ _ _ _ _ (by omega), rd_ia _ _ _ _ _ _ (by omega)]; exact h3
  · rw [rd_ia _ _ _ _ _ _ (by omega), rd_ia _ _ _ _ _ _ (by omega)]; exact h4
  · rw [rd_ia _ _ _ _ _ _ (by omega), rd_ia _ _ _ _ _ _ (by omega)]; exact h5
  · rw [rd_ia _ _ _ _ _ _ (by omega), rd_ia _ _ _ _ _ _ (by omega)]; exact h6
  · rw [rd_is, List.length_append]; rfl
  · rw [rd_ia _ _ _ _ _ _ (by omega)]
    rw [List.length_append, List.length_singleton] at hi
    by_cases c : i = R.length
    · subst c; rw [rd_is, List.getD_eq_getElem?_getD, List.getElem?_append_right (Nat.le_refl _), Nat.sub_self]; rfl
    · rw [rd_ik _ _ _ _ _ _ (by omega), h8 i (by omega), List.getD_eq_getElem?_getD, List.getD_eq_getElem?_getD, List.getElem?_append_left (by omega)]
  · rw [rd_ia _ _ _ _ _ _ (by omega), rd_ik _ _ _ _ _ _ (by omega)]; exact h9 j hj
  · rw [rd_ia _ _ _ _ _ _ (by omega), rd_ia _ _ _ _ _ _ (by omega)]
theorem JR_makes {p : Nat} (h : JR b L t B m R ρ q) (hm : m < 60) : ∃ ρ', f_X10_makes 214 (Int32.ofNat p) ρ = some (1, ρ') ∧ JR b L t B (m + 1) R ρ' q ∧ ∀ a k, ¬ (a = 214 ∧ k = 12) → ρ'.1 a k = ρ.1 a k := by
  obtain ⟨⟨h0, h1, h1'⟩, h2, h3, h4, h5, h6, h7, h8, h9⟩ := h
  unfold f_X10_makes
  rw [h5, if_neg (by rw [show (60 : Int32) = Int32.ofNat 60 from rfl, n_eq (by omega) (by omega)]; omega), lt_eq, show Int32.ofNat m + 1 = Int32.ofNat (m + 1) from n_add m 1]
  exact ⟨_, rfl, ⟨⟨h0, (rd_ik _ _ _ _ _ _ (by omega)).trans h1, fun k => (rd_ia _ _ _ _ _ _ (by omega)).trans (h1' k)⟩, h2, (rd_ik _ _ _ _ _ _ (by omega)).trans h3, (rd_ik _ _ _ _ _ _ (by omega)).trans h4, rd_is _ _ _ _, (rd_ik _ _ _ _ _ _ (by omega)).trans h6, (rd_ia _ _ _ _ _ _ (by omega)).trans h7, fun i hi => (rd_ia _ _ _ _ _ _ (by omega)).trans (h8 i hi), fun j hj => (rd_ia _ _ _ _ _ _ (by omega)).trans (h9 j hj)⟩, fun a k c => by rw [rd_ii, if_neg c]⟩
theorem JR_makes0 {p : Nat} (h : JR b L t B 60 R ρ q) : ∃ ρ', f_X10_makes 214 (Int32.ofNat p) ρ = some (0, ρ') ∧ RG t B (fl p 3) ρ' := by
  obtain ⟨⟨h0, h1, h1'⟩, h2, h3, h4, h5, h6, h7, h8, h9⟩ := h
  unfold f_X10_makes
  rw [h5, if_pos (show Int32.ofNat 60 = 60 from rfl), r_fails h4, bd_s, gb_0]
  exact ⟨_, rfl, rd_is _ _ _ _, fun j hj => (rd_ia _ _ _ _ _ _ (by omega)).trans (h9 j hj)⟩
theorem JR_see {p : Nat} (h : JR b L t B m R ρ q) (hp : sk b L q = p) : f_X10_see 214 ρ = some (ch b L p, mv ρ p) := by
  rw [r_see h.1 h.2.1 h.2.2.1, hp]
theorem RG_i (h : JR b L t B m R ρ q) (f : Int32) : RG t B f (su_i ρ 214 9 f) := ⟨rd_is _ _ _ _, fun j hj => (rd_ia _ _ _ _ _ _ (by omega)).trans (h.2.2.2.2.2.2.2.2 j hj)⟩
theorem JR_fails {p : Nat} (h : JR b L t B m R ρ q) (w : Int32) : f_X10_fails 214 w (Int32.ofNat p) ρ = some (0, su_i ρ 214 9 (fl p w)) := r_fails h.2.2.2.1
end
