/-! behind a fact: the reference's closing, and, or -/
def cl1 (s : mm_S) : mm_S := su_i (su_i (su_i s 214 16 (s.1 214 16 - 1)) 214 13 (s.1 214 13 - 1)) 214 8 (s.1 214 8 + 1)
def PU (nt : Nat) (s0 : Int32) (σ7 : mm_S) : Option (Int32 × mm_S) :=
    gd (σ7.1 214 16) 400 <|
    lt (su_i σ7 221 (σ7.1 214 16).toNatClampNeg s0) fun σ9 =>
    lt (su_i σ9 214 16 ((σ9.1 214 16) + (1 : Int32))) fun σ11 =>
    lp nt gF 1 σ11
def pn (o w : Int32) : List Int32 := (if o = 0 then [] else [13]) ++ (if w = 0 then [] else [12])
def pcod (o w : Int32) : List Int32 := (if w = 0 then [] else [31]) ++ (if o = 0 then [] else [32])
def bas (K : List Int32) : Prop := K = [] ∨ ∃ K', K = K' ++ [91]
section
variable {b : Nat → Int32} {L t m p e q d : Nat} {R K : List Int32} {B : Nat → Int32} {ρ : mm_S} {kd vl : Int32}
theorem pn_len (o w : Int32) : (pn o w).length ≤ 2 ∧ (pcod o w).length = (pn o w).length := by
  unfold pn pcod
  by_cases h1 : o = 0 <;> by_cases h2 : w = 0 <;> simp [h1, h2]
theorem pn_w (o : Int32) {w : Int32} (h : ¬ (w = 0)) : (pn o w).length = (pn o 0).length + 1 := by
  unfold pn; rw [if_neg h, if_pos rfl, List.length_append, List.append_nil]; rfl
theorem pn_o {o : Int32} (h : ¬ (o = 0)) : (pn o 0).length = 1 := by
  unfold pn; rw [if_neg h, if_pos rfl]; rfl
theorem c_stay {nt nc : Nat} (hb : BR b) (T : TK b L p kd vl e) (h : JT b L t B m R K d ρ q) (hs : sk b L q = p) (hK : K.length ≤ 400) (hn : ¬ (kd = 3 ∧ vl = 36 ∧ 91 ∈ K)) : C5 nt (nc + 1) ρ = TL nt (mv ρ p) := by
  have te := TK_e T
  have h1 := JT_mv (q' := p) h te.1
  unfold C5
  rw [lp_s, cF, JR_see h.1 hs, bd_s]
  by_cases c : ch b L p = 93
  · obtain ⟨k3, h93⟩ := (ch_iff (c := 93) hb T (by omega) (by decide) (by decide)).mp c
    obtain ⟨hp, he, hvl⟩ := TK_3 T k3
    have sn := se_n b L p
    have sp := sg_inv hb p (n := e - p) (by omega)
    rw [if_pos c, r_inK h1 hK, bd_s, if_neg (fun q => hn ⟨k3, hvl.trans (sp.2.2.2.2.2.2.2.2.1.mpr h93), q⟩), if_pos rfl, bv_s]
  · rw [if_neg c, bv_s]
theorem c_close {nt nc : Nat} (hb : BR b) (T : TK b L p kd vl e) (h : JT b L t B m R K d ρ q) (hs : sk b L q = p) (hK : K.length ≤ 400) (hn : kd = 3 ∧ vl = 36) (h91 : 91 ∈ K) : C5 nt (nc + 1) ρ = (bv (lp lpN (lF 1) () (mv ρ p)) fun s => D3 nt lpN nc (cl1 s)) ∧ e = p + 1 := by
  have te := TK_e T
  have h1 := JT_mv (q' := p) h te.1
  obtain ⟨hp, he, hvl⟩ := TK_3 T hn.1
  have sn := se_n b L p
  have sp := sg_inv hb p (n := e - p) (by omega)
  have h93 : b p = 93 := sp.2.2.2.2.2.2.2.2.1.mp (hvl.symm.trans hn.2)
  have hc : ch b L p = 93 := (ch_iff (c := 93) hb T (by omega) (by decide) (by decide)).mpr ⟨hn.1, h93⟩
  have ee : e = p + 1 := by rw [he]; unfold se; rw [if_neg]; rintro ⟨h | h, -⟩ <;> rw [h93] at h <;> exact absurd h (by decide)
  refine ⟨?_, ee⟩
  unfold C5
  rw [lp_s, cF, JR_see h.1 hs, bd_s, if_pos hc, r_inK h1 hK, bd_s, if_pos h91, if_neg (show ¬ ((1 : Int32) = 0) by decide), lay_eq]
  rcases lp lpN (lF 1) () (mv ρ p) with _ | s
  · rfl
  · rw [bv_s, bv_s]
    simp only [lt_eq, lay_eq]
    unfold D3 cl1
    rw [rd_ik _ _ _ _ _ _ (show 13 ≠ 16 by decide), rd_ik _ _ _ _ _ _ (show 8 ≠ 13 by decide), rd_ik _ _ _ _ _ _ (show 8 ≠ 16 by decide), bv_bv]
    rfl
theorem cl1_JT (h : JT b L t B m R (K ++ [91]) (d + 1) ρ q) (hq : q < L) (hK : K.length < 400) (hd : d < 100) : JT b L t B m R K d (cl1 ρ) (q + 1) := by
  have hL := h.1.1.1
  have lK : (K ++ [(91 : Int32)]).length = K.length + 1 := by rw [List.length_append]; rfl
  unfold cl1
  rw [h.2.1, h.2.2.2, h.1.2.2.1, lK, show Int32.ofNat (K.length + 1) - 1 = Int32.ofNat K.length by rw [show (1 : Int32) = Int32.ofNat 1 from rfl, n_sub (by omega)]; rfl, show Int32.ofNat (d + 1) - 1 = Int32.ofNat d by rw [show (1 : Int32) = Int32.ofNat 1 from rfl, n_sub (by omega)]; rfl, show Int32.ofNat q + 1 = Int32.ofNat (q + 1) from n_add q 1]
  refine ⟨JR_mv (ρ := su_i (su_i ρ 214 16 (Int32.ofNat K.length)) 214 13 (Int32.ofNat d)) (JR_keep h.1 (fun a k g => ?_)) (by omega), ?_, fun i hi => ?_, ?_⟩
  · rw [rd_ii, if_neg (by omega), rd_ii, if_neg (by omega)]
  · rw [rd_ik _ _ _ _ _ _ (by omega), rd_ik _ _ _ _ _ _ (by omega), rd_is]
  · rw [rd_ia _ _ _ _ _ _ (by omega), rd_ia _ _ _ _ _ _ (by omega), rd_ia _ _ _ _ _ _ (by omega), h.2.2.1 i (by omega), getD_init _ _ hi]
  · rw [rd_ik _ _ _ _ _ _ (by omega), rd_is]
theorem w_k {k : Nat} (hk : k < 20) (T : TK b L p kd vl e) (h : JR b L t B m R ρ q) : f_X10_isWord 214 (WK k) (mv ρ p) = some (if kd = 1 ∧ vl = Int32.ofNat k then 1 else 0, mv ρ p) := by
  have te := TK_e T
  have h1 := JR_mv (q' := p) h te.1
  have := t_word (k := k) hk h1.1 te.1 (mv_8 _ _) (TK_sk T) T
  rw [mv_mv] at this
  exact this
theorem TK_w (T : TK b L p kd vl e) (h : kd = 1) : e = ed isl b L p ∧ p < L := by
  rcases T with ⟨-, h', -, -⟩ | ⟨h1, -, -, h', -⟩ | ⟨-, -, h', -, -⟩ | ⟨-, -, -, -, h', -, -⟩
  · rw [h] at h'; exact absurd h' (by decide)
  · exact ⟨h', h1⟩
  · rw [h] at h'; exact absurd h' (by decide)
  · rw [h] at h'; exact absurd h' (by decide)
theorem tl_and {nt : Nat} (T : TK b L p kd vl e) (h : JR b L t B m R ρ q) (hw : kd = 1 ∧ vl = 17) : TL nt (mv ρ p) = bv (lp lpN (lF 2) () (mv ρ e)) (PU nt 12) := by
  have te := TK_e T
  have h1 := JR_mv (q' := p) h te.1
  have wa : f_X10_isWord 214 (1476 : Int64) (mv ρ p) = some (if kd = 1 ∧ vl = 17 then 1 else 0, mv ρ p) := w_k (k := 17) (by omega) T h
  have pw : f_X10_passWord 214 (mv ρ p) = some (mv ρ e) := by rw [r_passWord h1.1 te.1 (mv_8 _ _), mv_mv, ← (TK_w T hw.1).1]
  unfold TL f_X10_tested_54 f_X10_tested_76
  simp only [lay_eq, str_eq, bd_s]
  rw [wa, bd_s, if_pos hw, if_neg (show ¬ ((1 : Int32) = 0) by decide), if_neg (show ¬ ((1 : Int32) = 0) by decide), wa, bd_s, if_pos hw, if_neg (show ¬ ((1 : Int32) = 0) by decide), pw, bv_s]
  rfl
theorem tl_or {nt : Nat} (T : TK b L p kd vl e) (h : JR b L t B m R ρ q) (hw : kd = 1 ∧ vl = 18) : TL nt (mv ρ p) = bv (lp lpN (lF 1) () (mv ρ e)) (PU nt 13) := by
  have te := TK_e T
  have h1 := JR_mv (q' := p) h te.1
  have wa : f_X10_isWord 214 (1476 : Int64) (mv ρ p) = some (if kd = 1 ∧ vl = 17 then 1 else 0, mv ρ p) := w_k (k := 17) (by omega) T h
  have wo : f_X10_isWord 214 (498 : Int64) (mv ρ p) = some (if kd = 1 ∧ vl = 18 then 1 else 0, mv ρ p) := w_k (k := 18) (by omega) T h
  have na : ¬ (kd = 1 ∧ vl = 17) := fun q => by rw [hw.2] at q; exact absurd q.2 (by decide)
  have pw : f_X10_passWord 214 (mv ρ p) = some (mv ρ e) := by rw [r_passWord h1.1 te.1 (mv_8 _ _), mv_mv, ← (TK_w T hw.1).1]
  unfold TL f_X10_tested_54 f_X10_tested_76
  simp only [lay_eq, str_eq, bd_s]
  rw [wa, bd_s, if_neg na, if_pos rfl, wo, bd_s, if_pos hw, if_neg (show ¬ ((1 : Int32) = 0) by decide), if_neg (show ¬ ((1 : Int32) = 0) by decide), wa, bd_s, if_neg na, if_pos rfl, pw, bv_s]
  rfl
theorem tl_end {nt : Nat} (T : TK b L p kd vl e) (h : JR b L t B m R ρ q) (na : ¬ (kd = 1 ∧ vl = 17)) (no : ¬ (kd = 1 ∧ vl = 18)) : TL nt (mv ρ p) = lp nt gF 0 (mv ρ p) := by
  have wa : f_X10_isWord 214 (1476 : Int64) (mv ρ p) = some (if kd = 1 ∧ vl = 17 then 1 else 0, mv ρ p) := w_k (k := 17) (by omega) T h
  have wo : f_X10_isWord 214 (498 : Int64) (mv ρ p) = some (if kd = 1 ∧ vl = 18 then 1 else 0, mv ρ p) := w_k (k := 18) (by omega) T h
  unfold TL f_X10_tested_54
  rw [wa, bd_s, if_neg na, if_pos rfl, wo, bd_s, if_neg no, if_pos rfl, if_pos rfl]
theorem pu_JT {nt : Nat} {s : Int32} (h : JT b L t B m R K d ρ q) (hK : K.length < 400) : ∃ ρ', PU nt s ρ = lp nt gF 1 ρ' ∧ JT b L t B m R (K ++ [s]) d ρ' q := by
  have lK : (K ++ [s]).length = K.length + 1 := by rw [List.length_append]; rfl
  unfold PU
  rw [h.2.1, gd_n (by omega) (by omega), n_idx (by omega), lt_eq, lt_eq, rd_ia _ _ _ _ _ _ (by omega), h.2.1, show Int32.ofNat K.length + 1 = Int32.ofNat (K.length + 1) from n_add _ 1]
  refine ⟨_, rfl, JR_keep h.1 (fun a k g => ?_), ?_, fun i hi => ?_, ?_⟩
  · rw [rd_ii, if_neg (by omega), rd_ii, if_neg (by omega)]
  · rw [rd_is, lK]
  · rw [rd_ia _ _ _ _ _ _ (by omega)]
    by_cases c : i = K.length
    · rw [c, rd_is, getD_last]
    · rw [rd_ik _ _ _ _ _ _ c, h.2.2.1 i (by omega), getD_init _ _ (by omega)]
  · rw [rd_ik _ _ _ _ _ _ (by omega), rd_ia _ _ _ _ _ _ (by omega)]; exact h.2.2.2
theorem lay_bas {n : Nat} {i : Int32} (h : JT b L t B m R K d ρ q) (hK : K.length ≤ 400) (hB : bas K) (hi : 0 < i) : lp (n + 1) (lF i) () ρ = some ρ := by
  rcases hB with rfl | ⟨K', rfl⟩
  · exact lay_nil h
  · have lK : (K' ++ [(91 : Int32)]).length = K'.length + 1 := by rw [List.length_append]; rfl
    exact lay_stop h (by omega) (by rw [show str 91 = 0 by decide]; exact hi)
theorem lay3 {n : Nat} {o w : Int32} (h : JT b L t B m R (K ++ pn o w) d ρ q) (hK : K.length + 2 ≤ 400) (hB : bas K) : lp (n + 1) (lF 3) () ρ = some ρ := by
  unfold pn at h
  by_cases c1 : w = 0
  · rw [if_pos c1, List.append_nil] at h
    by_cases c2 : o = 0
    · rw [if_pos c2, List.append_nil] at h
      exact lay_bas h (by omega) hB (by decide)
    · rw [if_neg c2] at h
      exact lay_stop h (by omega) (by decide)
  · rw [if_neg c1, ← List.append_assoc] at h
    refine lay_stop h ?_ (by decide)
    rw [List.length_append]; split <;> simp <;> omega
theorem lay2 {o w : Int32} (ht : t < 6) (h : JT b L t B m R (K ++ pn o w) d ρ q) (hK : K.length + 2 ≤ 400) (hR : R.length + (pn o w).length ≤ 400) (hB : bas K) : ∃ ρ', lp lpN (lF 2) () ρ = some ρ' ∧ JT b L t B m (R ++ (if w = 0 then [] else [12])) (K ++ pn o 0) d ρ' q := by
  have stop : ∀ {n : Nat} {R' : List Int32} {ρ' : mm_S}, JT b L t B m R' (K ++ pn o 0) d ρ' q → lp (n + 1) (lF 2) () ρ' = some ρ' := by
    intro n R' ρ' h'
    unfold pn at h'
    rw [if_pos rfl, List.append_nil] at h'
    by_cases c2 : o = 0
    · rw [if_pos c2, List.append_nil] at h'
      exact lay_bas h' (by omega) hB (by decide)
    · rw [if_neg c2] at h'
      exact lay_stop h' (by omega) (by decide)
  by_cases c1 : w = 0
  · subst c1
    rw [if_pos rfl, List.append_nil]
    exact ⟨ρ, by rw [show lpN = 999999 + 1 from rfl, stop h], h⟩
  · rw [if_neg c1]
    have e1 : K ++ pn o w = (K ++ pn o 0) ++ [12] := by unfold pn; rw [if_neg c1, if_pos rfl, List.append_nil, List.append_assoc]
    rw [e1] at h
    have l1 : (K ++ pn o 0).length < 400 := by rw [List.length_append]; unfold pn; rw [if_pos rfl, List.append_nil]; split <;> simp <;> omega
    obtain ⟨ρ1, e2, h1⟩ := lay_pop (n := 999999) (i := 2) (d' := d) ht h l1 (by rw [pn_w o c1] at hR; omega) (by decide) (Or.inr ⟨by decide, rfl⟩)
    exact ⟨ρ1, by rw [show lpN = 999999 + 1 from rfl, e2, show (999999 : Nat) = 999998 + 1 from rfl, stop h1], h1⟩
theorem lay1 {o w : Int32} (ht : t < 6) (h : JT b L t B m R (K ++ pn o w) d ρ q) (hK : K.length + 2 ≤ 400) (hR : R.length + (pn o w).length ≤ 400) (hB : bas K) : ∃ ρ', lp lpN (lF 1) () ρ = some ρ' ∧ JT b L t B m (R ++ (pcod o w).map en) K d ρ' q := by
  have stop : ∀ {n : Nat} {R' : List Int32} {ρ' : mm_S}, JT b L t B m R' K d ρ' q → lp (n + 1) (lF 1) () ρ' = some ρ' := fun h' => lay_bas h' (by omega) hB (by decide)
  have one : ∀ {n : Nat} {R' : List Int32} {ρ1 : mm_S}, R'.length + (pn o 0).length ≤ 400 → JT b L t B m R' (K ++ pn o 0) d ρ1 q → ∃ ρ', lp (n + 2) (lF 1) () ρ1 = some ρ' ∧ JT b L t B m (R' ++ (pcod o 0).map en) K d ρ' q := by
    intro n R' ρ1 hR' h'
    unfold pn at h'
    unfold pcod
    rw [if_pos rfl, List.append_nil] at h'
    by_cases c2 : o = 0
    · rw [if_pos c2, List.append_nil] at h'
      rw [if_pos c2, if_pos rfl]
      exact ⟨ρ1, by rw [show n + 2 = (n + 1) + 1 from rfl, stop h'], by rw [List.append_nil, List.map_nil, List.append_nil]; exact h'⟩
    · rw [if_neg c2] at h'
      rw [if_neg c2, if_pos rfl]
      obtain ⟨ρ2, e2, h2⟩ := lay_pop (n := n + 1) (i := 1) (d' := d) ht h' (by omega) (by rw [pn_o c2] at hR'; omega) (by decide) (Or.inr ⟨by decide, rfl⟩)
      exact ⟨ρ2, by rw [show n + 2 = (n + 1) + 1 from rfl, e2, stop h2], h2⟩
  by_cases c1 : w = 0
  · subst c1
    rw [show lpN = 999998 + 2 from rfl]
    exact one hR h
  · have e1 : K ++ pn o w = (K ++ pn o 0) ++ [12] := by unfold pn; rw [if_neg c1, if_pos rfl, List.append_nil, List.append_assoc]
    rw [e1] at h
    have l1 : (K ++ pn o 0).length < 400 := by rw [List.length_append]; unfold pn; rw [if_pos rfl, List.append_nil]; split <;> simp <;> omega
    obtain ⟨ρ1, e2, h1⟩ := lay_pop (n := 999999) (i := 1) (d' := d) ht h l1 (by rw [pn_w o c1] at hR; omega) (by decide) (Or.inr ⟨by decide, rfl⟩)
    obtain ⟨ρ2, e3, h2⟩ := one (n := 999997) (by rw [List.length_append, List.length_singleton]; rw [pn_w o c1] at hR; omega) h1
    refine ⟨ρ2, by rw [show lpN = 999999 + 1 from rfl, e2, show (999999 : Nat) = 999997 + 2 from rfl, e3], ?_⟩
    rw [List.append_assoc] at h2
    unfold pcod at h2 ⊢
    rw [if_neg c1]
    rw [if_pos rfl] at h2
    exact h2
end
