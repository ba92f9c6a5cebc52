/-! facts and tests in step -/
def FO (b : Nat → Int32) (L a t : Nat) (B : Nat → Int32) (C R K : List Int32) (d p : Nat) (X : Option (Int32 × mm_S)) (σ' : mm_S) : Prop :=
  (∃ f, FV b L a f σ' ∧ RF t B X f) ∨ (∃ ρ' l m' q' p' kd' vl' e' nt' nl nc, X = D3 nt' nl nc ρ' ∧ JC b L a m' (C ++ l) σ' p' kd' vl' e' ∧ JT b L t B m' (R ++ l.map en) K d ρ' q' ∧ sk b L q' = p' ∧ gK (4 + 2 * (10 - d)) 1 True l ∧ l.length + p ≤ p' ∧ p < p' ∧ m' ≤ 60 ∧ L - p' < nt' ∧ 100 + d ≤ nl ∧ L - p' < nc)
def TO (b : Nat → Int32) (L a t : Nat) (B : Nat → Int32) (C R K : List Int32) (d p : Nat) (X : Option (Int32 × mm_S)) (σ' : mm_S) : Prop :=
  (∃ f, FV b L a f σ' ∧ RF t B X f) ∨ (∃ ρ' l o w m' q' p' kd' vl' e' nt' nc, X = C5 nt' nc ρ' ∧ JC b L a m' (C ++ (l ++ pcod o w)) σ' p' kd' vl' e' ∧ JT b L t B m' (R ++ l.map en) (K ++ pn o w) d ρ' q' ∧ sk b L q' = p' ∧ gK (6 + 2 * (10 - d)) 1 True (l ++ pcod o w) ∧ (l ++ pcod o w).length + p ≤ p' ∧ p < p' ∧ m' ≤ 60 ∧ L - p' < nt' ∧ L - p' < nc ∧ ¬ (kd' = 1 ∧ vl' = 17) ∧ ¬ (kd' = 1 ∧ vl' = 18) ∧ K.length + 2 ≤ p')
def HFc (b : Nat → Int32) (L a t : Nat) (B : Nat → Int32) (n : Nat) : Prop := ∀ (d m p e q nt nf : Nat) (C R K : List Int32) (σ ρ : mm_S) (kd vl : Int32), d ≤ 10 → 1 + 2 * (10 - d) ≤ n → m ≤ 60 → JC b L a m C σ p kd vl e → JT b L t B m R K d ρ q → sk b L q = p → C.length ≤ p → R.length ≤ C.length → K.length + 2 ≤ p → L - p < nt → L - p + 1 < nf →
  wp (f_X4_rec n false 3 a (Int32.ofNat d) σ) (FO b L a t B C R K d p (P1 nt nf ρ))
def HTs (b : Nat → Int32) (L a t : Nat) (B : Nat → Int32) (n : Nat) : Prop := ∀ (d m p e q nt nf : Nat) (C R K : List Int32) (σ ρ : mm_S) (kd vl : Int32), d ≤ 10 → 2 + 2 * (10 - d) ≤ n → m ≤ 60 → JC b L a m C σ p kd vl e → JT b L t B m R K d ρ q → sk b L q = p → C.length ≤ p → R.length ≤ C.length → K.length + 2 ≤ p → bas K → L - p < nt → L - p + 1 < nf →
  wp (f_X4_rec n true 3 a (Int32.ofNat d) σ) (TO b L a t B C R K d p (P1 nt nf ρ))
theorem D3_pop {nt nl nc : Nat} {ρ ρ' : mm_S} (h : lp (nl + 1) (lF 3) () ρ = lp nl (lF 3) () ρ') : D3 nt (nl + 1) nc ρ = D3 nt nl nc ρ' := by unfold D3; rw [h]
section
variable {b : Nat → Int32} {L a t : Nat} {B : Nat → Int32}
theorem HF_s {n : Nat} (ha : 14 ≤ a) (ht : t < 6) (hb : BR b) (hF : HFc b L a t B n) (hT : HTs b L a t B n) : HFc b L a t B (n + 1) := by
  intro d m p e q nt nf C R K σ ρ kd vl hd hn hm J K0 hs hC hR hK hnt hnf
  have hL := K0.1.1.1
  have T := CP_TK J.1
  have te := TK_e T
  show wp (f_X4_readFact_b (f_X4_rec n false) (f_X4_rec n true) 3 a (Int32.ofNat d) σ) _
  unfold f_X4_readFact_b
  rw [x_isWord4 J.1, bd_s, x_isSign J.1, bd_s]
  obtain ⟨nf', rfl⟩ : ∃ k, nf = k + 2 := ⟨nf - 2, by omega⟩
  by_cases c1 : kd = 1 ∧ vl = 19
  · -- not
    rw [if_pos c1, if_neg (show ¬ ((1 : Int32) = 0) by decide)]
    unfold f_X4_readFact_b_24
    have hp := (TK_w T c1.1).2
    obtain ⟨p1, p2⟩ := p_not (nt := nt) (nf := nf' + 1) hb T K0 hs (by omega) c1
    rw [show (10 : Int32) = Int32.ofNat 10 from rfl]
    simp (disch := omega) only [n_lt]
    by_cases cd : d < 10
    · rw [if_pos cd]
      unfold f_X4_readFact_b_38
      rw [if_neg (show ¬ ((1 : Int32) = 0) by decide)]
      obtain ⟨ρ1, X1, K1⟩ := p2 cd
      obtain ⟨σ1, kd1, vl1, e1, es, J1⟩ := JC_step ha J hp
      have pp : p < sk b L e := Nat.lt_of_lt_of_le (te.2.2.2 hp) (ed_le isb b L e)
      have te1 := TK_e (CP_TK J1.1)
      have lK : (K ++ [(11 : Int32)]).length = K.length + 1 := by rw [List.length_append]; rfl
      rw [es, bv_s, show Int32.ofNat d + 1 = Int32.ofNat (d + 1) from n_add d 1, show nf' + 2 = nf' + 1 + 1 from rfl, X1]
      obtain ⟨σ2, e2, O⟩ := hF (d + 1) m (sk b L e) e1 e nt (nf' + 1) C R (K ++ [11]) σ1 ρ1 kd1 vl1 (by omega) (by omega) hm J1 K1 rfl (by omega) hR (by omega) (by omega) (by omega)
      rw [e2, bv_s]
      rcases O with ⟨f, F, rf⟩ | ⟨ρ3, l, m3, q3, p3, kd3, vl3, e3, nt3, nl, nc, X3, J3, K3, s3, g3, len3, pp3, hm3, h1, h2, h3⟩
      · obtain ⟨σ3, e3, F3⟩ := FV_add ha F 30
        rw [e3, bv_s, wp_some]; exact Or.inl ⟨f, F3, rf⟩
      · have te3 := TK_e (CP_TK J3.1)
        have lC : (C ++ l).length = C.length + l.length := List.length_append
        have lR : (R ++ l.map en).length = R.length + l.length := by rw [List.length_append, List.length_map]
        obtain ⟨nl', rfl⟩ : ∃ k, nl = k + 1 := ⟨nl - 1, by omega⟩
        obtain ⟨ρ4, X4, K4⟩ := lay_pop (n := nl') (i := 3) (d' := d) ht K3 (by omega) (by omega) (by decide) (Or.inl ⟨rfl, rfl⟩)
        obtain ⟨σ4, e4, J4⟩ := JC_add ha J3 (by omega) 30
        rw [e4, bv_s, wp_some]
        rw [lapp] at J4
        rw [show ((11 : Int32)) = en 30 by decide, lmap] at K4
        refine Or.inr ⟨ρ4, l ++ [30], m3, q3, p3, kd3, vl3, e3, nt3, nl', nc, X3.trans (D3_pop X4), J4, K4, s3, gK_not (gK_mono g3 (by omega)), ?_, by omega, hm3, h1, by omega, h3⟩
        rw [List.length_append, List.length_singleton]; omega
    · rw [if_neg cd]
      have d10 : d = 10 := by omega
      obtain ⟨σ1, ef, F, -, -⟩ := JC_fail (w := 2) ha J (by omega) (by omega)
      rw [show (2 : Int32) = Int32.ofNat 2 from rfl, ef, bv_s, wp_some]
      refine Or.inl ⟨_, F, ?_⟩
      rw [show nf' + 2 = nf' + 1 + 1 from rfl, p1 d10]; exact wp_some.mpr ⟨rfl, RG_i (JR_mv K0.1 te.1) _⟩
  · rw [if_neg c1, if_pos rfl]
    by_cases c2 : kd = 3 ∧ vl = 35
    · -- [
      rw [if_pos c2, if_neg (show ¬ ((1 : Int32) = 0) by decide)]
      unfold f_X4_readFact_b_24
      have hp := (TK_3 T c2.1).1
      obtain ⟨p1, p2⟩ := p_brk (nt := nt) (nf := nf' + 1) hb T K0 hs (by omega) c2
      rw [show (10 : Int32) = Int32.ofNat 10 from rfl]
      simp (disch := omega) only [n_lt]
      by_cases cd : d < 10
      · rw [if_pos cd]
        unfold f_X4_readFact_b_38
        rw [if_pos rfl, if_neg (show ¬ ((1 : Int32) = 0) by decide)]
        obtain ⟨ρ1, X1, K1⟩ := p2 cd
        obtain ⟨σ1, kd1, vl1, e1, es, J1⟩ := JC_step ha J hp
        have pp : p < sk b L e := Nat.lt_of_lt_of_le (te.2.2.2 hp) (ed_le isb b L e)
        have te1 := TK_e (CP_TK J1.1)
        have lK : (K ++ [(91 : Int32)]).length = K.length + 1 := by rw [List.length_append]; rfl
        rw [es, bv_s, show Int32.ofNat d + 1 = Int32.ofNat (d + 1) from n_add d 1, show nf' + 2 = nf' + 1 + 1 from rfl, X1]
        obtain ⟨σ2, e2, O⟩ := hT (d + 1) m (sk b L e) e1 e nt (nf' + 1) C R (K ++ [91]) σ1 ρ1 kd1 vl1 (by omega) (by omega) hm J1 K1 rfl (by omega) hR (by omega) (Or.inr ⟨K, rfl⟩) (by omega) (by omega)
        rw [e2, bv_s]
        rcases O with ⟨f, F, rf⟩ | ⟨ρ3, l, o, w, m3, q3, p3, kd3, vl3, e3, nt3, nc, X3, J3, K3, s3, g3, len3, pp3, hm3, h1, h2, na, no, hK3⟩
        · obtain ⟨p4, kd4, vl4, e4, c4⟩ := F.1
          obtain ⟨σ3, e3, F3⟩ := FV_step ha F
          rw [x_isSign c4, bd_s, FV_fail F]
          simp only [bv_s, e3]
          rw [ite_self, wp_some]; exact Or.inl ⟨f, F3, rf⟩
        · have T3 := CP_TK J3.1
          have te3 := TK_e T3
          have pl := pn_len o w
          have lP : (l ++ pcod o w).length = l.length + (pcod o w).length := List.length_append
          have lC : (C ++ (l ++ pcod o w)).length = C.length + (l ++ pcod o w).length := List.length_append
          have lR : (R ++ l.map en).length = R.length + l.length := by rw [List.length_append, List.length_map]
          have lK3 : ((K ++ [(91 : Int32)]) ++ pn o w).length = K.length + 1 + (pn o w).length := by rw [List.length_append, lK]
          obtain ⟨nc', rfl⟩ : ∃ k, nc = k + 1 := ⟨nc - 1, by omega⟩
          rw [x_isSign J3.1, bd_s]
          have m91 : (91 : Int32) ∈ (K ++ [(91 : Int32)]) ++ pn o w := by simp
          by_cases c3 : kd3 = 3 ∧ vl3 = 36
          · rw [if_pos c3, if_neg (show ¬ ((1 : Int32) = 0) by decide)]
            have hp3 := (TK_3 T3 c3.1).1
            obtain ⟨X4, ee⟩ := c_close (nt := nt3) (nc := nc') hb T3 K3 s3 (by omega) c3 m91
            obtain ⟨ρ5, X5, K5⟩ := lay1 ht (JT_mv (q' := p3) K3 te3.1) (by omega) (by omega) (Or.inr ⟨K, rfl⟩)
            have K6 := cl1_JT K5 hp3 (by omega) (by omega)
            obtain ⟨σ6, kd6, vl6, e6, es6, J6⟩ := JC_step ha J3 hp3
            have pp6 : p3 < sk b L e3 := Nat.lt_of_lt_of_le (te3.2.2.2 hp3) (ed_le isb b L e3)
            have te6 := TK_e (CP_TK J6.1)
            rw [es6, bv_s, wp_some]
            refine Or.inr ⟨cl1 ρ5, l ++ pcod o w, m3, e3, sk b L e3, kd6, vl6, e6, nt3, lpN, nc', ?_, J6, ?_, rfl, gK_mono g3 (by omega), by omega, by omega, hm3, by omega, Nat.le_trans (show 100 + d ≤ 110 by omega) (by decide), by omega⟩
            · rw [X3, X4, X5, bv_s]
            · rw [List.map_append, ← List.append_assoc, ee]; exact K6
          · rw [if_neg c3, if_pos rfl]
            obtain ⟨σ4, ef, F, -, -⟩ := JC_fail (w := 0) ha J3 (by omega) (by omega)
            obtain ⟨σ5, es5, F5⟩ := FV_step ha F
            rw [show (0 : Int32) = Int32.ofNat 0 from rfl, ef, bv_s, es5, bv_s, wp_some]
            refine Or.inl ⟨_, F5, ?_⟩
            obtain ⟨nt', rfl⟩ : ∃ k, nt3 = k + 1 := ⟨nt3 - 1, by omega⟩
            have K4 := JT_mv (q' := p3) K3 te3.1
            rw [X3, c_stay hb T3 K3 s3 (by omega) (fun q => c3 ⟨q.1, q.2.1⟩), tl_end T3 K3.1 na no, lp_s, gF, if_pos rfl, r_inK K4 (by omega), bd_s, if_pos m91, if_neg (show ¬ ((1 : Int32) = 0) by decide), JR_see K4.1 (TK_sk T3), bd_s, mv_mv, mv_8, JR_fails K4.1, bd_s, gb_0]
            exact wp_some.mpr ⟨rfl, RG_i K4.1 _⟩
      · rw [if_neg cd]
        have d10 : d = 10 := by omega
        obtain ⟨σ1, ef, F, -, -⟩ := JC_fail (w := 2) ha J (by omega) (by omega)
        rw [show (2 : Int32) = Int32.ofNat 2 from rfl, ef, bv_s, wp_some]
        refine Or.inl ⟨_, F, ?_⟩
        rw [show nf' + 2 = nf' + 1 + 1 from rfl, p1 d10]; exact wp_some.mpr ⟨rfl, RG_i (JR_mv K0.1 te.1) _⟩
    · -- a comparison
      rw [if_neg c2, if_pos rfl]
      have K1 := JT_mv (q' := p) K0 te.1
      rw [p_cmp (nt := nt) (nf := nf') hb T K0 hs c1 c2]
      refine wp_mono (J_cmp ha ht hb hm J K1.1 (TK_sk T) hC hR) (fun σ' O => ?_)
      rcases O with ⟨f, F, rf⟩ | ⟨ρ3, l, m3, q3, p3, kd3, vl3, e3, X3, J3, K3, s3, g3, len3, pp3, hm3, ag3⟩
      · refine Or.inl ⟨f, F, ?_⟩
        obtain ⟨⟨r, s⟩, er, r0, r9⟩ := rf
        dsimp only at r0 r9
        rw [er, bd_s, r0, gb_0, bd_s, if_pos rfl]; exact wp_some.mpr ⟨rfl, r9⟩
      · have te3 := TK_e (CP_TK J3.1)
        refine Or.inr ⟨ρ3, l, m3, q3, p3, kd3, vl3, e3, nt, lpN, lpN, ?_, J3, JT_AG K1 K3 ag3, s3, gK_mono g3 (by omega), len3, pp3, hm3, by omega, Nat.le_trans (show 100 + d ≤ 110 by omega) (by decide), Nat.lt_of_le_of_lt (show L - p3 ≤ 400 by omega) (by decide)⟩
        rw [X3, bd_s, gb_1, bd_s, if_neg (show ¬ ((1 : Int32) = 0) by decide)]
theorem FV_39t {f : Int32} {Q : mm_S → Prop} {rF rT : Nat → Nat → Int32 → mm_S → Option mm_S} {rec : Int32 × Int32 × Int32 → mm_S → Option mm_S} {σ : mm_S} (ha : 14 ≤ a) (h : FV b L a f σ) (hrec : ∀ v σ', FV b L a f σ' → wp (rec v σ') Q) (hQ : ∀ σ', FV b L a f σ' → Q σ') (d o k : Int32) : wp (f_X4_readTest_b_39 rF rT rec 3 a d o k σ) Q := by
  have h61 : ∀ σ' x, FV b L a f σ' → wp (f_X4_readTest_b_61 rF rT rec 3 a d x k σ') Q := by
    intro σ' x h'
    obtain ⟨p, kd, vl, e, c⟩ := h'.1
    obtain ⟨τ, e1, h1⟩ := FV_step ha h'
    unfold f_X4_readTest_b_61
    rw [x_isWord4 c, bd_s, e1, bv_s, lt_eq]
    generalize (if kd = 1 ∧ vl = 18 then (1 : Int32) else 0) = x
    split
    · rw [wp_some]; exact hQ _ h'
    · exact hrec _ _ h1
  obtain ⟨p, kd, vl, e, c⟩ := h.1
  obtain ⟨τ, e1, h1⟩ := FV_step ha h
  obtain ⟨υ, e2, h2⟩ := FV_add ha h 32
  unfold f_X4_readTest_b_39
  rw [x_isWord4 c, bd_s, e1, bv_s, lt_eq, e2, bv_s]
  generalize (if kd = 1 ∧ vl = 17 then (1 : Int32) else 0) = x
  split
  · split
    · exact h61 _ _ h
    · exact h61 _ _ h2
  · exact hrec _ _ h1
end
