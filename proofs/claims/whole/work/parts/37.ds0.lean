/-! comparisons in step -/
def cR (ρ : mm_S) : Option (Int32 × mm_S) :=
      bd (f_X10_see 214 ρ) fun r46 σ45 =>
      lt ((σ45.1 214 8)) fun x47 =>
      if r46 = (60 : Int32) then
        f_X10_compare_44 214 r46 x47 σ45
      else
        if r46 = (61 : Int32) then
          f_X10_compare_44 214 r46 x47 σ45
        else
          if r46 = (62 : Int32) then
            f_X10_compare_44 214 r46 x47 σ45
          else
            bd (f_X10_fails 214 (0 : Int32) x47 σ45) fun r54 σ53 =>
            gb r54 <|
            some (r54, σ53)
section
variable {b : Nat → Int32} {L a t m p e q : Nat} {C R : List Int32} {B : Nat → Int32} {σ ρ : mm_S} {kd vl f : Int32}
theorem cmp_no (hb : BR b) (K : JR b L t B m R ρ q) (hs : sk b L q = p) (T : TK b L p kd vl e) (h : ¬ (kd = 3 ∧ 25 ≤ vl ∧ vl ≤ 29)) : cR ρ = some (0, su_i (mv ρ p) 214 9 (fl p 0)) := by
  have te := TK_e T
  have K1 := JR_mv (q' := p) K te.1
  have i60 : ch b L p = 60 ↔ kd = 3 ∧ b p = 60 := ch_iff (c := 60) hb T (by omega) (by decide) (by decide)
  have i61 : ch b L p = 61 ↔ kd = 3 ∧ b p = 61 := ch_iff (c := 61) hb T (by omega) (by decide) (by decide)
  have i62 : ch b L p = 62 ↔ kd = 3 ∧ b p = 62 := ch_iff (c := 62) hb T (by omega) (by decide) (by decide)
  have no : ∀ x : Int32, (x = 60 ∨ x = 61 ∨ x = 62) → ¬ (kd = 3 ∧ b p = x) := by
    rintro x hx ⟨q1, q2⟩
    obtain ⟨hp, he, hvl⟩ := TK_3 T q1
    have sn := se_n b L p
    have sp := sg_inv hb p (n := e - p) (by omega)
    exact h ⟨q1, by rw [hvl]; exact sp.2.2.2.2.2.2.2.2.2.1.mpr (by rw [q2]; exact hx)⟩
  unfold cR
  rw [JR_see K hs, bd_s, lt_eq, mv_8, if_neg (fun q => no 60 (Or.inl rfl) (i60.mp q)), if_neg (fun q => no 61 (Or.inr (Or.inl rfl)) (i61.mp q)), if_neg (fun q => no 62 (Or.inr (Or.inr rfl)) (i62.mp q)), JR_fails K1, bd_s, gb_0]
theorem cmp_yes (hb : BR b) (K : JR b L t B m R ρ q) (hs : sk b L q = p) (T : TK b L p kd vl e) (k3 : kd = 3) (hv : 25 ≤ vl ∧ vl ≤ 29) :
    ∃ s0 : Int32, 6 + s0 = en vl ∧ cR ρ = bd (f_X10_makes 214 (Int32.ofNat p) (mv ρ e)) fun r9 σ8 => if r9 = 0 then some (0, σ8) else f_X10_compare_152 214 s0 σ8 := by
  have te := TK_e T
  have hL := K.1.1
  have K1 := JR_mv (q' := p) K te.1
  have i60 : ch b L p = 60 ↔ kd = 3 ∧ b p = 60 := ch_iff (c := 60) hb T (by omega) (by decide) (by decide)
  have i61 : ch b L p = 61 ↔ kd = 3 ∧ b p = 61 := ch_iff (c := 61) hb T (by omega) (by decide) (by decide)
  have i62 : ch b L p = 62 ↔ kd = 3 ∧ b p = 62 := ch_iff (c := 62) hb T (by omega) (by decide) (by decide)
  obtain ⟨hp, he, hvl⟩ := TK_3 T k3
  have sn := se_n b L p
  have sp := sg_inv hb p (n := e - p) (by omega)
  have hx := sp.2.2.2.2.2.2.2.2.2.1.mp (by rw [← hvl]; exact hv)
  have m1 : su_i (mv ρ p) 214 8 (Int32.ofNat (p + 1)) = mv ρ (p + 1) := mv_mv _ _ _
  have m2 : su_i (mv ρ (p + 1)) 214 8 (Int32.ofNat (p + 1 + 1)) = mv ρ (p + 2) := mv_mv _ _ _
  have t1 : (mv ρ (p + 1)).1 214 1 = Int32.ofNat L := (TP_mv _ K.1).2.1
  have tb : (mv ρ (p + 1)).1 215 (p + 1) = b (p + 1) := (TP_mv _ K.1).2.2 _
  have g : ∀ c : Int32, (c = 60 ∨ c = 62) → b p = c → ∀ s0 s1 : Int32, (e = p + 1 → f_X10_compare_105 214 c (Int32.ofNat p) 0 (mv ρ e) = bd (f_X10_makes 214 (Int32.ofNat p) (mv ρ e)) fun r9 σ8 => if r9 = 0 then some (0, σ8) else f_X10_compare_152 214 s0 σ8) →
      (e = p + 2 → f_X10_compare_105 214 c (Int32.ofNat p) 1 (mv ρ e) = bd (f_X10_makes 214 (Int32.ofNat p) (mv ρ e)) fun r9 σ8 => if r9 = 0 then some (0, σ8) else f_X10_compare_152 214 s1 σ8) →
      (e = p + 1 ∧ f_X10_compare_44 214 c (Int32.ofNat p) (mv ρ p) = bd (f_X10_makes 214 (Int32.ofNat p) (mv ρ e)) fun r9 σ8 => if r9 = 0 then some (0, σ8) else f_X10_compare_152 214 s0 σ8) ∨ (e = p + 2 ∧ f_X10_compare_44 214 c (Int32.ofNat p) (mv ρ p) = bd (f_X10_makes 214 (Int32.ofNat p) (mv ρ e)) fun r9 σ8 => if r9 = 0 then some (0, σ8) else f_X10_compare_152 214 s1 σ8) := by
    intro c hc hbp s0 s1 h0 h1
    have c61 : ¬ (c = 61) := by rcases hc with h | h <;> rw [h] <;> decide
    unfold f_X10_compare_44 f_X10_compare_90
    rw [mv_8, show Int32.ofNat p + 1 = Int32.ofNat (p + 1) from n_add p 1, lt_eq, m1, t1, mv_8, if_neg c61]
    simp (disch := omega) only [n_le]
    have hcc : b p = 60 ∨ b p = 62 := by rw [hbp]; exact hc
    by_cases cL : L ≤ p + 1
    · have ee : e = p + 1 := by rw [he]; unfold se; rw [if_neg (by omega)]
      rw [if_pos cL, if_pos trivial, ← ee]
      exact Or.inl ⟨rfl, h0 ee⟩
    · rw [if_neg cL, gd_n (by omega) (by omega), n_idx (by omega), tb]
      by_cases ce : b (p + 1) = 61
      · have ee : e = p + 2 := by rw [he]; unfold se; rw [if_pos ⟨hcc, by omega, ce⟩]
        rw [if_pos ce, if_neg (show ¬ ((1 : Int32) = 0) by decide), lt_eq, show Int32.ofNat (p + 1) + 1 = Int32.ofNat (p + 1 + 1) from n_add _ 1, m2, ← ee]
        exact Or.inr ⟨rfl, h1 ee⟩
      · have ee : e = p + 1 := by rw [he]; unfold se; rw [if_neg (fun q => ce q.2.2)]
        rw [if_neg ce, if_pos trivial, ← ee]
        exact Or.inl ⟨rfl, h0 ee⟩
  unfold cR
  rw [JR_see K hs, bd_s, lt_eq, mv_8]
  rcases hx with h' | h' | h'
  · have hc : ch b L p = 60 := i60.mpr ⟨k3, h'⟩
    rw [hc, if_pos rfl]
    rcases g 60 (Or.inl rfl) h' 0 1 (fun _ => by unfold f_X10_compare_105; simp only [eq_false (show ¬ ((62 : Int32) = 60) by decide), eq_false (show ¬ ((62 : Int32) = 61) by decide), eq_false (show ¬ ((61 : Int32) = 60) by decide), eq_false (show ¬ ((1 : Int32) = 0) by decide), if_true, if_false]) (fun _ => by unfold f_X10_compare_105; simp only [eq_false (show ¬ ((62 : Int32) = 60) by decide), eq_false (show ¬ ((62 : Int32) = 61) by decide), eq_false (show ¬ ((61 : Int32) = 60) by decide), eq_false (show ¬ ((1 : Int32) = 0) by decide), if_true, if_false]) with ⟨ee, X⟩ | ⟨ee, X⟩
    · refine ⟨0, ?_, X⟩
      rw [hvl, h', ee, show p + 1 - p = 1 by omega]; decide
    · refine ⟨1, ?_, X⟩
      rw [hvl, h', ee, show p + 2 - p = 2 by omega]; decide
  · have hc : ch b L p = 61 := i61.mpr ⟨k3, h'⟩
    rw [hc, if_neg (show ¬ ((61 : Int32) = 60) by decide), if_pos rfl]
    have ee : e = p + 1 := by rw [he]; unfold se; rw [if_neg]; rintro ⟨h | h, -⟩ <;> rw [h'] at h <;> exact absurd h (by decide)
    refine ⟨2, ?_, ?_⟩
    · rw [hvl, h', ee, show p + 1 - p = 1 by omega]; decide
    · unfold f_X10_compare_44 f_X10_compare_90 f_X10_compare_105
      rw [mv_8, show Int32.ofNat p + 1 = Int32.ofNat (p + 1) from n_add p 1, lt_eq, m1, if_pos rfl, if_pos rfl, ← ee]
      simp only [eq_false (show ¬ ((62 : Int32) = 60) by decide), eq_false (show ¬ ((62 : Int32) = 61) by decide), eq_false (show ¬ ((61 : Int32) = 60) by decide), eq_false (show ¬ ((1 : Int32) = 0) by decide), if_true, if_false]
  · have hc : ch b L p = 62 := i62.mpr ⟨k3, h'⟩
    rw [hc, if_neg (show ¬ ((62 : Int32) = 60) by decide), if_neg (show ¬ ((62 : Int32) = 61) by decide), if_pos rfl]
    rcases g 62 (Or.inr rfl) h' 4 3 (fun _ => by unfold f_X10_compare_105; simp only [eq_false (show ¬ ((62 : Int32) = 60) by decide), eq_false (show ¬ ((62 : Int32) = 61) by decide), eq_false (show ¬ ((61 : Int32) = 60) by decide), eq_false (show ¬ ((1 : Int32) = 0) by decide), if_true, if_false]) (fun _ => by unfold f_X10_compare_105; simp only [eq_false (show ¬ ((62 : Int32) = 60) by decide), eq_false (show ¬ ((62 : Int32) = 61) by decide), eq_false (show ¬ ((61 : Int32) = 60) by decide), eq_false (show ¬ ((1 : Int32) = 0) by decide), if_true, if_false]) with ⟨ee, X⟩ | ⟨ee, X⟩
    · refine ⟨4, ?_, X⟩
      rw [hvl, h', ee, show p + 1 - p = 1 by omega]; decide
    · refine ⟨3, ?_, X⟩
      rw [hvl, h', ee, show p + 2 - p = 2 by omega]; decide
theorem FV_139 {rF rT : Nat → Nat → Int32 → mm_S → Option mm_S} (ha : 14 ≤ a) (h : FV b L a f σ) (x : Int32) : wp (f_X4_readFact_b_139 rF rT 3 a x σ) (FV b L a f) := by
  unfold f_X4_readFact_b_139
  obtain ⟨τ, e1, h1⟩ := FV_count ha h
  obtain ⟨υ, e2, h2⟩ := FV_step ha h1
  obtain ⟨ω, e3, h3⟩ := FV_add ha h2 x
  rw [e1, bv_s, e2, bv_s, FV_sum h2, bv_s, e3, bv_s, wp_some]; exact h3
theorem cmp_op {x : Int32} (h : 25 ≤ x ∧ x ≤ 29) : bop x ∧ ∀ u v : Int64, jn x u v = 0 ∨ jn x u v = 1 := by
  have hh := h
  rw [Int32.le_iff_toInt_le, Int32.le_iff_toInt_le, show (25 : Int32).toInt = 25 by decide, show (29 : Int32).toInt = 29 by decide] at h
  constructor
  · unfold bop
    rw [Int32.le_iff_toInt_le, Int32.le_iff_toInt_le, Int32.le_iff_toInt_le, Int32.le_iff_toInt_le, Int32.lt_iff_toInt_lt, Int32.lt_iff_toInt_lt, Ne, ← Int32.toInt_inj, show (0 : Int32).toInt = 0 by decide, show (100040 : Int32).toInt = 100040 by decide, show (20 : Int32).toInt = 20 by decide, show (32 : Int32).toInt = 32 by decide, show (40 : Int32).toInt = 40 by decide, show (13 : Int32).toInt = 13 by decide, show (30 : Int32).toInt = 30 by decide]
    omega
  · intro u v
    obtain ⟨k, hk, rfl⟩ : ∃ k, (25 ≤ k ∧ k ≤ 29) ∧ x = Int32.ofNat k := ⟨x.toInt.toNat, by omega, by rw [← Int32.toInt_inj, n_int (by omega)]; omega⟩
    have : k = 25 ∨ k = 26 ∨ k = 27 ∨ k = 28 ∨ k = 29 := by omega
    unfold jn
    rcases this with rfl | rfl | rfl | rfl | rfl
    · rw [if_neg (by decide), if_neg (by decide), if_neg (by decide), if_neg (by decide), if_neg (by decide), if_pos (by decide)]; split <;> simp
    · rw [if_neg (by decide), if_neg (by decide), if_neg (by decide), if_neg (by decide), if_neg (by decide), if_neg (by decide), if_pos (by decide)]; split <;> simp
    · rw [if_neg (by decide), if_neg (by decide), if_neg (by decide), if_neg (by decide), if_neg (by decide), if_neg (by decide), if_neg (by decide), if_pos (by decide)]; split <;> simp
    · rw [if_neg (by decide), if_neg (by decide), if_neg (by decide), if_neg (by decide), if_neg (by decide), if_neg (by decide), if_neg (by decide), if_neg (by decide), if_pos (by decide)]; split <;> simp
    · rw [if_neg (by decide), if_neg (by decide), if_neg (by decide), if_neg (by decide), if_neg (by decide), if_neg (by decide), if_neg (by decide), if_neg (by decide), if_neg (by decide), if_pos (by decide)]; split <;> simp
theorem gK_cmp {l1 l2 : List Int32} {c : Int32} (h1 : gK 3 1 False l1) (h2 : gK 3 1 False l2) (hc : 25 ≤ c ∧ c ≤ 29) : gK 4 1 True (l1 ++ l2 ++ [c]) := fun w => by
  obtain ⟨vs, a1, -, a3⟩ := gK_app (D := 4) (gK_mono h1 (by omega)) h2 (by omega) w
  match vs, a1, a3 with
  | [y, x], _, a3 =>
    refine ⟨[jn c x y], rfl, fun _ v hv => ?_, fun S B q => ?_⟩
    · rw [List.mem_singleton.mp hv]; exact (cmp_op hc).2 x y
    · rw [crn_app, a3 S B q]
      show crn w B [c] (y :: x :: S) = _
      rw [crn_1, cst_op (cmp_op hc).1]; rfl
theorem J_cmp {rF rT : Nat → Nat → Int32 → mm_S → Option mm_S} {d : Int32} (ha : 14 ≤ a) (ht : t < 6) (hb : BR b) (hm : m ≤ 60) (J : JC b L a m C σ p kd vl e) (K : JR b L t B m R ρ q) (hs : sk b L q = p) (hC : C.length ≤ p) (hR : R.length ≤ C.length) :
    wp (f_X4_readFact_b_38 rF rT 3 a d 0 0 σ) (SO1 b L a t B C R p ρ (f_X10_compare 214 ρ) 1 4 True) := by
  have hL := K.1.1
  unfold f_X4_readFact_b_38
  rw [if_pos rfl, if_pos rfl]
  have eX : f_X10_compare 214 ρ = bd (f_X10_sum 214 ρ) fun r42 σ41 => if r42 = 0 then some (0, σ41) else cR σ41 := rfl
  generalize f_X10_compare 214 ρ = X at eX ⊢
  obtain ⟨σ1, es, S1⟩ := J_sum ha ht hb hm J K hs hC hR
  rw [es, bv_s, lt_eq]
  have bad : ∀ f σ', FV b L a f σ' → RF t B X f → ∀ x, wp (f_X4_readFact_b_139 rF rT 3 a x σ') (SO1 b L a t B C R p ρ X 1 4 True) := fun f σ' F rf x => wp_mono (FV_139 ha F x) (fun σ'' F' => Or.inl ⟨f, F', rf⟩)
  rcases S1 with ⟨f, F, rf⟩ | ⟨ρ1, l1, m1, q1, p1, kd1, vl1, e1, er, J1, K1, s1, g1, len1, pp1, hm1, ag1⟩
  · have rfX : RF t B X f := by
      obtain ⟨⟨r, s⟩, er, r0, r9⟩ := rf
      dsimp only at r0 r9
      rw [eX, er, bd_s, if_pos r0]; exact wp_some.mpr ⟨rfl, r9⟩
    simp only [FV_fail F, bv_s]
    split
    · split
      · exact bad f _ F rfX _
      · split
        · exact bad f _ F rfX _
        · exact bad f _ F rfX _
    · exact bad f _ F rfX _
  · rw [er, bd_s, if_neg (show ¬ ((1 : Int32) = 0) by decide)] at eX
    have T1 := CP_TK J1.1
    have te1 := TK_e T1
    have lC1 : (C ++ l1).length = C.length + l1.length := List.length_append
    have lR1 : (R ++ l1.map en).length = R.length + l1.length := by rw [List.length_append, List.length_map]
    rw [(CP_c J1.1).1, (CP_c J1.1).2.1]
    have bad0 : ¬ (kd1 = 3 ∧ 25 ≤ vl1 ∧ vl1 ≤ 29) → wp (bv (f_X4_fail 3 0 σ1) fun σ' => f_X4_readFact_b_139 rF rT 3 a vl1 σ') (SO1 b L a t B C R p ρ X 1 4 True) := by
      intro h
      obtain ⟨σ2, ef, F, -, -⟩ := JC_fail (w := 0) ha J1 (by omega) (by omega)
      rw [show (0 : Int32) = Int32.ofNat 0 from rfl, ef, bv_s]
      refine bad _ _ F ?_ _
      rw [eX, cmp_no hb K1 s1 T1 h]; exact wp_some.mpr ⟨rfl, RG_i (JR_mv K1 te1.1) _⟩
    by_cases c3 : kd1 = 3
    · rw [if_pos c3]
      by_cases v1 : vl1 < 25
      · rw [if_pos v1]; exact bad0 (fun q => by have := q.2.1; rw [← Int32.not_lt] at this; exact this v1)
      · rw [if_neg v1]
        by_cases v2 : vl1 ≤ 29
        · rw [if_pos v2]
          have hv : 25 ≤ vl1 ∧ vl1 ≤ 29 := ⟨by rw [Int32.not_lt] at v1; exact v1, v2⟩
          have hp1 := (TK_3 T1 c3).1
          obtain ⟨s0, es0, X1⟩ := cmp_yes hb K1 s1 T1 c3 hv
          rw [X1] at eX
          unfold f_X4_readFact_b_139
          have K2 := JR_mv (q' := e1) K1 te1.2.1
          by_cases cm : m1 < 60
          · obtain ⟨σ2, ec, J2⟩ := JC_count ha J1 cm
            obtain ⟨ρ2, em, K3, ag3⟩ := JR_makes (p := p1) K2 cm
            rw [em, bd_s, if_neg (show ¬ ((1 : Int32) = 0) by decide)] at eX
            obtain ⟨σ3, kd3, vl3, e3, est, J3⟩ := JC_step ha J2 hp1
            have p13 : p1 < sk b L e1 := Nat.lt_of_lt_of_le (te1.2.2.2 hp1) (ed_le isb b L e1)
            rw [ec, bv_s, est, bv_s]
            obtain ⟨σ4, es4, S4⟩ := J_sum ha ht hb (by omega) J3 K3 rfl (by omega) (by omega)
            rw [es4, bv_s]
            unfold f_X10_compare_152 at eX
            rcases S4 with ⟨f, F, rf⟩ | ⟨ρ5, l5, m5, q5, p5, kd5, vl5, e5, er5, J5, K5, s5, g5, len5, pp5, hm5, ag5⟩
            · have rfX : RF t B X f := by
                obtain ⟨⟨r, s⟩, er, r0, r9⟩ := rf
                dsimp only at r0 r9
                rw [eX, er, bd_s, if_pos r0]; exact wp_some.mpr ⟨rfl, r9⟩
              obtain ⟨σ6, ea, F6⟩ := FV_add ha F vl1
              rw [ea, bv_s, wp_some]; exact Or.inl ⟨f, F6, rfX⟩
            · have te5 := TK_e (CP_TK J5.1)
              have lC5 : (C ++ l1 ++ l5).length = C.length + l1.length + l5.length := by rw [List.length_append, lC1]
              have lR5 : (R ++ l1.map en ++ l5.map en).length = R.length + l1.length + l5.length := by rw [List.length_append, lR1, List.length_map]
              obtain ⟨σ6, ea, J6⟩ := JC_add ha J5 (by omega) vl1
              obtain ⟨ρ6, ep, K6, ag6⟩ := JR_puts ht K5 (by omega) (en vl1) 0
              rw [er5, bd_s, if_neg (show ¬ ((1 : Int32) = 0) by decide), es0, ep, bv_s] at eX
              rw [ea, bv_s, wp_some]
              refine Or.inr ⟨ρ6, l1 ++ l5 ++ [vl1], m5, q5, p5, kd5, vl5, e5, eX, ?_, ?_, s5, gK_cmp g1 g5 hv, ?_, by omega, hm5, ?_⟩
              · rw [show C ++ (l1 ++ l5 ++ [vl1]) = C ++ l1 ++ l5 ++ [vl1] by rw [← List.append_assoc, ← List.append_assoc]]; exact J6
              · rw [lz] at K6; rw [List.map_append, List.map_append]
                show JR b L t B m5 (R ++ (l1.map en ++ l5.map en ++ [en vl1])) ρ6 q5
                rw [← List.append_assoc, ← List.append_assoc]; exact K6
              · rw [List.length_append, List.length_append, List.length_singleton]; omega
              · exact AG_trans ag1 (AG_trans (AG_mv _ _) (AG_trans (fun a k h => ag3 a k (by omega)) (AG_trans ag5 (ag_mono ag6 (by intro c k h; exact ⟨h.1, h.2.1⟩)))))
          · have m60 : m1 = 60 := by omega
            subst m60
            obtain ⟨σ2, ec, F2, -, -⟩ := JC_count0 ha J1 (by omega)
            obtain ⟨ρ2, em, r9⟩ := JR_makes0 (p := p1) K2
            rw [em, bd_s, if_pos rfl] at eX
            have rfX : RF t B X (fl p1 3) := by rw [eX]; exact wp_some.mpr ⟨rfl, r9⟩
            obtain ⟨σ3, es3, F3⟩ := FV_step ha F2
            obtain ⟨σ4, es4, F4⟩ := FV_add ha F3 vl1
            rw [ec, bv_s, es3, bv_s, FV_sum F3, bv_s, es4, bv_s, wp_some]
            exact Or.inl ⟨_, F4, rfX⟩
        · rw [if_neg v2]; exact bad0 (fun q => v2 q.2.2)
    · rw [if_neg c3]; exact bad0 (fun q => c3 q.1)
end
