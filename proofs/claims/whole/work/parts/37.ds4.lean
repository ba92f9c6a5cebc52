/-! tests in step: the loop of and, or -/
def wl (w : Int32) : List Int32 := if w = 0 then [] else [31]
def ol (o : Int32) : List Int32 := if o = 0 then [] else [32]
theorem pcod_e (o w : Int32) : pcod o w = wl w ++ ol o := rfl
theorem and_op : bop 31 ∧ bop 32 ∧ ∀ x y : Int64, (x = 0 ∨ x = 1) → (y = 0 ∨ y = 1) → (jn 31 x y = 0 ∨ jn 31 x y = 1) ∧ (jn 32 x y = 0 ∨ jn 32 x y = 1) := by
  refine ⟨by unfold bop; decide, by unfold bop; decide, ?_⟩
  rintro x y (rfl | rfl) (rfl | rfl) <;> decide
theorem pn_l (o w : Int32) : (pn o w).length = (pn o 0).length + (wl w).length ∧ (pn o 0).length = (ol o).length ∧ (pn o 0).length ≤ 1 ∧ (wl w).length ≤ 1 := by
  unfold pn wl ol
  by_cases h1 : o = 0 <;> by_cases h2 : w = 0 <;> simp [h1, h2]
theorem gK_w {D : Nat} {o w : Int32} {l : List Int32} (h : gK D (1 + (pn o w).length) True l) : gK D (1 + (pn o 0).length) True (l ++ wl w) := by
  rw [(pn_l o w).1] at h
  unfold wl at h ⊢
  by_cases c : w = 0
  · rw [if_pos c] at h ⊢; rw [List.append_nil]; exact h
  · rw [if_neg c] at h ⊢
    rw [Nat.add_comm 1]
    exact gK_op (j := (pn o 0).length) (A := True) (by rw [show (pn o 0).length + 2 = 1 + ((pn o 0).length + [(31 : Int32)].length) by rw [List.length_singleton]; omega]; exact h) and_op.1 (fun _ => ⟨trivial, fun x y hx hy => (and_op.2.2 x y hx hy).1⟩)
theorem gK_o {D : Nat} {o : Int32} {l : List Int32} (h : gK D (1 + (pn o 0).length) True l) : gK D 1 True (l ++ ol o) := by
  rw [(pn_l o 0).2.1] at h
  unfold ol at h ⊢
  by_cases c : o = 0
  · rw [if_pos c] at h ⊢; rw [List.append_nil]; exact h
  · rw [if_neg c] at h ⊢
    exact gK_op (j := 0) (A := True) h and_op.2.1 (fun _ => ⟨trivial, fun x y hx hy => (and_op.2.2 x y hx hy).2⟩)
section
variable {b : Nat → Int32} {L a t m p e : Nat} {B : Nat → Int32} {C : List Int32} {σ : mm_S} {kd vl : Int32}
theorem add_w (ha : 14 ≤ a) (w : Int32) (J : JC b L a m C σ p kd vl e) (hC : C.length + (wl w).length ≤ 400) : ∃ σ', (∀ F : mm_S → Option mm_S, (if w = 0 then F σ else bv (f_X5_add a 31 σ) F) = F σ') ∧ JC b L a m (C ++ wl w) σ' p kd vl e := by
  unfold wl at hC ⊢
  by_cases c : w = 0
  · exact ⟨σ, fun F => by rw [if_pos c], by rw [if_pos c, List.append_nil]; exact J⟩
  · obtain ⟨σ', e1, J1⟩ := JC_add ha J (by rw [if_neg c, List.length_singleton] at hC; omega) 31
    exact ⟨σ', fun F => by rw [if_neg c, e1, bv_s], by rw [if_neg c]; exact J1⟩
theorem add_o (ha : 14 ≤ a) (o : Int32) (J : JC b L a m C σ p kd vl e) (hC : C.length + (ol o).length ≤ 400) : ∃ σ', (∀ F : mm_S → Option mm_S, (if o = 0 then F σ else bv (f_X5_add a 32 σ) F) = F σ') ∧ JC b L a m (C ++ ol o) σ' p kd vl e := by
  unfold ol at hC ⊢
  by_cases c : o = 0
  · exact ⟨σ, fun F => by rw [if_pos c], by rw [if_pos c, List.append_nil]; exact J⟩
  · obtain ⟨σ', e1, J1⟩ := JC_add ha J (by rw [if_neg c, List.length_singleton] at hC; omega) 32
    exact ⟨σ', fun F => by rw [if_neg c, e1, bv_s], by rw [if_neg c]; exact J1⟩
end
section
variable {b : Nat → Int32} {L a t : Nat} {B : Nat → Int32}
theorem HT_s {n : Nat} (ha : 14 ≤ a) (ht : t < 6) (hb : BR b) (hF : HFc b L a t B n) : HTs b L a t B (n + 1) := by
  intro d m p e q nt nf C R K σ ρ kd vl hd hn hm J K0 hs hC hR hK hB hnt hnf
  have hL := K0.1.1.1
  have te0 := TK_e (CP_TK J.1)
  generalize hX : P1 nt nf ρ = X
  show wp (f_X4_readTest_b_8 (f_X4_rec n false) (f_X4_rec n true) 3 a (Int32.ofNat d) 0 0 0 σ) _
  unfold f_X4_readTest_b_8
  refine wp_lp (fun N v σ' => (N = 0 ∧ ∃ f, FV b L a f σ' ∧ RF t B X f) ∨ (∃ l m1 q1 p1 kd1 vl1 e1 ρ1 nt1 nf1 o w k, v = (w, o, Int32.ofNat k) ∧ N = L - p1 + 1 ∧ JC b L a m1 (C ++ l) σ' p1 kd1 vl1 e1 ∧ JT b L t B m1 (R ++ l.map en) (K ++ pn o w) d ρ1 q1 ∧ sk b L q1 = p1 ∧ P1 nt1 nf1 ρ1 = X ∧ L - p1 < nt1 ∧ L - p1 + 1 < nf1 ∧
      gK (6 + 2 * (10 - d)) (pn o w).length True l ∧ l.length + (pn o w).length + p ≤ p1 ∧ 2 * k + p ≤ p1 ∧ m1 ≤ 60 ∧ K.length + 2 + (pn o w).length ≤ p1)) ?_ lpN (L - p + 1) _ _ (Nat.lt_of_le_of_lt (show L - p + 1 ≤ 401 by omega) (by decide))
      (Or.inr ⟨[], m, q, p, kd, vl, e, ρ, nt, nf, 0, 0, 0, rfl, rfl, by rw [List.append_nil]; exact J, by rw [List.map_nil, List.append_nil, show pn 0 0 = [] by decide, List.append_nil]; exact K0, hs, hX, hnt, hnf, gK_nil _ _, by show 0 + 0 + p ≤ p; omega, by omega, hm, by show K.length + 2 + 0 ≤ p; omega⟩)
  rintro N rec v σ1 (⟨rfl, f, F, rf⟩ | ⟨l, m1, q1, p1, kd1, vl1, e1, ρ1, nt1, nf1, o, w, k, rfl, rfl, J1, K1, s1, X1, hn1, hn2, g1, len1, hk, hm1, hK1⟩) hrec
  · split
    · rw [wp_some]; exact Or.inl ⟨f, F, rf⟩
    · rw [if_neg (by rw [F.2.1]; exact F.2.2.1), wp_some]; exact Or.inl ⟨f, F, rf⟩
  · dsimp only
    have te1 := TK_e (CP_TK J1.1)
    rw [show (400 : Int32) = Int32.ofNat 400 from rfl]
    simp (disch := omega) only [n_le]
    rw [if_neg (by omega), if_pos J1.2.1]
    have lC1 : (C ++ l).length = C.length + l.length := List.length_append
    have lR1 : (R ++ l.map en).length = R.length + l.length := by rw [List.length_append, List.length_map]
    have lK1 : (K ++ pn o w).length = K.length + (pn o w).length := List.length_append
    have pl := pn_l o w
    have recF : ∀ f, RF t B X f → ∀ v σ', FV b L a f σ' → wp (rec v σ') (TO b L a t B C R K d p X) := fun f rf v σ' F => hrec 0 v σ' (by omega) (Or.inl ⟨rfl, f, F, rf⟩)
    obtain ⟨σ2, e2, O⟩ := hF d m1 p1 e1 q1 nt1 nf1 (C ++ l) (R ++ l.map en) (K ++ pn o w) σ1 ρ1 kd1 vl1 hd (by omega) hm1 J1 K1 s1 (by omega) (by omega) (by omega) hn1 hn2
    rw [e2, bv_s]
    rw [X1] at O
    rcases O with ⟨f, F, rf⟩ | ⟨ρ2, l2, m2, q2, p2, kd2, vl2, e2', nt2, nl, nc, X2, J2, K2, s2, g2, len2, pp2, hm2, h1, h2, h3⟩
    · split
      · exact FV_39t ha F (recF f rf) (fun σ' F' => Or.inl ⟨f, F', rf⟩) _ _ _
      · obtain ⟨σ3, ea, F3⟩ := FV_add ha F 31
        rw [ea, bv_s]
        exact FV_39t ha F3 (recF f rf) (fun σ' F' => Or.inl ⟨f, F', rf⟩) _ _ _
    · have T2 := CP_TK J2.1
      have te2 := TK_e T2
      obtain ⟨nl', rfl⟩ : ∃ k, nl = k + 1 := ⟨nl - 1, by omega⟩
      obtain ⟨nc', rfl⟩ : ∃ k, nc = k + 1 := ⟨nc - 1, by omega⟩
      have X3 : X = C5 nt2 (nc' + 1) ρ2 := by
        rw [X2]; unfold D3; rw [lay3 K2 (by omega) hB, bv_s]
      have lM : R ++ l.map en ++ l2.map en = R ++ (l ++ l2).map en := by rw [List.map_append, List.append_assoc]
      rw [List.append_assoc] at J2
      rw [lM] at K2
      have l12 : (l ++ l2).length = l.length + l2.length := List.length_append
      have lC2 : (C ++ (l ++ l2)).length = C.length + l.length + l2.length := by rw [List.length_append, l12]; omega
      have lR2 : (R ++ (l ++ l2).map en).length = R.length + l.length + l2.length := by rw [List.length_append, List.length_map, l12]; omega
      have g3 : gK (6 + 2 * (10 - d)) (1 + (pn o w).length) True (l ++ l2) := gK_app g1 g2 (by have := pn_len o w; omega)
      obtain ⟨σ3, ew, J3⟩ := add_w ha w J2 (by omega)
      rw [ew]
      rw [List.append_assoc] at J3
      have g4 := gK_w g3
      have lC3 : (C ++ (l ++ l2 ++ wl w)).length = C.length + l.length + l2.length + (wl w).length := by rw [List.length_append, List.length_append, l12]; omega
      unfold f_X4_readTest_b_39
      rw [x_isWord4 J3.1, bd_s]
      by_cases ca : kd2 = 1 ∧ vl2 = 17
      · -- and
        rw [if_pos ca, if_neg (show ¬ ((1 : Int32) = 0) by decide)]
        have hp := (TK_w T2 ca.1).2
        obtain ⟨σ4, kd4, vl4, e4, es, J4⟩ := JC_step ha J3 hp
        have pp4 : p2 < sk b L e2' := Nat.lt_of_lt_of_le (te2.2.2.2 hp) (ed_le isb b L e2')
        have te4 := TK_e (CP_TK J4.1)
        rw [es, bv_s, lt_eq, n_addI]
        obtain ⟨ρ3, y1, K3⟩ := lay2 ht (JT_mv (q' := e2') K2 te2.2.1) (by omega) (by omega) hB
        have lK3 : (K ++ pn o 0).length = K.length + (pn o 0).length := List.length_append
        obtain ⟨ρ4, y2, K4⟩ := pu_JT (nt := nt2) (s := 12) K3 (by omega)
        obtain ⟨nt3, rfl⟩ : ∃ k, nt2 = k + 1 := ⟨nt2 - 1, by omega⟩
        have X4 : P1 nt3 lpN ρ4 = X := by
          rw [X3, c_stay hb T2 K2 s2 (by omega) (fun q => by rw [ca.1] at q; exact absurd q.1 (by decide)), tl_and T2 K2.1 ca, y1, bv_s, y2, gF_1]
        have ep : K ++ pn o 0 ++ [12] = K ++ pn o 1 := by unfold pn; rw [if_pos rfl, if_neg (show ¬ ((1 : Int32) = 0) by decide), List.append_nil, List.append_assoc]
        have em : R ++ (l ++ l2).map en ++ (if w = 0 then [] else [12]) = R ++ (l ++ l2 ++ wl w).map en := by
          rw [List.map_append (f := en) (l₁ := l ++ l2) (l₂ := wl w), ← List.append_assoc]; congr 1; unfold wl; split <;> rfl
        rw [ep, em] at K4
        have p1l : (pn o 1).length = (pn o 0).length + 1 := by rw [(pn_l o 1).1]; rfl
        refine hrec (L - sk b L e2' + 1) _ _ (by omega) (Or.inr ⟨l ++ l2 ++ wl w, m2, e2', sk b L e2', kd4, vl4, e4, ρ4, nt3, lpN, o, 1, k + 1, rfl, rfl, J4, K4, rfl, X4, by omega, Nat.lt_of_le_of_lt (show L - sk b L e2' + 1 ≤ 401 by omega) (by decide), ?_, ?_, by omega, hm2, by omega⟩)
        · rw [p1l, Nat.add_comm (pn o 0).length 1]; exact g4
        · rw [List.length_append, l12]; omega
      · rw [if_neg ca, if_pos rfl]
        obtain ⟨σ4, eo, J4⟩ := add_o ha o J3 (by omega)
        rw [eo]
        rw [List.append_assoc] at J4
        have g5 := gK_o g4
        unfold f_X4_readTest_b_61
        rw [x_isWord4 J4.1, bd_s]
        have lP : (pcod o w).length = (wl w).length + (ol o).length := by rw [pcod_e, List.length_append]
        have lall : (l ++ l2 ++ pcod o w).length = l.length + l2.length + (wl w).length + (ol o).length := by rw [List.length_append, l12, lP]; omega
        by_cases co : kd2 = 1 ∧ vl2 = 18
        · -- or
          rw [if_pos co, if_neg (show ¬ ((1 : Int32) = 0) by decide)]
          have hp := (TK_w T2 co.1).2
          obtain ⟨σ5, kd5, vl5, e5, es, J5⟩ := JC_step ha J4 hp
          have pp4 : p2 < sk b L e2' := Nat.lt_of_lt_of_le (te2.2.2.2 hp) (ed_le isb b L e2')
          have te5 := TK_e (CP_TK J5.1)
          rw [es, bv_s, lt_eq, n_addI]
          obtain ⟨ρ3, y1, K3⟩ := lay1 ht (JT_mv (q' := e2') K2 te2.2.1) (by omega) (by omega) hB
          obtain ⟨ρ4, y2, K4⟩ := pu_JT (nt := nt2) (s := 13) K3 (by omega)
          obtain ⟨nt3, rfl⟩ : ∃ k, nt2 = k + 1 := ⟨nt2 - 1, by omega⟩
          have X4 : P1 nt3 lpN ρ4 = X := by
            rw [X3, c_stay hb T2 K2 s2 (by omega) (fun q => by rw [co.1] at q; exact absurd q.1 (by decide)), tl_or T2 K2.1 co, y1, bv_s, y2, gF_1]
          have ep : K ++ [(13 : Int32)] = K ++ pn 1 0 := rfl
          rw [ep, List.append_assoc, ← List.map_append] at K4
          refine hrec (L - sk b L e2' + 1) _ _ (by omega) (Or.inr ⟨l ++ l2 ++ pcod o w, m2, e2', sk b L e2', kd5, vl5, e5, ρ4, nt3, lpN, 1, 0, k + 1, rfl, rfl, ?_, K4, rfl, X4, by omega, Nat.lt_of_le_of_lt (show L - sk b L e2' + 1 ≤ 401 by omega) (by decide), ?_, ?_, by omega, hm2, ?_⟩)
          · rw [pcod_e, ← List.append_assoc (l ++ l2)]; exact J5
          · rw [pcod_e, ← List.append_assoc]; exact g5
          · rw [lall, show (pn 1 0).length = 1 by decide]; omega
          · rw [show (pn 1 0).length = 1 by decide]; omega
        · rw [if_neg co, if_pos rfl, wp_some]
          refine Or.inr ⟨ρ2, l ++ l2, o, w, m2, q2, p2, kd2, vl2, e2', nt2, nc' + 1, X3, ?_, K2, s2, ?_, ?_, by omega, hm2, by omega, by omega, ca, co, by omega⟩
          · rw [pcod_e, ← List.append_assoc (l ++ l2)]; exact J4
          · rw [pcod_e, ← List.append_assoc]; exact g5
          · rw [lall]; omega
theorem HH_all (ha : 14 ≤ a) (ht : t < 6) (hb : BR b) : ∀ n, HFc b L a t B n ∧ HTs b L a t B n
  | 0 => ⟨fun _ _ _ _ _ _ _ _ _ _ _ _ _ _ _ h => by omega, fun _ _ _ _ _ _ _ _ _ _ _ _ _ _ _ h => by omega⟩
  | n + 1 => ⟨HF_s ha ht hb (HH_all ha ht hb n).1 (HH_all ha ht hb n).2, HT_s ha ht hb (HH_all ha ht hb n).1⟩
end
section
variable {b : Nat → Int32} {L a t m p e q : Nat} {C R : List Int32} {B : Nat → Int32} {σ ρ : mm_S} {kd vl : Int32}
/-- a whole test -/
theorem J_test (ha : 14 ≤ a) (ht : t < 6) (hb : BR b) (hm : m ≤ 60) (J : JC b L a m C σ p kd vl e) (K : JR b L t B m R ρ q) (hs : sk b L q = p) (hC : C.length ≤ p) (hR : R.length ≤ C.length) (hp : 2 ≤ p) :
    wp (f_X4_readTest 3 a 0 σ) (fun σ' => (∃ f, FV b L a f σ' ∧ RF t B (f_X10_tested 214 ρ) f) ∨ (∃ ρ' l m' q' p' kd' vl' e', f_X10_tested 214 ρ = some (1, ρ') ∧ JC b L a m' (C ++ l) σ' p' kd' vl' e' ∧ JR b L t B m' (R ++ l.map en) ρ' q' ∧ sk b L q' = p' ∧ gK 26 1 True l ∧ l.length + p ≤ p' ∧ p < p' ∧ m' ≤ 60)) := by
  have hL := K.1.1
  unfold f_X4_readTest f_X10_tested
  have K1 : JT b L t B m R [] 0 (su_i (su_i ρ 214 16 0) 214 13 0) q := by
    refine ⟨JR_keep K (fun a k g => ?_), ?_, fun i hi => absurd hi (by simp), rd_is _ _ _ _⟩
    · rw [rd_ii, if_neg (by omega), rd_ii, if_neg (by omega)]
    · rw [rd_ik _ _ _ _ _ _ (by omega), rd_is]; rfl
  rw [lt_eq, lt_eq, tes_eq, show lpN = 999999 + 1 from rfl, gF_1]
  have h := (HH_all (L := L) (B := B) ha ht hb 40).2 0 m p e q 999999 lpN C R [] σ _ kd vl (by omega) (by omega) hm J K1 hs hC hR (by simpa using hp) (Or.inl rfl) (by omega) (Nat.lt_of_le_of_lt (show L - p + 1 ≤ 401 by omega) (by decide))
  refine wp_mono h (fun σ' O => ?_)
  rcases O with ⟨f, F, rf⟩ | ⟨ρ3, l, o, w, m3, q3, p3, kd3, vl3, e3, nt3, nc, X3, J3, K3, s3, g3, len3, pp3, hm3, h1, h2, na, no, hK3⟩
  · exact Or.inl ⟨f, F, rf⟩
  · have T3 := CP_TK J3.1
    have te3 := TK_e T3
    have pl := pn_len o w
    have lP : (l ++ pcod o w).length = l.length + (pcod o w).length := List.length_append
    have lR : (R ++ l.map en).length = R.length + l.length := by rw [List.length_append, List.length_map]
    obtain ⟨nc', rfl⟩ : ∃ k, nc = k + 1 := ⟨nc - 1, by omega⟩
    obtain ⟨nt', rfl⟩ : ∃ k, nt3 = k + 1 := ⟨nt3 - 1, by omega⟩
    rw [List.nil_append] at K3
    have K3' : JT b L t B m3 (R ++ l.map en) ([] ++ pn o w) 0 (mv ρ3 p3) p3 := by rw [List.nil_append]; exact JT_mv K3 te3.1
    have n91 : ¬ (91 : Int32) ∈ pn o w := by
      unfold pn
      by_cases c1 : o = 0 <;> by_cases c2 : w = 0 <;> simp [c1, c2]
    obtain ⟨ρ5, X5, K5⟩ := lay1 ht K3' (by simp) (by omega) (Or.inl rfl)
    rw [List.append_assoc, ← List.map_append] at K5
    refine Or.inr ⟨ρ5, l ++ pcod o w, m3, p3, p3, kd3, vl3, e3, ?_, J3, K5.1, TK_sk T3, g3, len3, pp3, hm3⟩
    rw [List.nil_append] at K3'
    rw [X3, c_stay hb T3 K3 s3 (by omega) (fun q => n91 q.2.2), tl_end T3 K3.1 na no, lp_s, gF, if_pos rfl, r_inK K3' (by omega), bd_s, if_neg n91, if_pos rfl, lay_eq, X5, bv_s]
end
