/-! sums in step: the class's loop -/
def AG (ρ ρ' : mm_S) : Prop := ag (fun a k => a ≠ 216 ∧ a ≠ 217 ∧ ¬ (a = 214 ∧ 8 ≤ k ∧ k ≤ 12)) ρ ρ'
theorem AG_trans {ρ ρ' ρ'' : mm_S} (h : AG ρ ρ') (h' : AG ρ' ρ'') : AG ρ ρ'' := fun a k q => (h' a k q).trans (h a k q)
theorem AG_mv (ρ : mm_S) (q : Nat) : AG ρ (mv ρ q) := fun a k h => mv_o _ _ (by omega)
theorem AG_refl (ρ : mm_S) : AG ρ ρ := fun a k _ => rfl
def ctw (x : Int32) : Nat := if x = -1 then 0 else 1
theorem lz (x : Int32) : x + 16 * 0 = x := by rw [Int32.mul_zero, Int32.add_zero]
theorem lapp (C : List Int32) (l : List Int32) (c : Int32) : C ++ l ++ [c] = C ++ (l ++ [c]) := List.append_assoc _ _ _
theorem lmap (R : List Int32) (l : List Int32) (c : Int32) : R ++ l.map en ++ [en c] = R ++ (l ++ [c]).map en := by rw [List.map_append, List.append_assoc]; rfl
theorem bop_of {x : Int32} (h : x = 20 ∨ x = 21 ∨ (22 ≤ x ∧ x ≤ 24)) : bop x ∧ ¬ (x = -1) := by
  rw [Int32.le_iff_toInt_le, Int32.le_iff_toInt_le, ← Int32.toInt_inj, ← Int32.toInt_inj, show (20 : Int32).toInt = 20 by decide, show (21 : Int32).toInt = 21 by decide, show (22 : Int32).toInt = 22 by decide, show (24 : Int32).toInt = 24 by decide] at h
  refine ⟨?_, ?_⟩
  · unfold bop
    rw [Int32.le_iff_toInt_le, Int32.le_iff_toInt_le, Int32.le_iff_toInt_le, Int32.le_iff_toInt_le, Int32.lt_iff_toInt_lt, Int32.lt_iff_toInt_lt, Ne, ← Int32.toInt_inj, show (0 : Int32).toInt = 0 by decide, show (100040 : Int32).toInt = 100040 by decide, show (20 : Int32).toInt = 20 by decide, show (32 : Int32).toInt = 32 by decide, show (40 : Int32).toInt = 40 by decide, show (13 : Int32).toInt = 13 by decide, show (30 : Int32).toInt = 30 by decide]
    omega
  · rw [← Int32.toInt_inj, show (-1 : Int32).toInt = -1 by decide]; omega
section
variable {b : Nat → Int32} {L a t m p e q : Nat} {C R : List Int32} {B : Nat → Int32} {σ ρ : mm_S} {kd vl f : Int32}
theorem FV_sum (h : FV b L a f σ) : f_X4_readSum 3 a σ = some σ := by
  unfold f_X4_readSum f_X4_readSum_7
  rw [show lpN = 999999 + 1 from rfl, lp_s, if_neg (by decide), if_neg (by rw [h.2.1]; exact h.2.2.1)]
theorem x_isSign (h : CP b L σ p kd vl e) (s : Int32) : f_X4_isSign 3 s σ = some (if kd = 3 ∧ vl = s then 1 else 0, σ) := by
  have c := CP_c h
  unfold f_X4_isSign
  rw [c.1, c.2.1]
  by_cases c1 : kd = 3
  · rw [if_pos c1]
    by_cases c2 : vl = s
    · rw [if_pos c2, if_pos ⟨c1, c2⟩]
    · rw [if_neg c2, if_neg (fun q => c2 q.2)]
  · rw [if_neg c1, if_neg (fun q => c1 q.1)]
theorem x_isWord4 (h : CP b L σ p kd vl e) (s : Int32) : f_X4_isWord 3 s σ = some (if kd = 1 ∧ vl = s then 1 else 0, σ) := by
  have c := CP_c h
  unfold f_X4_isWord
  rw [c.1, c.2.1]
  by_cases c1 : kd = 1
  · rw [if_pos c1]
    by_cases c2 : vl = s
    · rw [if_pos c2, if_pos ⟨c1, c2⟩]
    · rw [if_neg c2, if_neg (fun q => c2 q.2)]
  · rw [if_neg c1, if_neg (fun q => c1 q.1)]
theorem FV_39 {Q : mm_S → Prop} {rec : Int32 × Int32 × Int32 → mm_S → Option mm_S} (ha : 14 ≤ a) (h : FV b L a f σ) (hrec : ∀ v σ', FV b L a f σ' → wp (rec v σ') Q) (hQ : ∀ σ', FV b L a f σ' → Q σ') (aw mw k : Int32) : wp (f_X4_readSum_39 rec 3 a aw mw k σ) Q := by
  have h102 : ∀ σ', FV b L a f σ' → wp (f_X4_readSum_102 rec 3 a mw k σ') Q := by
    intro σ' h'
    unfold f_X4_readSum_102
    obtain ⟨τ, e1, h1⟩ := FV_step ha h'
    rw [lt_eq, e1, bv_s, lt_eq]; exact hrec _ _ h1
  have h83 : ∀ σ', FV b L a f σ' → wp (f_X4_readSum_83 rec 3 a mw k σ') Q := by
    intro σ' h'
    obtain ⟨p, kd, vl, e, c⟩ := h'.1
    unfold f_X4_readSum_83
    rw [x_isSign c, bd_s, x_isSign c, bd_s]
    generalize (if kd = 3 ∧ vl = 20 then (1 : Int32) else 0) = x
    generalize (if kd = 3 ∧ vl = 21 then (1 : Int32) else 0) = y
    split
    · split
      · rw [wp_some]; exact hQ _ h'
      · exact h102 _ h'
    · exact h102 _ h'
  have h73 : wp (f_X4_readSum_73 rec 3 a aw mw k σ) Q := by
    unfold f_X4_readSum_73
    split
    · exact h83 _ h
    · obtain ⟨τ, e1, h1⟩ := FV_add ha h aw
      rw [e1, bv_s]; exact h83 _ h1
  unfold f_X4_readSum_39
  split
  · split
    · exact h73
    · split
      · exact h73
      · obtain ⟨τ, e1, h1⟩ := FV_step ha h
        rw [lt_eq, e1, bv_s, lt_eq]; exact hrec _ _ h1
  · exact h73
def SO1 (b : Nat → Int32) (L a t : Nat) (B : Nat → Int32) (C R : List Int32) (p : Nat) (ρ : mm_S) (X : Option (Int32 × mm_S)) (j D : Nat) (A : Prop) (σ' : mm_S) : Prop :=
  (∃ f, FV b L a f σ' ∧ RF t B X f) ∨ (∃ ρ' l m' q' p' kd' vl' e', X = some (1, ρ') ∧ JC b L a m' (C ++ l) σ' p' kd' vl' e' ∧ JR b L t B m' (R ++ l.map en) ρ' q' ∧ sk b L q' = p' ∧ gK D j A l ∧ l.length + p ≤ p' ∧ p < p' ∧ m' ≤ 60 ∧ AG ρ ρ')
theorem J_sum (ha : 14 ≤ a) (ht : t < 6) (hb : BR b) (hm : m ≤ 60) (J : JC b L a m C σ p kd vl e) (K : JR b L t B m R ρ q) (hs : sk b L q = p) (hC : C.length ≤ p) (hR : R.length ≤ C.length) :
    wp (f_X4_readSum 3 a σ) (SO1 b L a t B C R p ρ (f_X10_sum 214 ρ) 1 3 False) := by
  have hL := K.1.1
  have te0 := TK_e (CP_TK J.1)
  generalize hX : f_X10_sum 214 ρ = X
  rw [sum_RC] at hX
  unfold f_X4_readSum f_X4_readSum_7
  refine wp_lp (fun n v σ' => (n = 0 ∧ ∃ f, FV b L a f σ' ∧ RF t B X f) ∨ (∃ l m' q' p' kd' vl' e' ρ' n1 n2 aw mw k, v = (aw, mw, Int32.ofNat k) ∧ n = L - p' + 1 ∧ JC b L a m' (C ++ l) σ' p' kd' vl' e' ∧ JR b L t B m' (R ++ l.map en) ρ' q' ∧ sk b L q' = p' ∧ RC aw mw n1 n2 ρ' = X ∧ L - p' < n1 ∧ L - p' < n2 ∧
      (aw = -1 ∨ aw = 20 ∨ aw = 21) ∧ (mw = -1 ∨ (22 ≤ mw ∧ mw ≤ 24)) ∧ gK 3 (ctw aw + ctw mw) False l ∧ l.length + ctw aw + ctw mw + p ≤ p' ∧ k ≤ m' ∧ m' ≤ 60 ∧ AG ρ ρ')) ?_ lpN (L - p + 1) _ _ (Nat.lt_of_le_of_lt (show L - p + 1 ≤ 401 by omega) (by decide))
      (Or.inr ⟨[], m, q, p, kd, vl, e, ρ, lpN, lpN, -1, -1, 0, rfl, rfl, by rw [List.append_nil]; exact J, by rw [List.map_nil, List.append_nil]; exact K, hs, hX, Nat.lt_of_le_of_lt (show L - p ≤ 400 by omega) (by decide), Nat.lt_of_le_of_lt (show L - p ≤ 400 by omega) (by decide), Or.inl rfl, Or.inl rfl, gK_nil _ _, by show 0 + 0 + 0 + p ≤ p; omega, by omega, hm, AG_refl ρ⟩)
  rintro n rec v σ1 (⟨rfl, f, F, rf⟩ | ⟨l, m1, q1, p1, kd1, vl1, e1, ρ1, n1, n2, aw, mw, k, rfl, rfl, J1, K1, s1, X1, hn1, hn2, haw, hmw, g1, len1, hk, hm1, ag1⟩) hrec
  · split
    · rw [wp_some]; exact Or.inl ⟨f, F, rf⟩
    · rw [if_neg (by rw [F.2.1]; exact F.2.2.1), wp_some]; exact Or.inl ⟨f, F, rf⟩
  · dsimp only
    have te1 := TK_e (CP_TK J1.1)
    rw [show (400 : Int32) = Int32.ofNat 400 from rfl]
    simp (disch := omega) only [n_le]
    rw [if_neg (by omega), if_pos J1.2.1]
    have lenC : (C ++ l).length = C.length + l.length := List.length_append
    have lenR : (R ++ l.map en).length = R.length + l.length := by rw [List.length_append, List.length_map]
    have recF : ∀ f, RF t B X f → ∀ v σ', FV b L a f σ' → wp (rec v σ') (SO1 b L a t B C R p ρ X 1 3 False) := fun f rf v σ' F => hrec 0 v σ' (by omega) (Or.inl ⟨rfl, f, F, rf⟩)
    rcases J_value ha ht hm1 J1 K1 s1 (by omega) (by omega) with ⟨f, ⟨σ2, ev, F⟩, rf⟩ | ⟨σ2, ρ2, c, kd2, vl2, e2, ev, er, hc, m60, hp1, J2, K2, ag2⟩
    · have rfX : RF t B X f := by
        rw [← X1]
        obtain ⟨⟨r, s⟩, er, r0, r9⟩ := rf
        dsimp only at r0 r9
        unfold RC; rw [er, bd_s, if_pos r0]; exact wp_some.mpr ⟨rfl, r9⟩
      rw [ev, bv_s]
      split
      · exact FV_39 ha F (recF f rfX) (fun σ' F' => Or.inl ⟨f, F', rfX⟩) _ _ _
      · obtain ⟨σ3, ea, F3⟩ := FV_add ha F mw
        rw [ea, bv_s]
        exact FV_39 ha F3 (recF f rfX) (fun σ' F' => Or.inl ⟨f, F', rfX⟩) _ _ _
    · rw [ev, bv_s]
      rw [lapp] at J2
      rw [lmap] at K2
      have X2 : (bv (af mw ρ2) fun s2 => bd (lp n1 tF () s2) fun r3 s3 => if r3 = 0 then some (0, s3) else bv (af aw s3) fun s4 => lp n2 sF () s4) = X := by
        rw [← X1]; unfold RC; rw [er, bd_s, if_neg (show ¬ ((1 : Int32) = 0) by decide)]
      have te2 := TK_e (CP_TK J2.1)
      have p12 : p1 < sk b L e1 := Nat.lt_of_lt_of_le (te1.2.2.2 hp1) (ed_le isb b L e1)
      have ctm : ctw mw ≤ 1 := by unfold ctw; split <;> omega
      have cta : ctw aw ≤ 1 := by unfold ctw; split <;> omega
      have g2 : gK 3 (ctw aw + ctw mw + 1) False (l ++ [c]) := gK_val g1 hc (by omega)
      -- behind the value and what waited to multiply
      have tail : ∀ (σ3 ρ3 : mm_S) (l3 : List Int32), JC b L a (m1 + 1) (C ++ l3) σ3 (sk b L e1) kd2 vl2 e2 → JR b L t B (m1 + 1) (R ++ l3.map en) ρ3 e1 → gK 3 (ctw aw + 1) False l3 → l3.length + ctw aw + p ≤ sk b L e1 → AG ρ ρ3 →
          (bd (lp n1 tF () ρ3) fun r3 s3 => if r3 = 0 then some (0, s3) else bv (af aw s3) fun s4 => lp n2 sF () s4) = X → wp (f_X4_readSum_39 rec 3 a aw (-1) (Int32.ofNat k) σ3) (SO1 b L a t B C R p ρ X 1 3 False) := by
        intro σ3 ρ3 l3 J3 K3 g3 len3 ag3 X3
        obtain ⟨n1', rfl⟩ : ∃ n, n1 = n + 1 := ⟨n1 - 1, by omega⟩
        obtain ⟨n2', rfl⟩ : ∃ n, n2 = n + 1 := ⟨n2 - 1, by omega⟩
        have T3 := CP_TK J3.1
        have lenC3 : (C ++ l3).length = C.length + l3.length := List.length_append
        have lenR3 : (R ++ l3.map en).length = R.length + l3.length := by rw [List.length_append, List.length_map]
        unfold f_X4_readSum_39
        rw [(CP_c J3.1).1, (CP_c J3.1).2.1]
        by_cases cm : kd2 = 3 ∧ 22 ≤ vl2 ∧ vl2 ≤ 24
        · obtain ⟨X4, ee⟩ := term_mul (n1 := n1') (n2 := n2' + 1) (aw := aw) hb K3 rfl T3 cm.1 cm.2
          have hp2 := (TK_3 T3 cm.1).1
          rw [if_pos cm.1, if_neg (by rw [Int32.not_lt]; exact cm.2.1), if_neg (by rw [Int32.not_lt]; exact cm.2.2), lt_eq]
          obtain ⟨σ4, kd4, vl4, e4, es, J4⟩ := JC_step ha J3 hp2
          rw [es, bv_s, lt_eq, n_addI]
          have p34 : sk b L e1 < sk b L e2 := Nat.lt_of_lt_of_le (te2.2.2.2 hp2) (ed_le isb b L e2)
          have te4 := TK_e (CP_TK J4.1)
          have vne := (bop_of (Or.inr (Or.inr cm.2))).2
          have ctv : ctw vl2 = 1 := if_neg vne
          refine hrec (L - sk b L e2 + 1) _ _ (by omega) (Or.inr ⟨l3, m1 + 1, e2, sk b L e2, kd4, vl4, e4, mv ρ3 e2, n1', n2' + 1, aw, vl2, k + 1, rfl, rfl, J4, JR_mv K3 te2.2.1, rfl, ?_, by omega, by omega, haw, Or.inr cm.2, ?_, by omega, by omega, by omega, AG_trans ag3 (AG_mv _ _)⟩)
          · rw [← X4, X3]
          · rw [ctv]; exact g3
        · have X4 : (bv (af aw (mv ρ3 (sk b L e1))) fun s4 => lp (n2' + 1) sF () s4) = X := by
            rw [← X3, term_end (n1 := n1') hb K3 rfl T3 cm, bd_s, if_neg (show ¬ ((1 : Int32) = 0) by decide)]
          have h73 : wp (f_X4_readSum_73 rec 3 a aw (-1) (Int32.ofNat k) σ3) (SO1 b L a t B C R p ρ X 1 3 False) := by
            have K4 := JR_mv (q' := sk b L e1) K3 te2.1
            have tail2 : ∀ (σ5 ρ5 : mm_S) (l5 : List Int32), JC b L a (m1 + 1) (C ++ l5) σ5 (sk b L e1) kd2 vl2 e2 → JR b L t B (m1 + 1) (R ++ l5.map en) ρ5 (sk b L e1) → gK 3 1 False l5 → l5.length + p ≤ sk b L e1 → AG ρ ρ5 → lp (n2' + 1) sF () ρ5 = X →
                wp (f_X4_readSum_83 rec 3 a (-1) (Int32.ofNat k) σ5) (SO1 b L a t B C R p ρ X 1 3 False) := by
              intro σ5 ρ5 l5 J5 K5 g5 len5 ag5 X5
              unfold f_X4_readSum_83
              rw [x_isSign J5.1, bd_s, x_isSign J5.1, bd_s]
              have add : kd2 = 3 → (vl2 = 20 ∨ vl2 = 21) → wp (f_X4_readSum_102 rec 3 a (-1) (Int32.ofNat k) σ5) (SO1 b L a t B C R p ρ X 1 3 False) := by
                intro k3 v2
                obtain ⟨X6, ee⟩ := sum_add (n2 := n2') hb K5 (sk_idem _ _ _) T3 k3 v2
                have hp2 := (TK_3 T3 k3).1
                unfold f_X4_readSum_102
                rw [(CP_c J5.1).2.1, lt_eq]
                obtain ⟨σ6, kd6, vl6, e6, es, J6⟩ := JC_step ha J5 hp2
                rw [es, bv_s, lt_eq, n_addI]
                have p34 : sk b L e1 < sk b L e2 := Nat.lt_of_lt_of_le (te2.2.2.2 hp2) (ed_le isb b L e2)
                have te6 := TK_e (CP_TK J6.1)
                have vne := (bop_of (x := vl2) (by rcases v2 with h | h; exact Or.inl h; exact Or.inr (Or.inl h))).2
                have ctv : ctw vl2 = 1 := if_neg vne
                refine hrec (L - sk b L e2 + 1) _ _ (by omega) (Or.inr ⟨l5, m1 + 1, e2, sk b L e2, kd6, vl6, e6, mv ρ5 e2, lpN, n2', vl2, -1, k + 1, rfl, rfl, J6, JR_mv K5 te2.2.1, rfl, ?_, Nat.lt_of_le_of_lt (show L - sk b L e2 ≤ 400 by omega) (by decide), by omega, Or.inr v2, Or.inl rfl, ?_, ?_, by omega, by omega, AG_trans ag5 (AG_mv _ _)⟩)
                · rw [← X6, X5]
                · rw [ctv]; exact g5
                · rw [ctv]; show l5.length + 1 + 0 + p ≤ _; omega
              by_cases c20 : kd2 = 3 ∧ vl2 = 20
              · rw [if_pos c20, if_neg (by decide)]; exact add c20.1 (Or.inl c20.2)
              · rw [if_neg c20, if_pos rfl]
                by_cases c21 : kd2 = 3 ∧ vl2 = 21
                · rw [if_pos c21, if_neg (by decide)]; exact add c21.1 (Or.inr c21.2)
                · rw [if_neg c21, if_pos rfl, wp_some]
                  refine Or.inr ⟨mv ρ5 (sk b L e1), l5, m1 + 1, sk b L e1, sk b L e1, kd2, vl2, e2, ?_, J5, JR_mv K5 te2.1, sk_idem _ _ _, g5, len5, by omega, by omega, AG_trans ag5 (AG_mv _ _)⟩
                  rw [← X5, sum_end (n2 := n2') hb K5 (sk_idem _ _ _) T3 c20 c21]
            unfold f_X4_readSum_73
            by_cases ca : aw = -1
            · rw [if_pos ca]
              rw [ca, af_m, bv_s] at X4
              have cta0 : ctw aw = 0 := if_pos ca
              rw [cta0] at g3
              exact tail2 _ _ l3 J3 K4 g3 (by omega) (AG_trans ag3 (AG_mv _ _)) X4
            · rw [if_neg ca]
              have cta1 : ctw aw = 1 := if_neg ca
              have hop := (bop_of (x := aw) (by rcases haw with h | h | h; exact absurd h ca; exact Or.inl h; exact Or.inr (Or.inl h)))
              obtain ⟨σ5, ea, J5⟩ := JC_add ha J3 (by omega) aw
              obtain ⟨ρ5, ep, K5, ag5⟩ := JR_puts ht K4 (by omega) (en aw) 0
              rw [af_n ca, ep, bv_s] at X4
              rw [lz, lmap] at K5
              rw [lapp] at J5
              rw [ea, bv_s]
              rw [cta1] at g3
              refine tail2 _ _ (l3 ++ [aw]) J5 K5 (gK_op (A' := False) g3 hop.1 (fun h => h.elim)) ?_ (AG_trans (AG_trans ag3 (AG_mv _ _)) (ag_mono ag5 (by intro c k h; exact ⟨h.1, h.2.1⟩))) X4
              rw [List.length_append, List.length_singleton]; omega
          by_cases k3 : kd2 = 3
          · rw [if_pos k3]
            by_cases v1 : vl2 < 22
            · rw [if_pos v1]; exact h73
            · rw [if_neg v1]
              by_cases v2 : 24 < vl2
              · rw [if_pos v2]; exact h73
              · exact absurd ⟨k3, by rw [Int32.not_lt] at v1; exact v1, by rw [Int32.not_lt] at v2; exact v2⟩ cm
          · rw [if_neg k3]; exact h73
      by_cases cw : mw = -1
      · rw [if_pos cw]
        have ctm0 : ctw mw = 0 := if_pos cw
        rw [ctm0] at g2
        rw [cw, af_m, bv_s] at X2
        rw [cw]
        exact tail _ _ (l ++ [c]) J2 K2 g2 (by rw [List.length_append, List.length_singleton]; omega) (AG_trans ag1 ag2) X2
      · rw [if_neg cw]
        have ctm1 : ctw mw = 1 := if_neg cw
        have hop := (bop_of (x := mw) (Or.inr (Or.inr (hmw.resolve_left cw))))
        have l1C : (C ++ (l ++ [c])).length = C.length + l.length + 1 := by rw [List.length_append, List.length_append, List.length_singleton]; omega
        have l1R : (R ++ (l ++ [c]).map en).length = R.length + l.length + 1 := by rw [List.length_append, List.length_map, List.length_append, List.length_singleton]; omega
        obtain ⟨σ3, ea, J3⟩ := JC_add ha J2 (by omega) mw
        obtain ⟨ρ3, ep, K3, ag3⟩ := JR_puts ht K2 (by omega) (en mw) 0
        rw [af_n cw, ep, bv_s] at X2
        rw [lz, lmap] at K3
        rw [lapp] at J3
        rw [ea, bv_s]
        rw [ctm1] at g2
        refine tail _ _ (l ++ [c] ++ [mw]) J3 K3 (gK_op (A' := False) g2 hop.1 (fun h => h.elim)) ?_ (AG_trans (AG_trans ag1 ag2) (ag_mono ag3 (by intro c k h; exact ⟨h.1, h.2.1⟩))) X2
        rw [List.length_append, List.length_append, List.length_singleton, List.length_singleton]; omega
end
