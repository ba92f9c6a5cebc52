/-! a whole RULE in step -/
def hF (k35 : Int32 → mm_S → Option (Int32 × mm_S)) (v : Int32) (σ : mm_S) : Option (Int32 × mm_S) :=
    if v = 0 then
      f_X10_readsAll_66 214 v σ
    else
      bd (f_X10_see 214 σ) fun r15 σ14 =>
      if r15 = (59 : Int32) then
        lt (su_i σ14 214 8 ((σ14.1 214 8) + (1 : Int32))) fun σ17 =>
        bd (f_X10_clauseHere 214 σ17) fun r21 σ20 =>
        k35 r21 σ20
      else
        f_X10_readsAll_66 214 v σ14
theorem ra_eq (i : Int32) (ρ : mm_S) : f_X10_readsAll_35 214 i ρ = lp lpN hF i ρ := by
  unfold f_X10_readsAll_35; exact congrFun (congrFun (congrArg (lp lpN) (funext fun k => funext fun v => funext fun σ => rfl)) i) _
/-- what reading all gives: failed -/
def YF (t : Nat) (B B2 B3 : Nat → Int32) (Y : Option (Int32 × mm_S)) (f : Int32) : Prop := wp Y (fun r => r.1 = 0 ∧ RG t B f r.2 ∧ (∀ j, j < 48 * t → r.2.1 218 j = B2 j) ∧ (∀ j, j < t → r.2.1 219 j = B3 j) ∧ r.2.1 214 1 = 0)
theorem r_88 {s : mm_S} {f : Int32} (h : s.1 214 9 = f) : f_X10_readsAll_88 214 s = some (if f = 0 then 1 else 0, su_i s 214 1 0) := by
  unfold f_X10_readsAll_88
  rw [lt_eq, rd_ik _ _ _ _ _ _ (by omega), h]
  split <;> rfl
theorem YF_0 {t : Nat} {B B2 B3 : Nat → Int32} {n : Nat} {X : Option (Int32 × mm_S)} {f : Int32} (hf : f ≠ 0) (h : RFk t B B2 B3 X f) : YF t B B2 B3 (bd X fun r s => lp (n + 1) hF r s) f := by
  obtain ⟨⟨r, s⟩, er, r0, r9, r8, r7⟩ := h
  dsimp only at r0 r9 r8 r7
  rw [er, bd_s, r0, lp_so, hF, if_pos rfl]
  unfold f_X10_readsAll_66
  rw [if_pos rfl, r_88 r9.1, if_neg hf]
  exact wp_some.mpr ⟨rfl, ⟨(rd_ik _ _ _ _ _ _ (by omega)).trans r9.1, fun j hj => (rd_ia _ _ _ _ _ _ (by omega)).trans (r9.2 j hj)⟩, fun j hj => (rd_ia _ _ _ _ _ _ (by omega)).trans (r8 j hj), fun j hj => (rd_ia _ _ _ _ _ _ (by omega)).trans (r7 j hj), rd_is _ _ _ _⟩
section
variable {b : Nat → Int32} {L a t : Nat} {B B2 B3 : Nat → Int32}
/-- what a whole RULE gives -/
def UO (b : Nat → Int32) (L a t : Nat) (B B2 B3 : Nat → Int32) (Y : Option (Int32 × mm_S)) (σ' : mm_S) : Prop :=
  (∃ f, FV b L a f σ' ∧ YF t B B2 B3 Y f) ∨ (∃ cls ρ', Y = some (1, ρ') ∧ σ'.1 3 9 = 0 ∧ σ'.1 a 1 = Int32.ofNat (cls.flatMap ccode).length ∧ (∀ i, i < (cls.flatMap ccode).length → σ'.1 (a + 1) i = (cls.flatMap ccode).getD i 0) ∧ (cls.flatMap ccode).length ≤ 400 ∧ (cls.flatMap rcode).length ≤ 400 ∧
    (∀ i, i < (cls.flatMap rcode).length → ρ'.1 216 (400 * t + i) = (cls.flatMap rcode).getD i 0) ∧ (∀ j, j < 400 * t → ρ'.1 216 j = B j) ∧ JK t B2 B3 cls ρ' ∧ cls.length ≤ 12 ∧ ρ'.1 214 1 = 0)
theorem rl_le (cls : List (List Int32 × Option (List Int32))) : (cls.flatMap rcode).length ≤ (cls.flatMap ccode).length := by
  induction cls with
  | nil => exact Nat.le_refl _
  | cons x r ih => rw [List.flatMap_cons, List.flatMap_cons, List.length_append, List.length_append]; have := rc_len x; omega
theorem J_rule {σ ρ : mm_S} {p e q : Nat} {kd vl : Int32} (ha : 14 ≤ a) (ht : t < 6) (hb : BR b) (J : JC b L a 0 [] σ p kd vl e) (K : JR b L t B 0 [] ρ q) (hs : sk b L q = p) (hk : JK t B2 B3 [] ρ) :
    wp (f_X4_readRule_11 3 a 0 σ) (UO b L a t B B2 B3 (bd (f_X10_clauseHere 214 ρ) fun r s => f_X10_readsAll_35 214 r s)) := by
  have hL := K.1.1
  have te0 := TK_e (CP_TK J.1)
  simp only [ra_eq]
  generalize hY : (bd (f_X10_clauseHere 214 ρ) fun r s => lp lpN hF r s) = Y
  unfold f_X4_readRule_11
  refine wp_lp (fun N v σ' => (N = 0 ∧ ∃ f, FV b L a f σ' ∧ YF t B B2 B3 Y f) ∨ (∃ cls m1 q1 p1 kd1 vl1 e1 ρ1 n1, v = Int32.ofNat cls.length ∧ N = L - p1 + 1 ∧ JC b L a m1 (cls.flatMap ccode) σ' p1 kd1 vl1 e1 ∧ JR b L t B m1 (cls.flatMap rcode) ρ1 q1 ∧ sk b L q1 = p1 ∧ JK t B2 B3 cls ρ1 ∧ (cls.flatMap ccode).length ≤ p1 ∧ m1 ≤ 60 ∧ cls.length ≤ 12 ∧ (bd (f_X10_clauseHere 214 ρ1) fun r s => lp n1 hF r s) = Y ∧ L - p1 < n1)) ?_ lpN (L - p + 1) _ _ (Nat.lt_of_le_of_lt (show L - p + 1 ≤ 401 by omega) (by decide))
    (Or.inr ⟨[], 0, q, p, kd, vl, e, ρ, lpN, rfl, rfl, J, K, hs, hk, Nat.zero_le _, by omega, Nat.zero_le _, hY, Nat.lt_of_le_of_lt (show L - p ≤ 400 by omega) (by decide)⟩)
  rintro N rec v σ1 (⟨rfl, f, F, yf⟩ | ⟨cls, m1, q1, p1, kd1, vl1, e1, ρ1, n1, rfl, rfl, J1, K1, s1, hk1, len1, hm1, hN, Y1, hn1⟩) hrec
  · split
    · rw [wp_some]; exact Or.inl ⟨f, F, yf⟩
    · rw [if_neg (by rw [F.2.1]; exact F.2.2.1), wp_some]; exact Or.inl ⟨f, F, yf⟩
  · have T1 := CP_TK J1.1
    have te1 := TK_e T1
    have rl := rl_le cls
    have recF : ∀ f, YF t B B2 B3 Y f → ∀ v σ', FV b L a f σ' → wp (rec v σ') (UO b L a t B B2 B3 Y) := fun f yf v σ' F => hrec 0 v σ' (by omega) (Or.inl ⟨rfl, f, F, yf⟩)
    have hfail : ∀ f σ', FV b L a f σ' → RFk t B B2 B3 (f_X10_clauseHere 214 ρ1) f → ∀ v, wp (f_X4_readRule_52 rec 3 a v σ') (UO b L a t B B2 B3 Y) := by
      intro f σ' F rf v
      obtain ⟨n1', rfl⟩ : ∃ k, n1 = k + 1 := ⟨n1 - 1, by omega⟩
      have yf : YF t B B2 B3 Y f := by rw [← Y1]; exact YF_0 F.2.2.1 rf
      obtain ⟨σ2, e2, F2⟩ := FV_52 (rec := rec) ha F v
      rw [e2]
      exact FV_95 ha F2 v (recF f yf) (fun σ' F' => Or.inl ⟨f, F', yf⟩)
    -- the reference's clause
    have K2 := JR_mv (q' := p1) K1 te1.1
    have rgk : ∀ f, RFk t B B2 B3 (some (0, su_i (mv ρ1 p1) 214 9 f)) f := fun f => wp_some.mpr ⟨rfl, RG_i K2 f, fun j hj => by rw [rd_ia _ _ _ _ _ _ (by omega), mv_o _ _ (by omega)]; exact hk1.2.2.2.1 j hj, fun j hj => by rw [rd_ia _ _ _ _ _ _ (by omega), mv_o _ _ (by omega)]; exact hk1.2.2.2.2.1 j hj⟩
    have ws : f_X10_isWord 214 (627883 : Int64) (mv ρ1 p1) = some (if kd1 = 1 ∧ vl1 = 15 then 1 else 0, mv ρ1 p1) := w_k (k := 15) (by omega) T1 K1
    have c24 : f_X10_clauseHere 214 ρ1 = f_X10_clauseHere_24 214 (Int32.ofNat p1) 0 (mv ρ1 p1) := by
      unfold f_X10_clauseHere
      rw [JR_see K1 s1, bd_s, lt_eq, mv_8, K2.2.2.2.2.2.1, if_neg (by rw [show (6 : Int32) = Int32.ofNat 6 from rfl, n_eq (by omega) (by omega)]; omega)]
    have l14 : (mv ρ1 p1).1 214 14 = Int32.ofNat cls.length := (mv_o _ _ (by omega)).trans hk1.1
    rw [show (12 : Int32) = Int32.ofNat 12 from rfl]
    simp (disch := omega) only [n_lt]
    rw [if_neg (by omega), if_pos J1.2.1, x_isWord4 J1.1, bd_s]
    by_cases c1 : kd1 = 1 ∧ vl1 = 15
    · rw [if_pos c1, if_neg (show ¬ ((1 : Int32) = 0) by decide)]
      have c71 : f_X10_clauseHere 214 ρ1 = f_X10_clauseHere_71 214 (Int32.ofNat p1) 0 (Int32.ofNat cls.length) 12 (mv ρ1 p1) := by
        rw [c24]
        unfold f_X10_clauseHere_24 f_X10_clauseHere_56
        rw [if_pos rfl, ws, bd_s, if_pos c1, if_neg (show ¬ ((1 : Int32) = 0) by decide), if_pos rfl, l14]
      by_cases c12 : cls.length < 12
      · rw [if_pos c12]
        obtain ⟨σ2, e2, O⟩ := J_seek (rec := rec) (Int32.ofNat cls.length) ha ht hb hm1 J1 K1 s1 len1 rl hk1 c12 c1
        have cX : f_X10_clauseHere 214 ρ1 = bd (f_X10_isSeekHere 214 (su_i (mv ρ1 p1) 214 14 (Int32.ofNat (cls.length + 1)))) fun r7 σ6 => gb r7 (some (r7, σ6)) := by
          rw [c71]
          unfold f_X10_clauseHere_71
          rw [if_neg (by rw [show (12 : Int32) = Int32.ofNat 12 from rfl, n_eq (by omega) (by omega)]; omega), l14, show Int32.ofNat cls.length + 1 = Int32.ofNat (cls.length + 1) from n_add _ 1, lt_eq, if_pos rfl]
        obtain ⟨n1', rfl⟩ : ∃ k, n1 = k + 1 := ⟨n1 - 1, by omega⟩
        rw [e2]
        rcases O with ⟨f, F, rf⟩ | ⟨x, ρ3, m3, q3, p3, kd3, vl3, e3, X3, J3, K3, s3, hk3, len3, pp3, hm3⟩
        · have rf' : RFk t B B2 B3 (f_X10_clauseHere 214 ρ1) f := by
            obtain ⟨⟨r, s⟩, er, r0, r9⟩ := rf
            dsimp only at r0 r9
            rw [cX, er, bd_s, r0, gb_0]; exact wp_some.mpr ⟨rfl, r9⟩
          have yf : YF t B B2 B3 Y f := by rw [← Y1]; exact YF_0 F.2.2.1 rf'
          exact FV_95 ha F _ (recF f yf) (fun σ' F' => Or.inl ⟨f, F', yf⟩)
        · have T3 := CP_TK J3.1
          have te3 := TK_e T3
          have ll : (cls ++ [x]).length = cls.length + 1 := by rw [List.length_append]; rfl
          have K4 := JR_mv (q' := p3) K3 te3.1
          have Y3 : lp (n1' + 1) hF 1 ρ3 = Y := by rw [← Y1, cX, X3, bd_s, gb_1, bd_s]
          rw [lp_so, hF, if_neg (show ¬ ((1 : Int32) = 0) by decide), JR_see K3 s3, bd_s] at Y3
          have i59 : ch b L p3 = 59 ↔ kd3 = 3 ∧ b p3 = 59 := ch_iff (c := 59) hb T3 (by omega) (by decide) (by decide)
          have hk4 : ∀ (ρ4 : mm_S), (∀ a k, a = 218 ∨ a = 219 ∨ (a = 214 ∧ k = 14) → ρ4.1 a k = ρ3.1 a k) → JK t B2 B3 (cls ++ [x]) ρ4 := fun ρ4 h => by
            obtain ⟨k1, k2, k3, k4, k5, k6⟩ := hk3
            exact ⟨(h _ _ (by omega)).trans k1, (h _ _ (by omega)).trans k2, TBL_keep (fun j _ => h _ _ (by omega)) k3, fun j hj => (h _ _ (by omega)).trans (k4 j hj), fun j hj => (h _ _ (by omega)).trans (k5 j hj), k6⟩
          have i37 : kd3 = 3 → (vl3 = 37 ↔ b p3 = 59) := by
            intro k3
            obtain ⟨hp, he, hvl⟩ := TK_3 T3 k3
            have sn := se_n b L p3
            have sp := sg_inv hb p3 (n := e3 - p3) (by omega)
            rw [hvl]; exact sp.2.2.2.2.2.1
          unfold f_X4_readRule_95
          rw [(CP_c J3.1).1]
          have e66 : ¬ (ch b L p3 = 59) → f_X10_readsAll_66 214 1 (mv ρ3 p3) = Y := fun h => by rw [if_neg h] at Y3; exact Y3
          have see3 : f_X10_see 214 (mv ρ3 p3) = some (ch b L p3, mv ρ3 p3) := by rw [JR_see K4 (TK_sk T3), mv_mv]
          by_cases k0 : kd3 = 0
          · -- the end
            rw [if_pos k0, wp_some]
            have Y4 := e66 (fun h => by have := (i59.mp h).1; rw [k0] at this; exact absurd this (by decide))
            unfold f_X10_readsAll_66 at Y4
            rw [if_neg (show ¬ ((1 : Int32) = 0) by decide), see3, bd_s, if_pos ((ch_end hb T3).mpr k0), r_88 K4.2.2.2.1, if_pos rfl] at Y4
            have rl3 := rl_le (cls ++ [x])
            refine Or.inr ⟨cls ++ [x], su_i (mv ρ3 p3) 214 1 0, Y4.symm, J3.2.1, J3.2.2.2.1, J3.2.2.2.2, by omega, by omega, fun i hi => ?_, fun j hj => ?_, hk4 _ (fun a k h => ?_), by omega, rd_is _ _ _ _⟩
            · rw [rd_ia _ _ _ _ _ _ (by omega)]; exact K4.2.2.2.2.2.2.2.1 i hi
            · rw [rd_ia _ _ _ _ _ _ (by omega)]; exact K4.2.2.2.2.2.2.2.2 j hj
            · rw [rd_ii, if_neg (by omega), mv_o _ _ (by omega)]
          · rw [if_neg k0, x_isSign J3.1, bd_s]
            by_cases k37 : kd3 = 3 ∧ vl3 = 37
            · -- one more
              rw [if_pos k37, if_neg (show ¬ ((1 : Int32) = 0) by decide)]
              have h59 := (i37 k37.1).mp k37.2
              obtain ⟨hp, he, hvl⟩ := TK_3 T3 k37.1
              have ee : e3 = p3 + 1 := by rw [he]; unfold se; rw [if_neg]; rintro ⟨h | h, -⟩ <;> rw [h59] at h <;> exact absurd h (by decide)
              obtain ⟨σ4, kd4, vl4, e4, es4, J4⟩ := JC_step ha J3 hp
              have pp4 : p3 < sk b L e3 := Nat.lt_of_lt_of_le (te3.2.2.2 hp) (ed_le isb b L e3)
              have te4 := TK_e (CP_TK J4.1)
              rw [es4, bv_s, lt_eq, n_addI]
              rw [if_pos (i59.mpr ⟨k37.1, h59⟩), mv_8, show Int32.ofNat p3 + 1 = Int32.ofNat (p3 + 1) from n_add _ 1, lt_eq, show su_i (mv ρ3 p3) 214 8 (Int32.ofNat (p3 + 1)) = mv ρ3 (p3 + 1) from mv_mv _ _ _, ← ee] at Y3
              exact hrec (L - sk b L e3 + 1) _ _ (by omega) (Or.inr ⟨cls ++ [x], m3, e3, sk b L e3, kd4, vl4, e4, mv ρ3 e3, n1', by rw [ll], rfl, J4, JR_mv K3 te3.2.1, rfl, hk4 _ (fun a k h => mv_o _ _ (by omega)), by omega, hm3, by omega, Y3, by omega⟩)
            · rw [if_neg k37, if_pos rfl]
              have n59 : ¬ (ch b L p3 = 59) := fun h => by
                have := i59.mp h
                exact k37 ⟨this.1, (i37 this.1).mpr this.2⟩
              have Y4 := e66 n59
              unfold f_X10_readsAll_66 at Y4
              rw [if_neg (show ¬ ((1 : Int32) = 0) by decide), see3, bd_s, if_neg (fun h => k0 ((ch_end hb T3).mp h)), mv_8, JR_fails K4, bd_s, r_88 (rd_is _ _ _ _), if_neg (show ¬ (fl p3 0 = 0) from fl_0 (p := p3) (w := 0) (by omega) (by omega))] at Y4
              have yf : YF t B B2 B3 Y (fl p3 0) := by
                rw [← Y4]
                have hk5 := hk4 (su_i (su_i (mv ρ3 p3) 214 9 (fl p3 0)) 214 1 0) (fun a k h => by rw [rd_ii, if_neg (by omega), rd_ii, if_neg (by omega), mv_o _ _ (by omega)])
                exact wp_some.mpr ⟨rfl, ⟨by rw [rd_ik _ _ _ _ _ _ (by omega), rd_is], fun j hj => by rw [rd_ia _ _ _ _ _ _ (by omega), rd_ia _ _ _ _ _ _ (by omega)]; exact K4.2.2.2.2.2.2.2.2 j hj⟩, hk5.2.2.2.1, hk5.2.2.2.2.1, rd_is _ _ _ _⟩
              obtain ⟨σ4, ef, F4, -, -⟩ := JC_fail (w := 0) ha J3 (by omega) (by omega)
              obtain ⟨σ5, es5, F5⟩ := FV_step ha F4
              rw [show (0 : Int32) = Int32.ofNat 0 from rfl, ef, bv_s, es5, bv_s, lt_eq]
              exact recF _ yf _ _ F5
      · rw [if_neg c12]
        have e12 : cls.length = 12 := by omega
        obtain ⟨σ2, ef, F, -, -⟩ := JC_fail (w := 4) ha J1 (by omega) (by omega)
        rw [show (4 : Int32) = Int32.ofNat 4 from rfl, ef, bv_s]
        refine hfail _ _ F ?_ _
        rw [c71, e12]
        unfold f_X10_clauseHere_71
        rw [if_pos (show Int32.ofNat 12 = 12 from rfl), JR_fails K2, bd_s, gb_0]
        exact rgk _
    · rw [if_neg c1, if_pos rfl]
      obtain ⟨σ2, ef, F, -, -⟩ := JC_fail (w := 0) ha J1 (by omega) (by omega)
      rw [show (0 : Int32) = Int32.ofNat 0 from rfl, ef, bv_s]
      refine hfail _ _ F ?_ _
      rw [c24]
      unfold f_X10_clauseHere_24
      rw [if_pos rfl, ws, bd_s, if_neg c1, if_pos rfl, JR_fails K2, bd_s, gb_0]
      exact rgk _
end
