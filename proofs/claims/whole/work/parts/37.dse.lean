/-! house -/
def YFh (Y : Option (Int32 × mm_S)) (f : Int32) : Prop := wp Y (fun r => r.1 = 0 ∧ r.2.1 214 9 = f ∧ r.2.1 214 1 = 0)
theorem YFh_0 {n : Nat} {X : Option (Int32 × mm_S)} {f : Int32} (hf : f ≠ 0) (h : RFh X f) : YFh (bd X fun r s => lp (n + 1) hF r s) f := by
  obtain ⟨⟨r, s⟩, er, r0, r9⟩ := h
  dsimp only at r0 r9
  rw [er, bd_s, r0, lp_so, hF, if_pos rfl]
  unfold f_X10_readsAll_66
  rw [if_pos rfl, r_88 r9, if_neg hf]
  exact wp_some.mpr ⟨rfl, (rd_ik _ _ _ _ _ _ (by omega)).trans r9, rd_is _ _ _ _⟩
section
variable {b : Nat → Int32} {L : Nat}
theorem FH_step {f : Int32} {σ : mm_S} (h : FH b L f σ) : wp (f_X4_step 3 σ) (FH b L f) := by
  obtain ⟨⟨p, kd, vl, e, c⟩, h2, h3, n, hn, h4⟩ := h
  have te := TK_e (CP_TK c)
  by_cases hp : p < L
  · obtain ⟨i, kd', vl', e', s1, s2⟩ := x_step c hp
    rw [s1, wp_some]
    exact ⟨⟨_, _, _, _, s2⟩, (st_o _ _ (by omega)).trans h2, h3, n, hn, (st_o _ _ (by omega)).trans h4⟩
  · rw [x_stepE c (by omega), wp_some]
    exact ⟨⟨_, _, _, _, c⟩, h2, h3, n, hn, h4⟩
theorem hc40 {σ : mm_S} {p e : Nat} {kd vl : Int32} (c : CP b L σ p kd vl e) (f0 : σ.1 3 9 = 0) : wp (f_X4_readHouseClause 3 7 (Int32.ofNat 40) σ) (fun σ' => ¬ (σ'.1 3 9 = 0)) := by
  have cc := CP_c c
  have te := TK_e (CP_TK c)
  have fail : ∀ w, w < 8 → wp (bv (f_X4_fail 3 (Int32.ofNat w) σ) fun σ' => some σ') (fun σ' => ¬ (σ'.1 3 9 = 0)) := by
    intro w hw
    have e1 : f_X4_fail 3 (Int32.ofNat w) σ = some (su_i σ 3 9 (fl p (Int32.ofNat w))) := by unfold f_X4_fail; rw [if_pos f0, cc.2.2.1]; rfl
    rw [e1, bv_s, wp_some, rd_is]; exact fl_0 (by omega) hw
  have h51 : ∀ i3 i4 i5, wp (f_X4_readHouseClause_51 3 7 (Int32.ofNat 40) i3 i4 i5 σ) (fun σ' => ¬ (σ'.1 3 9 = 0)) := by
    intro i3 i4 i5
    unfold f_X4_readHouseClause_51 f_X4_readHouseClause_60
    rw [if_neg (by decide), if_pos (by decide)]
    exact fail 4 (by omega)
  unfold f_X4_readHouseClause
  rw [x_isWord4 c, bd_s, x_isWord4 c, bd_s, x_isWord4 c, bd_s, x_isWord4 c, bd_s]
  generalize (if kd = 1 ∧ vl = 13 then (1 : Int32) else 0) = x
  generalize (if kd = 1 ∧ vl = 0 then (1 : Int32) else 0) = y
  generalize (if kd = 1 ∧ vl = 6 then (1 : Int32) else 0) = z
  generalize (if kd = 1 ∧ vl = 14 then (1 : Int32) else 0) = w
  split
  · split
    · split
      · split
        · exact fail 0 (by omega)
        · exact h51 _ _ _
      · exact h51 _ _ _
    · exact h51 _ _ _
  · exact h51 _ _ _
def VO (b : Nat → Int32) (L : Nat) (Y : Option (Int32 × mm_S)) (σ' : mm_S) : Prop :=
  (∃ f, FH b L f σ' ∧ YFh Y f) ∨ (∃ ρ' n, Y = some (1, ρ') ∧ σ'.1 3 9 = 0 ∧ σ'.1 7 0 = 1 ∧ n ≤ 6 ∧ HXr n σ' ρ' ∧ ρ'.1 220 0 = 1 ∧ ρ'.1 214 1 = 0)
theorem J_house {σ ρ : mm_S} {p e q : Nat} {kd vl : Int32} (hb : BR b) (c : CP b L σ p kd vl e) (f0 : σ.1 3 9 = 0) (s0 : σ.1 7 0 = 0) (X : HXr 0 σ ρ) (ns : NZ b L ρ q) (hs : sk b L q = p) (z1 : ρ.1 220 0 = 0) (t6 : ρ.1 214 11 = 6) (tN : ρ.1 214 14 = 0) :
    wp (f_X4_readHouse_10 3 7 0 σ) (VO b L (bd (f_X10_clauseHere 214 ρ) fun r s => f_X10_readsAll_35 214 r s)) := by
  have hL := ns.1.1
  have te0 := TK_e (CP_TK c)
  simp only [ra_eq]
  generalize hY : (bd (f_X10_clauseHere 214 ρ) fun r s => lp lpN hF r s) = Y
  unfold f_X4_readHouse_10
  refine wp_lp (fun M v σ' => (M = 0 ∧ ∃ f, FH b L f σ' ∧ YFh Y f) ∨ (∃ N n q1 p1 kd1 vl1 e1 ρ1 n1, v = Int32.ofNat N ∧ M = L - p1 + 1 ∧ CP b L σ' p1 kd1 vl1 e1 ∧ σ'.1 3 9 = 0 ∧ σ'.1 7 0 = 0 ∧ n ≤ 6 ∧ HXr n σ' ρ1 ∧ NZ b L ρ1 q1 ∧ sk b L q1 = p1 ∧ (ρ1.1 220 0 = if N = 0 then 0 else 1) ∧ ρ1.1 214 11 = 6 ∧ ρ1.1 214 14 = Int32.ofNat N ∧ N ≤ 40 ∧ (bd (f_X10_clauseHere 214 ρ1) fun r s => lp n1 hF r s) = Y ∧ L - p1 < n1)) ?_ lpN (L - p + 1) _ _ (Nat.lt_of_le_of_lt (show L - p + 1 ≤ 401 by omega) (by decide))
    (Or.inr ⟨0, 0, q, p, kd, vl, e, ρ, lpN, rfl, rfl, c, f0, s0, by omega, X, ns, hs, by rw [if_pos rfl]; exact z1, t6, tN, by omega, hY, Nat.lt_of_le_of_lt (show L - p ≤ 400 by omega) (by decide)⟩)
  rintro M rec v σ1 (⟨rfl, f, F, yf⟩ | ⟨N, n, q1, p1, kd1, vl1, e1, ρ1, n1, rfl, rfl, c1, g0, g70, hn, X1, ns1, s1, zz, h6, hN, hN40, Y1, hn1⟩) hrec
  · split
    · rw [wp_some]; exact Or.inl ⟨f, F, yf⟩
    · rw [if_neg (by rw [F.2.1]; exact F.2.2.1), wp_some]; exact Or.inl ⟨f, F, yf⟩
  · have te1 := TK_e (CP_TK c1)
    have recF : ∀ f, YFh Y f → ∀ v σ', FH b L f σ' → wp (rec v σ') (VO b L Y) := fun f yf v σ' F => hrec 0 v σ' (by omega) (Or.inl ⟨rfl, f, F, yf⟩)
    have bad49 : ∀ f σ', FH b L f σ' → YFh Y f → ∀ v, wp (f_X4_readHouse_49 rec 3 7 v σ') (VO b L Y) := by
      intro f σ' F yf v
      unfold f_X4_readHouse_49
      obtain ⟨p4, kd4, vl4, e4, c4⟩ := F.1
      obtain ⟨τ, e1, F1⟩ := FH_step F
      have ff : f_X4_fail 3 0 σ' = some σ' := by unfold f_X4_fail; rw [if_neg (by rw [F.2.1]; exact F.2.2.1)]
      rw [x_isSign c4, bd_s, ff, bv_s, e1, bv_s, lt_eq]
      generalize (if kd4 = 3 ∧ vl4 = 37 then (1 : Int32) else 0) = x
      split
      · exact recF f yf _ _ F
      · exact recF f yf _ _ F1
    rw [show (40 : Int32) = Int32.ofNat 40 from rfl]
    simp (disch := omega) only [n_lt]
    rw [if_neg (by omega), if_pos g0]
    obtain ⟨σ2, e2, O⟩ := J_hcl hb c1 g0 g70 hn X1 ns1 s1 zz h6 hN hN40
    obtain ⟨n1', rfl⟩ : ∃ k, n1 = k + 1 := ⟨n1 - 1, by omega⟩
    rw [e2, bv_s]
    rcases O with ⟨f, F, rf⟩ | ⟨ρ3, n3, q3, p3, kd3, vl3, e3, X3, c3, k0, k70, ns3, s3, pp3, hn3, HX3, z3, t63, tN3⟩
    · have yf : YFh Y f := by rw [← Y1]; exact YFh_0 F.2.2.1 rf
      rw [if_neg (by rw [F.2.1]; exact F.2.2.1)]
      exact bad49 f _ F yf _
    · have T3 := CP_TK c3
      have te3 := TK_e T3
      have cc3 := CP_c c3
      have ns4 := NZ_mv (q' := p3) ns3 te3.1
      have Y3 : lp (n1' + 1) hF 1 ρ3 = Y := by rw [← Y1, X3, bd_s]
      rw [lp_so, hF, if_neg (show ¬ ((1 : Int32) = 0) by decide), r_see ns3.1 ns3.2.1 ns3.2.2.1, s3, bd_s] at Y3
      have i59 : ch b L p3 = 59 ↔ kd3 = 3 ∧ b p3 = 59 := ch_iff (c := 59) hb T3 (by omega) (by decide) (by decide)
      have i37 : kd3 = 3 → (vl3 = 37 ↔ b p3 = 59) := by
        intro k3
        obtain ⟨hp, he, hvl⟩ := TK_3 T3 k3
        have sn := se_n b L p3
        have sp := sg_inv hb p3 (n := e3 - p3) (by omega)
        rw [hvl]; exact sp.2.2.2.2.2.1
      have e66 : ¬ (ch b L p3 = 59) → f_X10_readsAll_66 214 1 (mv ρ3 p3) = Y := fun h => by rw [if_neg h] at Y3; exact Y3
      have see3 : f_X10_see 214 (mv ρ3 p3) = some (ch b L p3, mv ρ3 p3) := by rw [r_see ns4.1 ns4.2.1 ns4.2.2.1, TK_sk T3, mv_mv]
      rw [if_pos k0, cc3.1]
      by_cases kz : kd3 = 0
      · rw [if_pos kz, lt_eq, wp_some]
        have Y4 := e66 (fun h => by have := (i59.mp h).1; rw [kz] at this; exact absurd this (by decide))
        unfold f_X10_readsAll_66 at Y4
        rw [if_neg (show ¬ ((1 : Int32) = 0) by decide), see3, bd_s, if_pos ((ch_end hb T3).mpr kz), r_88 ns4.2.2.2, if_pos rfl] at Y4
        refine Or.inr ⟨su_i (mv ρ3 p3) 214 1 0, n3, Y4.symm, (rd_ia _ _ _ _ _ _ (by omega)).trans k0, rd_is _ _ _ _, hn3, HXr_keep HX3 (ag_i (by omega)) (fun a k q => by rw [rd_ii, if_neg (by omega), mv_o _ _ (by omega)]), ?_, rd_is _ _ _ _⟩
        rw [rd_ia _ _ _ _ _ _ (by omega), mv_o _ _ (by omega)]; exact z3
      · rw [if_neg kz]
        unfold f_X4_readHouse_49
        rw [x_isSign c3, bd_s]
        by_cases k37 : kd3 = 3 ∧ vl3 = 37
        · rw [if_pos k37, if_neg (show ¬ ((1 : Int32) = 0) by decide)]
          have h59 := (i37 k37.1).mp k37.2
          obtain ⟨hp, he, hvl⟩ := TK_3 T3 k37.1
          have ee : e3 = p3 + 1 := by rw [he]; unfold se; rw [if_neg]; rintro ⟨h | h, -⟩ <;> rw [h59] at h <;> exact absurd h (by decide)
          obtain ⟨i, kd4, vl4, e4, es4, c4⟩ := x_step c3 hp
          have pp4 : p3 < sk b L e3 := Nat.lt_of_lt_of_le (te3.2.2.2 hp) (ed_le isb b L e3)
          have te4 := TK_e (CP_TK c4)
          rw [es4, bv_s, lt_eq, n_addI]
          rw [if_pos (i59.mpr ⟨k37.1, h59⟩), mv_8, show Int32.ofNat p3 + 1 = Int32.ofNat (p3 + 1) from n_add _ 1, lt_eq, show su_i (mv ρ3 p3) 214 8 (Int32.ofNat (p3 + 1)) = mv ρ3 (p3 + 1) from mv_mv _ _ _, ← ee] at Y3
          by_cases c40 : N + 1 ≤ 40
          · exact hrec (L - sk b L e3 + 1) _ _ (by omega) (Or.inr ⟨N + 1, n3, e3, sk b L e3, kd4, vl4, e4, mv ρ3 e3, n1', rfl, rfl, c4, (st_o _ _ (by omega)).trans k0, (st_o _ _ (by omega)).trans k70, hn3, HXr_keep HX3 (fun a k q => st_o _ _ (by omega)) (fun a k q => mv_o _ _ (by omega)), NZ_mv ns3 te3.2.1, rfl, by rw [if_neg (by omega), mv_o _ _ (by omega)]; exact z3, (mv_o _ _ (by omega)).trans t63, (mv_o _ _ (by omega)).trans tN3, c40, Y3, by omega⟩)
          · exfalso
            have N40 : N = 40 := by omega
            subst N40
            obtain ⟨σ', e', h'⟩ := hc40 c1 g0
            rw [e2] at e'
            cases e'
            exact h' k0
        · rw [if_neg k37, if_pos rfl]
          have n59 : ¬ (ch b L p3 = 59) := fun h => by
            have := i59.mp h
            exact k37 ⟨this.1, (i37 this.1).mpr this.2⟩
          have Y4 := e66 n59
          unfold f_X10_readsAll_66 at Y4
          rw [if_neg (show ¬ ((1 : Int32) = 0) by decide), see3, bd_s, if_neg (fun h => kz ((ch_end hb T3).mp h)), mv_8, r_fails ns4.2.2.2, bd_s, r_88 (rd_is _ _ _ _), if_neg (show ¬ (fl p3 0 = 0) from fl_0 (p := p3) (w := 0) (by omega) (by omega))] at Y4
          have yf : YFh Y (fl p3 0) := by
            rw [← Y4]
            exact wp_some.mpr ⟨rfl, by rw [rd_ik _ _ _ _ _ _ (by omega), rd_is], rd_is _ _ _ _⟩
          have ff : f_X4_fail 3 0 σ2 = some (su_i σ2 3 9 (fl p3 0)) := by unfold f_X4_fail; rw [if_pos k0, cc3.2.2.1]; rfl
          rw [ff, bv_s, lt_eq]
          exact recF _ yf _ _ ⟨⟨p3, kd3, vl3, e3, CP_keep c3 (ag_i (by omega))⟩, rd_is _ _ _ _, fl_0 (p := p3) (w := 0) (by omega) (by omega), n3, hn3, (rd_ia _ _ _ _ _ _ (by omega)).trans HX3.1.2.2.2.1⟩
end
