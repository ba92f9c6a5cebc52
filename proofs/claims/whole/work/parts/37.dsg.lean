theorem m_house : RM (f_X9_house 0) (f_X10_house 214) := by
  intro σ ρ H
  obtain ⟨r, n, h, m, ⟨t1, ⟨L, hL, t3⟩, t4, t5⟩, hq, hr, hw, ha, hi'⟩ := id H
  unfold f_X9_house f_X10_house
  rw [lt_eq]
  obtain ⟨ρ1, e8, z0, o8⟩ := r_h8 (su_i ρ 214 11 6)
  rw [e8]
  unfold EX8
  have ρ1o : ∀ a k, a ≠ 220 → ¬ (a = 214 ∧ k = 11) → ρ1.1 a k = ρ.1 a k := fun a k q1 q2 => by rw [o8 _ _ q1, rd_ii, if_neg q2]
  have ρ111 : ρ1.1 214 11 = 6 := by rw [o8 _ _ (by omega), rd_is]
  have eRA : f_X10_readsAll 214 ρ1 = bd (f_X10_clauseHere 214 (su_i (su_i (su_i (su_i (su_i ρ1 217 6 0) 214 14 0) 214 8 0) 214 9 0) 214 12 0)) fun r s => f_X10_readsAll_35 214 r s := by
    unfold f_X10_readsAll
    rw [ρ111, show gd (6 : Int32) 7 = fun (y : Option (Int32 × mm_S)) => y from funext fun y => gd_n (k := 6) (by omega) (by omega), show (6 : Int32).toNatClampNeg = 6 from n_idx (k := 6) (by omega)]
    simp only [lt_eq]
  have ρ2o : ∀ a k, ¬ (a = 217 ∧ k = 6) → ¬ (a = 214 ∧ (k = 14 ∨ k = 8 ∨ k = 9 ∨ k = 12)) → (su_i (su_i (su_i (su_i (su_i ρ1 217 6 0) 214 14 0) 214 8 0) 214 9 0) 214 12 0).1 a k = ρ1.1 a k := fun a k q1 q2 => by
    rw [rd_ii, if_neg (by omega), rd_ii, if_neg (by omega), rd_ii, if_neg (by omega), rd_ii, if_neg (by omega), rd_ii, if_neg (by omega)]
  have ρ29 : (su_i (su_i (su_i (su_i (su_i ρ1 217 6 0) 214 14 0) 214 8 0) 214 9 0) 214 12 0).1 214 9 = 0 := by rw [rd_ik _ _ _ _ _ _ (by omega), rd_is]
  have ρ28 : (su_i (su_i (su_i (su_i (su_i ρ1 217 6 0) 214 14 0) 214 8 0) 214 9 0) 214 12 0).1 214 8 = 0 := by rw [rd_ik _ _ _ _ _ _ (by omega), rd_ik _ _ _ _ _ _ (by omega), rd_is]
  have ρ214 : (su_i (su_i (su_i (su_i (su_i ρ1 217 6 0) 214 14 0) 214 8 0) 214 9 0) 214 12 0).1 214 14 = 0 := by rw [rd_ik _ _ _ _ _ _ (by omega), rd_ik _ _ _ _ _ _ (by omega), rd_ik _ _ _ _ _ _ (by omega), rd_is]
  have frR : ∀ s, f_X10_readsAll 214 ρ1 = some s → ∀ a k, (a ≠ 216 ∧ a ≠ 217 ∧ a ≠ 218 ∧ a ≠ 219 ∧ a ≠ 220 ∧ a ≠ 221 ∧ ¬ (a = 214 ∧ (k = 1 ∨ 8 ≤ k ∧ k ≤ 14 ∨ k = 16))) → s.2.1 a k = ρ.1 a k := by
    intro s es a k q
    have := fr_X10_readsAll (P := fun a k => a ≠ 216 ∧ a ≠ 217 ∧ a ≠ 218 ∧ a ≠ 219 ∧ a ≠ 220 ∧ a ≠ 221 ∧ ¬ (a = 214 ∧ (k = 1 ∨ 8 ≤ k ∧ k ≤ 14 ∨ k = 16))) (a0 := 214) (σ0 := ρ1) (by intro a k q; omega) ko_refl _ es
    rw [this.1 a k q, ρ1o _ _ (by omega) (by omega)]
  have fr6 : ∀ s, f_X10_readsAll 214 ρ1 = some s → ∀ a k, (a = 216 ∨ a = 218 ∨ a = 219) → s.2.1 a k = ρ.1 a k := by
    intro s es a k q
    rw [eRA] at es
    have := fr6_all (ρ0 := su_i (su_i (su_i (su_i (su_i ρ1 217 6 0) 214 14 0) 214 8 0) 214 9 0) 214 12 0) ((ρ2o _ _ (by omega) (by omega)).trans ρ111) ko_refl _ es
    rw [this.1 a k (by unfold P6; omega), ρ2o _ _ (by omega) (by omega), ρ1o _ _ (by omega) (by omega)]
  generalize f_X10_readsAll 214 ρ1 = Y at eRA frR fr6 ⊢
  generalize su_i (su_i (su_i (su_i (su_i ρ1 217 6 0) 214 14 0) 214 8 0) 214 9 0) 214 12 0 = ρ2 at eRA ρ2o ρ29 ρ28 ρ214
  -- the class begins
  obtain ⟨σ0, e0, em1, em2, em3, em4⟩ := x_empty σ
  have CB0 : CB (fun k => σ.1 2 k) L σ0 := ⟨hL, (em4 _ _ (by omega)).trans t3, fun k => em4 _ _ (by omega)⟩
  obtain ⟨τ, eτ, ⟨kd, vl, e, cp⟩, f0, -⟩ := x_begin4 CB0
  have frb := fr_X4_begin (P := fun a k => 7 ≤ a ∧ a ≤ 10) (a0 := 3) (σ0 := σ0) (by intro a k q; omega) ko_refl _ eτ
  have frb' : ∀ a k, 7 ≤ a → a ≤ 10 → τ.1 a k = σ0.1 a k := fun a k q1 q2 => frb.1 a k ⟨q1, q2⟩
  have X0 : HXr 0 τ ρ2 := by
    have z : ∀ k, k < 90 → ρ2.1 220 k = 0 := fun k hk => by rw [ρ2o _ _ (by omega) (by omega)]; exact z0 k hk
    have y7 : ∀ k, k ≤ 4 → τ.1 7 k = 0 := fun k hk => by rw [frb' _ _ (by omega) (by omega)]; exact em1 k hk
    have y8 : ∀ k, k < 6 → τ.1 8 k = 0 := fun k hk => by rw [frb' _ _ (by omega) (by omega)]; exact (em2 k hk).1
    have y9 : ∀ k, k < 6 → τ.1 9 k = 0 := fun k hk => by rw [frb' _ _ (by omega) (by omega)]; exact (em2 k hk).2
    have y10 : ∀ k, k < 36 → τ.1 10 k = 0 := fun k hk => by rw [frb' _ _ (by omega) (by omega)]; exact em3 k hk
    refine ⟨⟨?_, ?_, ?_, ?_, ?_⟩, fun l hl => ⟨?_, ?_⟩, fun l hl => ?_, ⟨0, by omega, y7 1 (by omega)⟩, ⟨0, by omega, y7 2 (by omega)⟩, fun l hl => ⟨0, by omega, y8 l hl⟩, fun l hl => ⟨0, by omega, y9 l hl⟩, fun l _ hl => y8 l hl⟩
    · rw [z 1 (by omega), y7 1 (by omega)]
    · rw [z 2 (by omega), y7 2 (by omega)]
    · exact z 3 (by omega)
    · exact y7 3 (by omega)
    · rw [z 89 (by omega), y7 4 (by omega)]
    · rw [z _ (by omega), y8 l hl]
    · rw [z _ (by omega), y9 l hl]
    · rw [z _ (by omega), y10 l hl]
  have ns0 : NZ (fun k => σ.1 2 k) L ρ2 0 := ⟨⟨hL, by rw [ρ2o _ _ (by omega) (by omega), ρ1o _ _ (by omega) (by omega), t1, t3], fun k => by rw [ρ2o _ _ (by omega) (by omega), ρ1o _ _ (by omega) (by omega), t4]⟩, by omega, ρ28, ρ29⟩
  obtain ⟨σ1, e1, O⟩ := J_house t5 cp f0 ((frb' _ _ (by omega) (by omega)).trans (em1 0 (by omega))) X0 ns0 rfl ((ρ2o _ _ (by omega) (by omega)).trans (z0 0 (by omega))) ((ρ2o _ _ (by omega) (by omega)).trans ρ111) ρ214
  rw [← eRA] at O
  have eRH : f_X4_readHouse 3 7 σ = some σ1 := by unfold f_X4_readHouse; rw [e0, bv_s, eτ, bv_s, e1]
  have frC := fr_X4_readHouse (P := fun a k => ¬ (3 ≤ a ∧ a ≤ 10)) (a0 := 3) (a1 := 7) (σ0 := σ) (by intro a k q; omega) ko_refl _ eRH
  rw [eRH, bv_s, lt_eq, rd_ia _ _ _ _ _ _ (show 3 ≠ 1 by omega)]
  have σ2o : ∀ a k, ¬ (3 ≤ a ∧ a ≤ 10) → ¬ (a = 1 ∧ k = 1) → (su_i σ1 1 1 0).1 a k = σ.1 a k := fun a k q1 q2 => by rw [rd_ii, if_neg q2]; exact frC.1 a k q1
  rcases O with ⟨f, F, ⟨⟨z, s⟩, ey, z0', y9, y1⟩⟩ | ⟨ρ3, n3, ey, k9, k70, hn3, X3, z3, y1⟩
  · dsimp only at z0' y9 y1
    rw [F.2.1, if_neg F.2.2.1, wp_some, ey, bd_s, z0', if_pos rfl, wp_some, y9]
    refine ⟨rfl, r, n, h, m, ⟨y1.trans (rd_is _ _ _ _).symm, ⟨0, by omega, rd_is _ _ _ _⟩, fun k => ?_, fun k => ?_⟩, RQ_keep hq (fun a k q => frR _ ey a k (by omega)), RR_keep hr (fun a k q => σ2o a k (by omega) (by omega)) (fun a k q => ?_),
      wr_keep hw (fun a k q => σ2o a k (by omega) (by omega)) (fun a k q => frR _ ey a k (by omega)), RA_keep ha (fun a k q => σ2o a k (by omega) (by omega)) (fun a k q => frR _ ey a k (by omega)), RI_keep hi' (fun a k q => σ2o a k (by omega) (by omega)) (fun a k q => frR _ ey a k (by omega))⟩
    · rw [frR _ ey 215 k (by omega), σ2o 2 k (by omega) (by omega)]; exact t4 k
    · rw [σ2o 2 k (by omega) (by omega)]; exact t5 k
    · by_cases c : a = 214
      · exact frR _ ey a k (by omega)
      · exact fr6 _ ey a k (by omega)
  · obtain ⟨ρ4, e44, w1, w2, w3⟩ := r_h44 ρ3
    rw [k9, if_pos rfl, ey, bd_s, if_neg (show ¬ ((1 : Int32) = 0) by decide), e44]
    unfold EX44
    -- the class lays it over
    have s70 : (su_i σ1 1 1 0).1 7 0 = 1 := (rd_ia _ _ _ _ _ _ (by omega)).trans k70
    obtain ⟨σ3, e3, ⟨a1, a2, a3⟩, a4, -⟩ := x_htake (a := 26 + 1) (b := 7) (su_i σ1 1 1 0) (by omega) (Or.inr s70)
    obtain ⟨σ4, e4, b1, b2, b3, b4⟩ := x_begin7 σ3
    rw [e3, bv_s, show (26 + 5 : Nat) = 31 from rfl, e4, bv_s, lt_eq]
    unfold f_X0_forget
    rw [lt_eq, bv_s, wp_some, rd_ia _ _ _ _ _ _ (show 7 ≠ 98 by omega), rd_ia _ _ _ _ _ _ (show 7 ≠ 26 + 10 by omega), b4 7 3 (by omega), a4 7 3 (by omega), rd_ia _ _ _ _ _ _ (show 7 ≠ 1 by omega), X3.1.2.2.2.1]
    -- the reference begins
    obtain ⟨ρ5, e5, c1, c2, c3, c4⟩ := r_begins ρ4
    have i3 : (3 : Int32).toNatClampNeg = 3 := n_idx (k := 3) (by omega)
    have ρ53 : ρ5.1 224 3 = Int32.ofNat n3 := by rw [c3 3 (by omega), w1 3 (by omega)]; exact X3.1.2.2.1
    rw [e5, bv_s, lt_eq, show (3 : Int32) = Int32.ofNat 3 from rfl, gd_n (by omega) (by omega), n_idx (by omega), wp_some, rd_ia _ _ _ _ _ _ (show 224 ≠ 214 by omega), ρ53]
    refine ⟨rfl, ?_⟩
    -- cells
    have τo : ∀ a k, ¬ (3 ≤ a ∧ a ≤ 10) → ¬ (a = 1 ∧ k = 1) → ¬ (27 ≤ a ∧ a ≤ 35) → ¬ (a = 36 ∧ k = 0) → ¬ (a = 98 ∧ k = 2) → (su_i (su_i σ4 (26 + 10) 0 0) 98 2 0).1 a k = σ.1 a k := fun a k q1 q2 q3 q4 q5 => by
      rw [rd_ii, if_neg q5, rd_ii, if_neg (by omega), b4 _ _ (by omega), a4 _ _ (by omega), σ2o _ _ q1 q2]
    have τ4 : ∀ a k, (27 ≤ a ∧ a ≤ 35) → (su_i (su_i σ4 (26 + 10) 0 0) 98 2 0).1 a k = σ4.1 a k := fun a k q => by rw [rd_ia _ _ _ _ _ _ (by omega), rd_ia _ _ _ _ _ _ (by omega)]
    have τ3 : ∀ a k, (27 ≤ a ∧ a ≤ 30) → (su_i (su_i σ4 (26 + 10) 0 0) 98 2 0).1 a k = σ3.1 a k := fun a k q => by rw [τ4 _ _ (by omega), b4 _ _ (by omega)]
    have υo : ∀ a k, a ≠ 224 → ¬ (a = 214 ∧ k = 31) → (su_i ρ5 214 31 0).1 a k = ρ3.1 a k := fun a k q1 q2 => by rw [rd_ii, if_neg q2, c4 _ _ q1, w3 _ _ q1]
    have υf : ∀ a k, (a ≠ 216 ∧ a ≠ 217 ∧ a ≠ 218 ∧ a ≠ 219 ∧ a ≠ 220 ∧ a ≠ 221 ∧ a ≠ 224 ∧ ¬ (a = 214 ∧ (k = 1 ∨ 8 ≤ k ∧ k ≤ 14 ∨ k = 16 ∨ k = 31))) → (su_i ρ5 214 31 0).1 a k = ρ.1 a k := fun a k q => by rw [υo _ _ (by omega) (by omega)]; exact frR _ ey a k (by omega)
    have υ224 : ∀ k, (su_i ρ5 214 31 0).1 224 k = ρ5.1 224 k := fun k => rd_ia _ _ _ _ _ _ (by omega)
    have υs : ∀ k, k < 90 → (k < 10 ∨ 41 ≤ k) → (su_i ρ5 214 31 0).1 224 k = ρ3.1 220 k := fun k h1 h2 => by rw [υ224, c3 k h2, w1 k h1]
    obtain ⟨⟨x1, x2, x3, x3', x4⟩, x5, x6, x7, x8, x9, x10, x11⟩ := X3
    have h7 : ∀ k, k ≤ 4 → (su_i (su_i σ4 (26 + 10) 0 0) 98 2 0).1 27 k = σ1.1 7 k := fun k hk => by rw [τ3 _ _ (by omega), a1 k hk, rd_ia _ _ _ _ _ _ (by omega)]
    have h8 : ∀ k, k < 6 → (su_i (su_i σ4 (26 + 10) 0 0) 98 2 0).1 28 k = σ1.1 8 k := fun k hk => by rw [τ3 _ _ (by omega), (a2 k hk).1, rd_ia _ _ _ _ _ _ (by omega)]
    have h9 : ∀ k, k < 6 → (su_i (su_i σ4 (26 + 10) 0 0) 98 2 0).1 29 k = σ1.1 9 k := fun k hk => by rw [τ3 _ _ (by omega), (a2 k hk).2, rd_ia _ _ _ _ _ _ (by omega)]
    have h10 : ∀ k, k < 36 → (su_i (su_i σ4 (26 + 10) 0 0) 98 2 0).1 30 k = σ1.1 10 k := fun k hk => by rw [τ3 _ _ (by omega), a3 k hk, rd_ia _ _ _ _ _ _ (by omega)]
    have s8 : ∀ k, σ3.1 8 k = σ1.1 8 k := fun k => by rw [a4 _ _ (by omega), rd_ia _ _ _ _ _ _ (by omega)]
    have s9 : ∀ k, σ3.1 9 k = σ1.1 9 k := fun k => by rw [a4 _ _ (by omega), rd_ia _ _ _ _ _ _ (by omega)]
    have n32 : ∀ l, l < 6 → (su_i (su_i σ4 (26 + 10) 0 0) 98 2 0).1 32 l = σ1.1 8 l := fun l hl => by rw [τ4 _ _ (by omega), (b3 l hl).1, s8]
    have n33 : ∀ l, l < 6 → (su_i (su_i σ4 (26 + 10) 0 0) 98 2 0).1 33 l = σ1.1 9 l := fun l hl => by rw [τ4 _ _ (by omega), (b3 l hl).2.1, s9]
    have n34 : ∀ l, l < 6 → (su_i (su_i σ4 (26 + 10) 0 0) 98 2 0).1 34 l = -1 := fun l hl => by rw [τ4 _ _ (by omega), (b3 l hl).2.2.1]
    have n35 : ∀ l, l < 6 → (su_i (su_i σ4 (26 + 10) 0 0) 98 2 0).1 35 l = 0 := fun l hl => by rw [τ4 _ _ (by omega), (b3 l hl).2.2.2]
    have n310 : (su_i (su_i σ4 (26 + 10) 0 0) 98 2 0).1 31 0 = 0 := by rw [τ4 _ _ (by omega), b1]
    have n311 : (su_i (su_i σ4 (26 + 10) 0 0) 98 2 0).1 31 1 = 0 := by rw [τ4 _ _ (by omega), b2]
    have n36 : (su_i (su_i σ4 (26 + 10) 0 0) 98 2 0).1 36 0 = 0 := by rw [rd_ia _ _ _ _ _ _ (by omega), rd_is]
    have n98 : (su_i (su_i σ4 (26 + 10) 0 0) 98 2 0).1 98 2 = 0 := rd_is _ _ _ _
    have n11 : (su_i (su_i σ4 (26 + 10) 0 0) 98 2 0).1 1 1 = 0 := by rw [rd_ia _ _ _ _ _ _ (by omega), rd_ia _ _ _ _ _ _ (by omega), b4 _ _ (by omega), a4 _ _ (by omega), rd_is]
    have u11 : (su_i ρ5 214 31 0).1 214 1 = 0 := by rw [υo _ _ (by omega) (by omega)]; exact y1
    have u31 : (su_i ρ5 214 31 0).1 214 31 = 0 := rd_is _ _ _ _
    have u120 : (su_i ρ5 214 31 0).1 224 120 = 0 := by rw [υ224, c3 120 (by omega), w2 120 (by omega) (by omega)]
    have uN : ∀ l, l < 6 → (su_i ρ5 214 31 0).1 224 (11 + 5 * l) = σ1.1 8 l ∧ (su_i ρ5 214 31 0).1 224 (12 + 5 * l) = σ1.1 9 l ∧ (su_i ρ5 214 31 0).1 224 (13 + 5 * l) = 0 ∧ (su_i ρ5 214 31 0).1 224 (14 + 5 * l) = -1 ∧ (su_i ρ5 214 31 0).1 224 (15 + 5 * l) = 0 := fun l hl => by
      obtain ⟨d1, d2, d3, d4, d5⟩ := c2 l hl
      rw [υ224, υ224, υ224, υ224, υ224, show 12 + 5 * l = 11 + 5 * l + 1 by omega, show 13 + 5 * l = 11 + 5 * l + 2 by omega, show 14 + 5 * l = 11 + 5 * l + 3 by omega, show 15 + 5 * l = 11 + 5 * l + 4 by omega, d1, d2, d3, d4, d5, w1 _ (by omega), w1 _ (by omega)]
      exact ⟨(x5 l hl).1, (x5 l hl).2, rfl, rfl, rfl⟩
    have u10 : (su_i ρ5 214 31 0).1 224 10 = 0 := by rw [υ224, c1]
    have bt0 : ∀ l, l < 6 → bt 0 l = 0 := by decide +kernel
    generalize su_i (su_i σ4 (26 + 10) 0 0) 98 2 0 = σ5 at *
    generalize su_i ρ5 214 31 0 = ρ6 at *
    obtain ⟨-, -, -, hwf, hwx⟩ := hw
    obtain ⟨m0, q0, -, hq0, -, -, aq, -⟩ := ha
    refine ⟨r, n3, 0, 0, ⟨u11.trans n11.symm, ⟨0, by omega, n11⟩, fun k => ?_, fun k => ?_⟩, RQ_keep hq (fun a k q => υf a k (by omega)), RR_keep hr (fun a k q => τo a k (by omega) (by omega) (by omega) (by omega) (by omega)) (fun a k q => ?_),
      ⟨⟨⟨hn3, Or.inr ?_, ?_, ?_, ?_, fun l hl => ?_, fun l hl => ?_, fun l q hl => ?_⟩, ⟨?_, ?_, ?_, ?_, ?_, fun l hl => ⟨?_, ?_⟩, fun l hl => ?_⟩⟩, ⟨by omega, ⟨n310, ⟨0, Nat.pow_pos (by omega), n311⟩, fun l hl => ?_, fun l hl => ?_, fun l hl => Or.inl (n34 l hl), fun l hl => ⟨0, by omega, n35 l hl⟩, fun l q hl => ⟨?_, n34 l hl, n35 l hl⟩⟩, ⟨?_, fun l hl => ?_⟩⟩, ⟨⟨by omega, n36, fun i hi => by omega⟩, ⟨?_, fun i hi => by omega⟩⟩, ?_, ?_⟩,
      ⟨0, q0, by omega, hq0, n98, u31, ?_, fun i hi => by omega⟩, RI_keep hi' (fun a k q => τo a k (by omega) (by omega) (by omega) (by omega) (by omega)) (fun a k q => υf a k (by omega))⟩
    · rw [υf 215 k (by omega), τo 2 k (by omega) (by omega) (by omega) (by omega) (by omega)]; exact t4 k
    · rw [τo 2 k (by omega) (by omega) (by omega) (by omega) (by omega)]; exact t5 k
    · by_cases c : a = 214
      · exact υf a k (by omega)
      · rw [υo _ _ (by omega) (by omega)]; exact fr6 _ ey a k (by omega)
    · exact (h7 0 (by omega)).trans k70
    · rw [show (26 + 1 : Nat) = 27 from rfl, h7 1 (by omega)]; exact x7
    · rw [show (26 + 1 : Nat) = 27 from rfl, h7 2 (by omega)]; exact x8
    · exact (h7 3 (by omega)).trans x3'
    · rw [show (26 + 1 + 1 : Nat) = 28 from rfl, h8 l hl]; exact x9 l hl
    · rw [show (26 + 1 + 2 : Nat) = 29 from rfl, h9 l hl]; exact x10 l hl
    · rw [show (26 + 1 + 1 : Nat) = 28 from rfl, h8 l hl]; exact x11 l q hl
    · rw [show (26 + 1 : Nat) = 27 from rfl, h7 0 (by omega), υs 0 (by omega) (by omega), z3, k70]
    · rw [show (26 + 1 : Nat) = 27 from rfl, h7 1 (by omega), υs _ (by omega) (by omega)]; exact x1
    · rw [show (26 + 1 : Nat) = 27 from rfl, h7 2 (by omega), υs _ (by omega) (by omega)]; exact x2
    · rw [show (26 + 1 : Nat) = 27 from rfl, h7 3 (by omega), υs _ (by omega) (by omega)]; exact x3.trans x3'.symm
    · rw [show (26 + 1 : Nat) = 27 from rfl, h7 4 (by omega), υs _ (by omega) (by omega)]; exact x4
    · rw [show (26 + 1 + 1 : Nat) = 28 from rfl, h8 l hl, υs _ (by omega) (by omega), show 0 + 41 + l = 41 + l by omega]; exact (x5 l hl).1
    · rw [show (26 + 1 + 2 : Nat) = 29 from rfl, h9 l hl, υs _ (by omega) (by omega), show 0 + 47 + l = 47 + l by omega]; exact (x5 l hl).2
    · rw [show (26 + 1 + 3 : Nat) = 30 from rfl, h10 l hl, υs _ (by omega) (by omega), show 0 + 53 + l = 53 + l by omega]; exact x6 l hl
    · rw [show (26 + 5 + 1 : Nat) = 32 from rfl, n32 l hl]; exact x9 l hl
    · rw [show (26 + 5 + 2 : Nat) = 33 from rfl, n33 l hl]; exact x10 l hl
    · rw [show (26 + 5 + 1 : Nat) = 32 from rfl, n32 l hl]; exact x11 l q hl
    · rw [show (26 + 5 : Nat) = 31 from rfl, n310]; exact u10
    · obtain ⟨d1, d2, d3, d4, d5⟩ := uN l hl
      rw [show (26 + 5 + 1 : Nat) = 32 from rfl, show (26 + 5 + 2 : Nat) = 33 from rfl, show (26 + 5 + 3 : Nat) = 34 from rfl, show (26 + 5 + 4 : Nat) = 35 from rfl, show (26 + 5 : Nat) = 31 from rfl, n32 l hl, n33 l hl, n34 l hl, n35 l hl, n311, bt0 l hl]
      refine ⟨?_, ?_, ?_, ?_, ?_⟩
      · rw [show 0 + 10 + 1 + 5 * l = 11 + 5 * l by omega]; exact d1
      · rw [show 0 + 10 + 2 + 5 * l = 12 + 5 * l by omega]; exact d2
      · rw [show 0 + 10 + 3 + 5 * l = 13 + 5 * l by omega]; exact d3
      · rw [show 0 + 10 + 4 + 5 * l = 14 + 5 * l by omega]; exact d4
      · rw [show 0 + 10 + 5 + 5 * l = 15 + 5 * l by omega]; exact d5
    · rw [show (26 + 10 : Nat) = 36 from rfl, n36]; exact u120
    · rw [υf 214 21 (by omega), τo 26 3 (by omega) (by omega) (by omega) (by omega) (by omega)]; exact hwf
    · rw [υf 214 22 (by omega), τo 26 4 (by omega) (by omega) (by omega) (by omega) (by omega)]; exact hwx
    · rw [τo 98 1 (by omega) (by omega) (by omega) (by omega) (by omega)]; exact aq
