/-! rule -/
theorem TBL_keep2 {t : Nat} {ρ ρ' : mm_S} : ∀ {cls : List (List Int32 × Option (List Int32))} {i rp : Nat}, (∀ j, 48 * t ≤ j → j < 48 * t + 4 * (i + cls.length) → ρ'.1 218 j = ρ.1 218 j) → TBL t ρ cls i rp → TBL t ρ' cls i rp
  | [], _, _, _, _ => trivial
  | x :: r, i, rp, h, T => by
    have hl : (x :: r).length = r.length + 1 := rfl
    obtain ⟨⟨t1, t2, t3⟩, t4⟩ := T
    refine ⟨⟨?_, ?_, ?_⟩, TBL_keep2 (cls := r) (i := i + 1) (fun j h1 hj => h j h1 (by omega)) t4⟩
    · rw [h _ (by omega) (by omega)]; exact t1
    · rw [h _ (by omega) (by omega)]; exact t2
    · rw [h _ (by omega) (by omega), h _ (by omega) (by omega)]; exact t3
theorem EV_keep2 {k : Nat} {σ τ ρ υ : mm_S} (H : EV k σ ρ) (g1 : ∀ j, τ.1 (14 + 2 * k) j = σ.1 (14 + 2 * k) j) (g2 : ∀ j, τ.1 (15 + 2 * k) j = σ.1 (15 + 2 * k) j) (g3 : ∀ j, j < 400 → υ.1 216 (400 * k + j) = ρ.1 216 (400 * k + j)) (g4 : ∀ j, j < 48 → υ.1 218 (48 * k + j) = ρ.1 218 (48 * k + j)) (g5 : υ.1 219 k = ρ.1 219 k) : EV k τ υ := by
  intro σ' ρ' h1 h2 h3 h4 h5 h6 h7
  exact H σ' ρ' (fun j => (h1 j).trans (g1 j)) (fun j => (h2 j).trans (g2 j)) h3 (fun j hj => (h4 j hj).trans (g3 j hj)) (fun j hj => (h5 j hj).trans (g4 j hj)) (h6.trans g5) h7
theorem EV_new {r : Nat} {σ ρ : mm_S} {cls : List (List Int32 × Option (List Int32))} {B2 B3 : Nat → Int32} (hr : r < 6) (h1 : σ.1 (14 + 2 * r) 1 = Int32.ofNat (cls.flatMap ccode).length) (h2 : ∀ i, i < (cls.flatMap ccode).length → σ.1 (14 + 2 * r + 1) i = (cls.flatMap ccode).getD i 0) (h3 : (cls.flatMap ccode).length ≤ 400) (h4 : (cls.flatMap rcode).length ≤ 400)
    (h5 : ∀ i, i < (cls.flatMap rcode).length → ρ.1 216 (400 * r + i) = (cls.flatMap rcode).getD i 0) (h6 : JK r B2 B3 cls ρ) (h7 : cls.length ≤ 12) : EV r σ ρ := by
  intro σ' ρ' g1 g2 g3 g4 g5 g6 g7
  rw [wor_eq, sb_eq]
  obtain ⟨-, k2, k3, -, -, k6⟩ := h6
  refine ev_cls (w := fun i => σ'.2.1 209 i) (a := 14 + 2 * r) (t := r) (len := (cls.flatMap ccode).length) (mm_K_r r hr) h3 hr cls 0 0 0 lpN lpN σ' ρ' g3 ((g1 1).trans h1) (by omega) (fun j hj => ?_) (TBL_keep2 (fun j h1 hj => ?_) k3) ?_ (by omega) (by omega) (fun j hj => ?_) (fun i _ => rfl) (fun i hi => (g7 i hi).symm) k6 (Nat.lt_of_le_of_lt h3 (by decide)) (Nat.lt_of_le_of_lt h7 (by decide))
  · rw [Nat.zero_add]
    have := g2 j
    rw [show 15 + 2 * r = 14 + 2 * r + 1 by omega] at this
    rw [this]; exact h2 j hj
  · obtain ⟨i, rfl⟩ : ∃ i, j = 48 * r + i := ⟨j - 48 * r, by omega⟩
    exact g5 i (by omega)
  · rw [g6, k2, Nat.zero_add]
  · rw [Nat.zero_add, g4 j (by omega)]; exact h5 j hj
theorem RI_more {r r' : Nat} {σ ρ : mm_S} (h : RI r σ ρ) (hr : r ≤ r') : RI r' σ ρ := by
  intro k hk
  obtain ⟨h1, h2, h3⟩ := h k hk
  refine ⟨h1, h2, fun e => ?_⟩
  rcases h3 e with ⟨n, h, m, w⟩ | w
  · exact Or.inl ⟨n, h, m, wr_more w hr⟩
  · exact Or.inr (PW_more w hr)
theorem m_rule : RM (f_X9_rule 0) (f_X10_rule 214) := by
  intro σ ρ H
  obtain ⟨r, n, h, m, ⟨t1, ⟨L, hL, t3⟩, t4, t5⟩, hq, ⟨r1, r2, r3, r4, r5⟩, hw, ha, hi⟩ := id H
  unfold f_X9_rule f_X10_rule
  rw [r2, r3]
  by_cases c6 : r = 6
  · subst c6
    rw [if_neg (by decide), if_pos (show Int32.ofNat 6 = 6 from rfl), wp_some, wp_some]; exact ⟨rfl, H⟩
  · have hr : r < 6 := by omega
    rw [if_pos (by rw [show (6 : Int32) = Int32.ofNat 6 from rfl, n_lt (by omega) (by omega)]; exact hr), if_neg (by rw [show (6 : Int32) = Int32.ofNat 6 from rfl, n_eq (by omega) (by omega)]; omega), show Int32.ofNat r + 1 = Int32.ofNat (r + 1) from n_add r 1, gd_n (by omega) (by omega), n_idx (by omega), show 12 + 2 * (r + 1) = 14 + 2 * r by omega]
    -- the class begins
    have CB0 : CB (fun k => σ.1 2 k) L (su_i σ (14 + 2 * r) 1 0) := ⟨hL, (rd_ia _ _ _ _ _ _ (by omega)).trans t3, fun k => rd_ia _ _ _ _ _ _ (by omega)⟩
    obtain ⟨τ, eτ, ⟨kd, vl, e, cp⟩, f0, f1⟩ := x_begin4 CB0
    have frb := fr_X4_begin (P := fun a k => a = 14 + 2 * r) (a0 := 3) (σ0 := su_i σ (14 + 2 * r) 1 0) (by intro a k q; omega) ko_refl _ eτ
    have J0 : JC (fun k => σ.1 2 k) L (14 + 2 * r) 0 [] τ (sk (fun k => σ.1 2 k) L 0) kd vl e := ⟨cp, f0, f1, by rw [show τ.1 (14 + 2 * r) 1 = _ from frb.1 _ _ rfl, rd_is]; rfl, fun i hi => absurd hi (by simp)⟩
    -- the reference begins
    rw [lt_eq, rd_is, gd_n (by omega) (by omega), n_idx (by omega), lt_eq]
    have eRA : f_X10_readsAll 214 (su_i (su_i ρ 214 11 (Int32.ofNat r)) 219 r 0) = bd (f_X10_clauseHere 214 (su_i (su_i (su_i (su_i (su_i (su_i (su_i ρ 214 11 (Int32.ofNat r)) 219 r 0) 217 r 0) 214 14 0) 214 8 0) 214 9 0) 214 12 0)) fun r s => f_X10_readsAll_35 214 r s := by
      unfold f_X10_readsAll
      rw [rd_ia _ _ _ _ _ _ (by omega), rd_is, gd_n (by omega) (by omega), n_idx (by omega)]
      simp only [lt_eq]
    have frR : ∀ s, f_X10_readsAll 214 (su_i (su_i ρ 214 11 (Int32.ofNat r)) 219 r 0) = some s → ∀ a k, (a ≠ 216 ∧ a ≠ 217 ∧ a ≠ 218 ∧ a ≠ 219 ∧ a ≠ 220 ∧ a ≠ 221 ∧ ¬ (a = 214 ∧ (k = 1 ∨ 8 ≤ k ∧ k ≤ 14 ∨ k = 16))) → s.2.1 a k = ρ.1 a k := by
      intro s es a k q
      have := fr_X10_readsAll (P := fun a k => a ≠ 216 ∧ a ≠ 217 ∧ a ≠ 218 ∧ a ≠ 219 ∧ a ≠ 220 ∧ a ≠ 221 ∧ ¬ (a = 214 ∧ (k = 1 ∨ 8 ≤ k ∧ k ≤ 14 ∨ k = 16))) (a0 := 214) (σ0 := su_i (su_i ρ 214 11 (Int32.ofNat r)) 219 r 0) (by intro a k q; omega) ko_refl _ es
      rw [this.1 a k q, rd_ii, if_neg (by omega), rd_ii, if_neg (by omega)]
    generalize f_X10_readsAll 214 (su_i (su_i ρ 214 11 (Int32.ofNat r)) 219 r 0) = Y at eRA frR ⊢
    have ρo : ∀ a k, ¬ (a = 214 ∧ (k = 11 ∨ k = 14 ∨ k = 8 ∨ k = 9 ∨ k = 12)) → ¬ (a = 219 ∧ k = r) → ¬ (a = 217 ∧ k = r) → (su_i (su_i (su_i (su_i (su_i (su_i (su_i ρ 214 11 (Int32.ofNat r)) 219 r 0) 217 r 0) 214 14 0) 214 8 0) 214 9 0) 214 12 0).1 a k = ρ.1 a k := fun a k q1 q2 q3 => by
      rw [rd_ii, if_neg (by omega), rd_ii, if_neg (by omega), rd_ii, if_neg (by omega), rd_ii, if_neg (by omega), rd_ii, if_neg (by omega), rd_ii, if_neg (by omega), rd_ii, if_neg (by omega)]
    have ρ11 : (su_i (su_i (su_i (su_i (su_i (su_i (su_i ρ 214 11 (Int32.ofNat r)) 219 r 0) 217 r 0) 214 14 0) 214 8 0) 214 9 0) 214 12 0).1 214 11 = Int32.ofNat r := by
      rw [rd_ik _ _ _ _ _ _ (by omega), rd_ik _ _ _ _ _ _ (by omega), rd_ik _ _ _ _ _ _ (by omega), rd_ik _ _ _ _ _ _ (by omega), rd_ia _ _ _ _ _ _ (by omega), rd_ia _ _ _ _ _ _ (by omega), rd_is]
    have ρ12 : (su_i (su_i (su_i (su_i (su_i (su_i (su_i ρ 214 11 (Int32.ofNat r)) 219 r 0) 217 r 0) 214 14 0) 214 8 0) 214 9 0) 214 12 0).1 214 12 = 0 := rd_is _ _ _ _
    have ρ9 : (su_i (su_i (su_i (su_i (su_i (su_i (su_i ρ 214 11 (Int32.ofNat r)) 219 r 0) 217 r 0) 214 14 0) 214 8 0) 214 9 0) 214 12 0).1 214 9 = 0 := by rw [rd_ik _ _ _ _ _ _ (by omega), rd_is]
    have ρ8 : (su_i (su_i (su_i (su_i (su_i (su_i (su_i ρ 214 11 (Int32.ofNat r)) 219 r 0) 217 r 0) 214 14 0) 214 8 0) 214 9 0) 214 12 0).1 214 8 = 0 := by rw [rd_ik _ _ _ _ _ _ (by omega), rd_ik _ _ _ _ _ _ (by omega), rd_is]
    have ρ14 : (su_i (su_i (su_i (su_i (su_i (su_i (su_i ρ 214 11 (Int32.ofNat r)) 219 r 0) 217 r 0) 214 14 0) 214 8 0) 214 9 0) 214 12 0).1 214 14 = 0 := by rw [rd_ik _ _ _ _ _ _ (by omega), rd_ik _ _ _ _ _ _ (by omega), rd_ik _ _ _ _ _ _ (by omega), rd_is]
    have ρ217 : (su_i (su_i (su_i (su_i (su_i (su_i (su_i ρ 214 11 (Int32.ofNat r)) 219 r 0) 217 r 0) 214 14 0) 214 8 0) 214 9 0) 214 12 0).1 217 r = 0 := by rw [rd_ia _ _ _ _ _ _ (by omega), rd_ia _ _ _ _ _ _ (by omega), rd_ia _ _ _ _ _ _ (by omega), rd_ia _ _ _ _ _ _ (by omega), rd_is]
    have ρ219 : (su_i (su_i (su_i (su_i (su_i (su_i (su_i ρ 214 11 (Int32.ofNat r)) 219 r 0) 217 r 0) 214 14 0) 214 8 0) 214 9 0) 214 12 0).1 219 r = 0 := by rw [rd_ia _ _ _ _ _ _ (by omega), rd_ia _ _ _ _ _ _ (by omega), rd_ia _ _ _ _ _ _ (by omega), rd_ia _ _ _ _ _ _ (by omega), rd_ia _ _ _ _ _ _ (by omega), rd_is]
    generalize su_i (su_i (su_i (su_i (su_i (su_i (su_i ρ 214 11 (Int32.ofNat r)) 219 r 0) 217 r 0) 214 14 0) 214 8 0) 214 9 0) 214 12 0 = ρ1 at eRA ρo ρ11 ρ12 ρ9 ρ8 ρ14 ρ217 ρ219
    have K0 : JR (fun k => σ.1 2 k) L r (ρ.1 216) 0 [] ρ1 0 := ⟨⟨hL, by rw [ρo _ _ (by omega) (by omega) (by omega), t1, t3], fun k => by rw [ρo _ _ (by omega) (by omega) (by omega), t4]⟩, by omega, ρ8, ρ9, ρ12, ρ11, ρ217, fun i hi => absurd hi (by simp), fun j hj => ρo _ _ (by omega) (by omega) (by omega)⟩
    have k0 : JK r (ρ.1 218) (ρ.1 219) [] ρ1 := ⟨ρ14, ρ219, trivial, fun j hj => ρo _ _ (by omega) (by omega) (by omega), fun j hj => ρo _ _ (by omega) (by omega) (by omega), fun x hx => absurd hx (by simp)⟩
    obtain ⟨σ1, e1, O⟩ := J_rule (by omega) hr t5 J0 K0 rfl k0
    rw [← eRA] at O
    have eRR : f_X4_readRule 3 (14 + 2 * r) σ = some σ1 := by unfold f_X4_readRule; rw [lt_eq, eτ, bv_s, e1]
    have frC := fr_X4_readRule (P := fun a k => ¬ (a = 14 + 2 * r ∧ k = 1) ∧ a ≠ 4 ∧ a ≠ 5 ∧ a ≠ 6 ∧ a ≠ 14 + 2 * r + 1 ∧ a ≠ 3) (a0 := 3) (a1 := 14 + 2 * r) (σ0 := σ) (by intro a k q; omega) ko_refl _ eRR
    rw [eRR, bv_s, lt_eq, rd_ia _ _ _ _ _ _ (by omega)]
    -- what lasts
    have last : ∀ (r' : Nat) (τ υ : mm_S), (r' = r ∨ r' = r + 1) → (∀ a k, ¬ (a = 14 + 2 * r ∧ k = 1) → a ≠ 4 → a ≠ 5 → a ≠ 6 → a ≠ 14 + 2 * r + 1 → a ≠ 3 → ¬ (a = 1 ∧ k = 1) → ¬ (a = 0 ∧ k = 4) → τ.1 a k = σ.1 a k) → τ.1 1 1 = 0 → τ.1 0 4 = Int32.ofNat r' →
        (∀ a k, a ≠ 216 → a ≠ 217 → a ≠ 218 → a ≠ 219 → a ≠ 220 → a ≠ 221 → ¬ (a = 214 ∧ (k = 1 ∨ k = 2 ∨ 8 ≤ k ∧ k ≤ 14 ∨ k = 16)) → υ.1 a k = ρ.1 a k) → υ.1 214 1 = 0 → υ.1 214 2 = Int32.ofNat r' → (∀ j, j < 400 * r → υ.1 216 j = ρ.1 216 j) → (∀ j, j < 48 * r → υ.1 218 j = ρ.1 218 j) → (∀ j, j < r → υ.1 219 j = ρ.1 219 j) → (r' = r + 1 → EV r τ υ) → RZ τ υ := by
      intro r' τ υ hr' gx x1 x4 gy y1 y2 y216 y218 y219 ev
      refine ⟨r', n, h, m, ⟨y1.trans x1.symm, ⟨0, by omega, x1⟩, fun k => ?_, fun k => ?_⟩, RQ_keep hq (fun a k q => gy a k (by omega) (by omega) (by omega) (by omega) (by omega) (by omega) (by omega)), ⟨by omega, x4, y2, ⟨?_, ?_, ?_⟩, fun k hk => ?_⟩,
        wr_keep (wr_more hw (by omega)) (fun a k q => gx a k (by omega) (by omega) (by omega) (by omega) (by omega) (by omega) (by omega) (by omega)) (fun a k q => gy a k (by omega) (by omega) (by omega) (by omega) (by omega) (by omega) (by omega)),
        RA_keep ha (fun a k q => gx a k (by omega) (by omega) (by omega) (by omega) (by omega) (by omega) (by omega) (by omega)) (fun a k q => gy a k (by omega) (by omega) (by omega) (by omega) (by omega) (by omega) (by omega)),
        RI_keep (RI_more hi (by omega)) (fun a k q => gx a k (by omega) (by omega) (by omega) (by omega) (by omega) (by omega) (by omega) (by omega)) (fun a k q => gy a k (by omega) (by omega) (by omega) (by omega) (by omega) (by omega) (by omega))⟩
      · rw [gy 215 k (by omega) (by omega) (by omega) (by omega) (by omega) (by omega) (by omega), gx 2 k (by omega) (by omega) (by omega) (by omega) (by omega) (by omega) (by omega) (by omega)]; exact t4 k
      · rw [gx 2 k (by omega) (by omega) (by omega) (by omega) (by omega) (by omega) (by omega) (by omega)]; exact t5 k
      · rw [gx _ _ (by omega) (by omega) (by omega) (by omega) (by omega) (by omega) (by omega) (by omega)]; exact r4.1
      · rw [gx _ _ (by omega) (by omega) (by omega) (by omega) (by omega) (by omega) (by omega) (by omega)]; exact r4.2.1
      · rw [gx _ _ (by omega) (by omega) (by omega) (by omega) (by omega) (by omega) (by omega) (by omega)]; exact r4.2.2
      · by_cases ck : k = r
        · rw [ck]; exact ev (by omega)
        · have kr : k < r := by omega
          exact EV_keep2 (r5 k kr) (fun j => gx _ _ (by omega) (by omega) (by omega) (by omega) (by omega) (by omega) (by omega) (by omega)) (fun j => gx _ _ (by omega) (by omega) (by omega) (by omega) (by omega) (by omega) (by omega) (by omega)) (fun j hj => y216 _ (by omega)) (fun j hj => y218 _ (by omega)) (y219 k kr)
    have gx1 : ∀ a k, ¬ (a = 14 + 2 * r ∧ k = 1) → a ≠ 4 → a ≠ 5 → a ≠ 6 → a ≠ 14 + 2 * r + 1 → a ≠ 3 → ¬ (a = 1 ∧ k = 1) → (su_i σ1 1 1 0).1 a k = σ.1 a k := fun a k q1 q2 q3 q4 q5 q6 q7 => by
      rw [rd_ii, if_neg q7]; exact frC.1 a k ⟨q1, q2, q3, q4, q5, q6⟩
    have x04 : (su_i σ1 1 1 0).1 0 4 = Int32.ofNat r := (gx1 _ _ (by omega) (by omega) (by omega) (by omega) (by omega) (by omega) (by omega)).trans r2
    rcases O with ⟨f, F, ⟨⟨z, s⟩, ey, z0, rg, y218, y219, y1⟩⟩ | ⟨cls, ρ2, ey, f9, c1, c2, c3, c4, c5, c6', c7, c8, c9⟩
    · dsimp only at z0 rg y218 y219 y1
      rw [F.2.1, if_neg F.2.2.1, wp_some, ey, bd_s, z0, if_pos rfl, wp_some, rg.1]
      refine ⟨rfl, last r _ _ (Or.inl rfl) (fun a k q1 q2 q3 q4 q5 q6 q7 _ => gx1 a k q1 q2 q3 q4 q5 q6 q7) (rd_is _ _ _ _) x04 (fun a k q1 q2 q3 q4 q5 q6 q7 => frR _ ey a k ⟨q1, q2, q3, q4, q5, q6, by omega⟩) y1 ?_ rg.2 y218 y219 (fun q => by omega)⟩
      exact (frR _ ey 214 2 (by omega)).trans r3
    · have y2 : ρ2.1 214 2 = Int32.ofNat r := (frR _ ey 214 2 (by omega)).trans r3
      rw [f9, if_pos rfl, lt_eq, x04, show Int32.ofNat r + 1 = Int32.ofNat (r + 1) from n_add r 1, rd_is, wp_some, ey, bd_s, if_neg (show ¬ ((1 : Int32) = 0) by decide), lt_eq, y2, show Int32.ofNat r + 1 = Int32.ofNat (r + 1) from n_add r 1, rd_is, wp_some]
      refine ⟨rfl, last (r + 1) _ _ (Or.inr rfl) (fun a k q1 q2 q3 q4 q5 q6 q7 q8 => by rw [rd_ii, if_neg q8]; exact gx1 a k q1 q2 q3 q4 q5 q6 q7) ((rd_ia _ _ _ _ _ _ (by omega)).trans (rd_is _ _ _ _)) (rd_is _ _ _ _) (fun a k q1 q2 q3 q4 q5 q6 q7 => by rw [rd_ii, if_neg (by omega)]; exact frR _ ey a k ⟨q1, q2, q3, q4, q5, q6, by omega⟩) ((rd_ik _ _ _ _ _ _ (by omega)).trans c9) (rd_is _ _ _ _) (fun j hj => (rd_ia _ _ _ _ _ _ (by omega)).trans (c6' j hj)) (fun j hj => (rd_ia _ _ _ _ _ _ (by omega)).trans (c7.2.2.2.1 j hj)) (fun j hj => (rd_ia _ _ _ _ _ _ (by omega)).trans (c7.2.2.2.2.1 j hj)) (fun _ => ?_)⟩
      refine EV_keep2 (σ := σ1) (ρ := ρ2) (EV_new hr c1 c2 c3 c4 c5 c7 c8) (fun j => ?_) (fun j => ?_) (fun j hj => rd_ia _ _ _ _ _ _ (by omega)) (fun j hj => rd_ia _ _ _ _ _ _ (by omega)) (rd_ia _ _ _ _ _ _ (by omega))
      · rw [rd_ia _ _ _ _ _ _ (by omega), rd_ia _ _ _ _ _ _ (by omega)]
      · rw [rd_ia _ _ _ _ _ _ (by omega), rd_ia _ _ _ _ _ _ (by omega)]
