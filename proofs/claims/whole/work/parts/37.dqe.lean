/-! ruled, look -/
theorem or_bit7 : ∀ s, s < 128 → ∀ t, t < 7 → Int32.ofNat s ||| ((1 : Int32) <<< (Int32.ofNat t &&& 31)) = Int32.ofNat (s ||| 2 ^ t) := by decide +kernel
theorem bt_or7 : ∀ s, s < 128 → ∀ t, t < 7 → ∀ l, l < 7 → bt (Int32.ofNat (s ||| 2 ^ t)) l = if l = t then 1 else bt (Int32.ofNat s) l := by decide +kernel
theorem bt_hi7 : ∀ s, s < 128 → ∀ l, l < 7 → s < 2 ^ l → bt (Int32.ofNat s) l = 0 := by decide +kernel
theorem bt_zero7 : ∀ s, s < 128 → s ≠ 0 → ∃ l, l < 7 ∧ bt (Int32.ofNat s) l = 1 := by decide +kernel
theorem bt_one7 : ∀ l, l < 7 → bt (Int32.ofNat 0) l = 0 := by decide +kernel
theorem nar01 {b : Int32} (h : b = 0 ∨ b = 1) : vp_nar .boolean b = b := by
  rcases h with rfl | rfl
  · decide +kernel
  · decide +kernel
theorem K213 : (mm_K 213).2 = 427 := by decide +kernel
/-- the walk begins as the house is told -/
def rF (c k : Nat) : Prop := rT c k ∧ ¬ (c = 214 ∧ k = 21)
def UF (ρ υ : mm_S) : Prop := (∀ k, k < 31 → υ.1 229 k = ρ.1 224 (10 + k)) ∧ SO ρ υ ∧ ag rF ρ υ ∧ υ.1 214 23 = -1 ∧ υ.1 214 25 = 0
theorem HP_of {r n h m : Nat} {σ τ ρ υ : mm_S} (H : RY r n h m σ ρ) (u : UF ρ υ) (u24 : υ.1 214 24 = -1) (g : ag cS σ τ) (k1 : τ.1 200 3 = σ.1 27 2) (k2 : τ.1 200 4 = -1) (k3 : τ.1 200 5 = -1) (k4 : ∀ k, k < 6 → τ.1 206 k = -1)
    (kr : (υ.1 214 21 = -1 ∧ τ.2.2 = 12) ∨ ∃ k, k < r ∧ υ.1 214 21 = Int32.ofNat k ∧ τ.2.2 = 14 + 2 * k) : HP n τ υ ∧ HS n τ υ := by
  obtain ⟨-, u1, u2, u3, u5⟩ := u
  obtain ⟨-, -, ⟨r1, r2, r3, ⟨r4, r5, r6⟩, r7⟩, ⟨⟨hh, hX⟩, -⟩, -⟩ := id H
  obtain ⟨x0, x1, x2, x3, x4, x5, x6⟩ := hX
  obtain ⟨i0, i1, i2, i3, i4, -⟩ := hh
  have c27 : ∀ k, τ.1 27 k = σ.1 27 k := fun k => g _ _ (by unfold cS; omega)
  have c30 : ∀ k, τ.1 30 k = σ.1 30 k := fun k => g _ _ (by unfold cS; omega)
  refine ⟨⟨⟨i0, by rw [c27]; exact i4, by rw [u1 _ (by omega)]; exact x3.trans i4⟩, ⟨by rw [c27]; exact i2, by rw [c27, u1 _ (by omega)]; exact x1⟩, ⟨by rw [k1]; exact i3, by rw [k1, u1 _ (by omega)]; exact x2⟩, by rw [c27, u1 _ (by omega)]; exact x4,
    fun k hk => by rw [c30, u1 _ (by omega)]; have := x6 k hk; rw [show 0 + 53 + k = 53 + k by omega] at this; exact this, ⟨Or.inl k2, u3.trans k2.symm⟩, fun l hl => Or.inl ⟨by rw [u5]; exact bt0 l (by omega), k4 l (by omega)⟩, ?_⟩, u24.trans k3.symm, Or.inl k3⟩
  rcases kr with ⟨q1, q2⟩ | ⟨k, hk, q1, q2⟩
  · exact Or.inl ⟨q1, q2, by rw [g _ _ (by unfold cS; omega)]; exact r4, by rw [g _ _ (by unfold cS; omega)]; exact r5, by rw [g _ _ (by unfold cS; omega)]; exact r6⟩
  · exact Or.inr ⟨k, by omega, q1, q2, EV_keep (by omega) (r7 k hk) (ag_mono g (by intro c k; unfold cS; omega)) (ag_mono u2 (by intro c k; unfold rF rT rS; omega))⟩
theorem x_begin0 {n : Nat} {σ : mm_S} (hh : hi n σ 27) : wp (f_X2_begin 201 27 σ) (fun τ => nj n 0 0 τ 201 ∧ τ.1 201 0 = 0 ∧ τ.1 201 1 = 0 ∧ (∀ l, l < 6 → τ.1 202 l = σ.1 28 l ∧ τ.1 203 l = σ.1 29 l ∧ τ.1 204 l = -1 ∧ τ.1 205 l = 0) ∧ ∀ c k, ¬ (201 ≤ c ∧ c ≤ 205) → τ.1 c k = σ.1 c k) := by
  unfold f_X2_begin
  rw [lt_eq, lt_eq, lt_eq, lt_eq, wp_bv]
  refine wp_mono (x_fill (a := 201 + 3) (-1) _ (by decide +kernel)) ?_
  rintro σ1 ⟨f1, f2, -⟩
  rw [wp_bv]
  refine wp_mono (x_fill (a := 201 + 4) 0 _ (by decide +kernel)) ?_
  rintro τ ⟨g1, g2, -⟩
  rw [wp_some]
  have a0 : τ.1 201 0 = 0 := by
    rw [g2 _ _ (by decide), f2 _ _ (by decide), rd_ca _ _ _ _ _ _ _ _ (by decide), rd_ca _ _ _ _ _ _ _ _ (by decide), rd_ik _ _ _ _ _ _ (by decide), rd_is]
  have a1 : τ.1 201 1 = 0 := by
    rw [g2 _ _ (by decide), f2 _ _ (by decide), rd_ca _ _ _ _ _ _ _ _ (by decide), rd_ca _ _ _ _ _ _ _ _ (by decide), rd_is]
  have a2 : ∀ l, l < 6 → τ.1 202 l = σ.1 28 l := fun l hl => by
    rw [g2 _ _ (by decide), f2 _ _ (by decide), rd_ca _ _ _ _ _ _ _ _ (by decide), rd_cs, if_pos ⟨by omega, by omega⟩, show 0 + (l - 0) = l by omega, rd_ia _ _ _ _ _ _ (by decide), rd_ia _ _ _ _ _ _ (by decide)]
  have a3 : ∀ l, l < 6 → τ.1 203 l = σ.1 29 l := fun l hl => by
    rw [g2 _ _ (by decide), f2 _ _ (by decide), rd_cs, if_pos ⟨by omega, by omega⟩, show 0 + (l - 0) = l by omega, rd_ca _ _ _ _ _ _ _ _ (by decide), rd_ia _ _ _ _ _ _ (by decide), rd_ia _ _ _ _ _ _ (by decide)]
  have a4 : ∀ l, l < 6 → τ.1 204 l = -1 := fun l hl => by rw [g2 _ _ (by decide)]; exact f1 l (by rw [show (mm_K (201 + 3)).2 = 6 by decide +kernel]; exact hl)
  have a5 : ∀ l, l < 6 → τ.1 205 l = 0 := fun l hl => g1 l (by rw [show (mm_K (201 + 4)).2 = 6 by decide +kernel]; exact hl)
  obtain ⟨-, -, -, -, -, h6, h7, h8⟩ := hh
  refine ⟨⟨a0, ⟨0, Nat.pow_pos (by omega), a1⟩, fun l hl => ?_, fun l hl => ?_, fun l hl => Or.inl (a4 l hl), fun l hl => ⟨0, by omega, a5 l hl⟩, fun l h1 h2 => ⟨?_, a4 l h2, a5 l h2⟩⟩, a0, a1, fun l hl => ⟨a2 l hl, a3 l hl, a4 l hl, a5 l hl⟩, fun c k q => ?_⟩
  · rw [show (201 + 1 : Nat) = 202 from rfl, a2 l hl]; exact h6 l hl
  · rw [show (201 + 2 : Nat) = 203 from rfl, a3 l hl]; exact h7 l hl
  · rw [show (201 + 1 : Nat) = 202 from rfl, a2 l h2]; exact h8 l h1 h2
  · rw [g2 _ _ (by omega), f2 _ _ (by omega), rd_ca _ _ _ _ _ _ _ _ (by omega), rd_ca _ _ _ _ _ _ _ _ (by omega), rd_ia _ _ _ _ _ _ (by omega), rd_ia _ _ _ _ _ _ (by omega)]
theorem r_begins (ρ : mm_S) : wp (f_X10_begins 214 ρ) (fun υ => υ.1 224 10 = 0 ∧ (∀ l, l < 6 → υ.1 224 (11 + 5 * l) = ρ.1 224 (41 + l) ∧ υ.1 224 (11 + 5 * l + 1) = ρ.1 224 (47 + l) ∧ υ.1 224 (11 + 5 * l + 2) = 0 ∧ υ.1 224 (11 + 5 * l + 3) = -1 ∧ υ.1 224 (11 + 5 * l + 4) = 0) ∧ SO ρ υ ∧ ∀ a k, a ≠ 224 → υ.1 a k = ρ.1 a k) := by
  unfold f_X10_begins f_X10_begins_10
  rw [show (10 : Int32) = Int32.ofNat 10 from rfl, gd_n (by omega) (by omega), n_idx (by omega), lt_eq]
  refine wp_lp (fun m v υ => ∃ j, j ≤ 6 ∧ m = 6 - j ∧ v = Int32.ofNat j ∧ υ.1 224 10 = 0 ∧ (∀ l, l < j → υ.1 224 (11 + 5 * l) = ρ.1 224 (41 + l) ∧ υ.1 224 (11 + 5 * l + 1) = ρ.1 224 (47 + l) ∧ υ.1 224 (11 + 5 * l + 2) = 0 ∧ υ.1 224 (11 + 5 * l + 3) = -1 ∧ υ.1 224 (11 + 5 * l + 4) = 0) ∧ SO ρ υ ∧ ∀ a k, a ≠ 224 → υ.1 a k = ρ.1 a k) ?_ lpN 6 _ _ (by decide)
    ⟨0, by omega, by omega, rfl, rd_is _ _ _ _, fun l hl => by omega, fun k hk => rd_ik _ _ _ _ _ _ (by omega), fun a k q => rd_ia _ _ _ _ _ _ q⟩
  rintro m rec v υ ⟨j, hj, rfl, rfl, w1, w2, w3, w4⟩ hrec
  rw [show (6 : Int32) = Int32.ofNat 6 from rfl]
  simp (disch := omega) only [n_le]
  by_cases c : j = 6
  · subst c; simp only [Nat.le_refl, if_true, wp_some]; exact ⟨w1, w2, w3, w4⟩
  · rw [if_neg (by omega)]
    have q0 : (0 : Int32) = Int32.ofNat 0 := rfl
    rw [show (11 : Int32) = Int32.ofNat 11 from rfl, show (5 : Int32) = Int32.ofNat 5 from rfl, show (41 : Int32) = Int32.ofNat 41 from rfl, show (47 : Int32) = Int32.ofNat 47 from rfl, show (1 : Int32) = Int32.ofNat 1 from rfl, show (2 : Int32) = Int32.ofNat 2 from rfl, show (3 : Int32) = Int32.ofNat 3 from rfl, show (4 : Int32) = Int32.ofNat 4 from rfl]
    simp (disch := omega) only [n_mul, n_add, lt_eq, gd_n, n_idx, n_addI]
    refine hrec (6 - (j + 1)) _ _ (by omega) ⟨j + 1, by omega, rfl, rfl, ?_, fun l hl => ?_, fun k hk => ?_, fun a k q => ?_⟩
    · rw [rd_ik _ _ _ _ _ _ (by omega), rd_ik _ _ _ _ _ _ (by omega), rd_ik _ _ _ _ _ _ (by omega), rd_ik _ _ _ _ _ _ (by omega), rd_ik _ _ _ _ _ _ (by omega)]; exact w1
    · by_cases c2 : l = j
      · subst c2
        have z1 : υ.1 224 (41 + l) = ρ.1 224 (41 + l) := w3 _ (by omega)
        have z2 : υ.1 224 (47 + l) = ρ.1 224 (47 + l) := w3 _ (by omega)
        refine ⟨?_, ?_, ?_, ?_, ?_⟩
        · rw [rd_ik _ _ _ _ _ _ (by omega), rd_ik _ _ _ _ _ _ (by omega), rd_ik _ _ _ _ _ _ (by omega), rd_ik _ _ _ _ _ _ (by omega), rd_is]; exact z1
        · rw [rd_ik _ _ _ _ _ _ (by omega), rd_ik _ _ _ _ _ _ (by omega), rd_ik _ _ _ _ _ _ (by omega), rd_is, rd_ik _ _ _ _ _ _ (by omega)]; exact z2
        · rw [rd_ik _ _ _ _ _ _ (by omega), rd_ik _ _ _ _ _ _ (by omega), rd_is]
        · rw [rd_ik _ _ _ _ _ _ (by omega), rd_is]; rfl
        · rw [rd_is]
      · have := w2 l (by omega)
        have z : ∀ k, (∀ i, i < 5 → k ≠ 11 + 5 * j + i) → (su_i (su_i (su_i (su_i (su_i υ 224 (11 + 5 * j) (υ.1 224 (41 + j))) 224 (11 + 5 * j + 1) ((su_i υ 224 (11 + 5 * j) (υ.1 224 (41 + j))).1 224 (47 + j))) 224 (11 + 5 * j + 2) 0) 224 (11 + 5 * j + 3) (-Int32.ofNat 1)) 224 (11 + 5 * j + 4) 0).1 224 k = υ.1 224 k := fun k hk => by
          have h0 := hk 0 (by omega); have h1 := hk 1 (by omega); have h2 := hk 2 (by omega); have h3 := hk 3 (by omega); have h4 := hk 4 (by omega)
          rw [rd_ik _ _ _ _ _ _ h4, rd_ik _ _ _ _ _ _ h3, rd_ik _ _ _ _ _ _ h2, rd_ik _ _ _ _ _ _ h1, rd_ik _ _ _ _ _ _ (by omega)]
        rw [z _ (by intro i hi; omega), z _ (by intro i hi; omega), z _ (by intro i hi; omega), z _ (by intro i hi; omega), z _ (by intro i hi; omega)]
        exact this
    · rw [rd_ik _ _ _ _ _ _ (by omega), rd_ik _ _ _ _ _ _ (by omega), rd_ik _ _ _ _ _ _ (by omega), rd_ik _ _ _ _ _ _ (by omega), rd_ik _ _ _ _ _ _ (by omega)]; exact w3 k hk
    · rw [rd_ia _ _ _ _ _ _ q, rd_ia _ _ _ _ _ _ q, rd_ia _ _ _ _ _ _ q, rd_ia _ _ _ _ _ _ q, rd_ia _ _ _ _ _ _ q]; exact w4 a k q
