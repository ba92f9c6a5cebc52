/-! ruled, look: which rules fit -/
theorem h_notes {n m k : Nat} {τ υ : mm_S} (hk : k < 7) (t : ti n m τ 36) (x : tx m τ 36 υ 224 0) (hS : ∀ v, v < 61 → υ.1 235 (61 * k + v) = τ.1 213 (61 * k + v)) :
    ∃ b, (b = 0 ∨ b = 1) ∧ f_X3_areSo 36 213 (Int32.ofNat (k * 61)) τ = some (b, τ) ∧ f_X10_areNotesSo 214 (Int32.ofNat k) υ = some (b, υ) := by
  obtain ⟨hm, t0, t1⟩ := t
  obtain ⟨x0, x1⟩ := x
  have main : wp (f_X3_areSo 36 213 (Int32.ofNat (k * 61)) τ) (fun r => wp (f_X10_areNotesSo 214 (Int32.ofNat k) υ) (fun r' => (r.1 = 0 ∨ r.1 = 1) ∧ r.1 = r'.1 ∧ r.2 = τ ∧ r'.2 = υ)) := by
    unfold f_X3_areSo f_X10_areNotesSo f_X3_areSo_2 f_X10_areNotesSo_2
    refine wp_lp2 (fun mm v σ' w ρ' => σ' = τ ∧ ρ' = υ ∧ ∃ i, i ≤ m ∧ mm = m - i ∧ v = Int32.ofNat i ∧ w = Int32.ofNat (3 * i)) ?_ lpN m _ _ _ _ (Nat.lt_of_le_of_lt hm (by decide)) ⟨rfl, rfl, 0, by omega, by omega, rfl, rfl⟩
    rintro mm rec rec' v σ' w ρ' ⟨rfl, rfl, i, hi, rfl, rfl, rfl⟩ hrec
    have x0' : ρ'.1 224 120 = Int32.ofNat m := x0.trans t0
    have k3 : Int32.ofInt 3 = Int32.ofNat 3 := rfl
    simp (disch := omega) only [n_lit, gd_n (k := 120), n_idx, x0', t0, n_mul, n_le]
    by_cases ci : i = m
    · subst ci; simp only [Nat.le_refl, if_true, wp_some]; exact ⟨Or.inr trivial, trivial, trivial, trivial⟩
    · simp only [show ¬ (m ≤ i) by omega, show ¬ (3 * m ≤ 3 * i) by omega, if_false]
      obtain ⟨⟨a, ha, ea⟩, ⟨b, hb, eb⟩, ⟨c, hc, ec⟩⟩ := t1 i (by omega)
      obtain ⟨y1, y2, y3⟩ := x1 i (by omega)
      have z1 : ρ'.1 224 (90 + 3 * i) = Int32.ofNat a := by rw [← ea, ← y1, show 0 + 90 + 3 * i = 90 + 3 * i by omega]
      have z2 : ρ'.1 224 (90 + 3 * i + 1) = σ'.1 38 i := by rw [show 90 + 3 * i + 1 = 0 + 91 + 3 * i by omega]; exact y2
      have z3 : ρ'.1 224 (90 + 3 * i + 2) = σ'.1 39 i := by rw [show 90 + 3 * i + 2 = 0 + 92 + 3 * i by omega]; exact y3
      have hs := hS a (by omega)
      have j1 : k * 61 + a = 61 * k + a := by omega
      have j2 : (61 * k + a < 0) = False := eq_false (by omega)
      have j3 : (427 ≤ 61 * k + a) = False := eq_false (by omega)
      have j4 : 3 * i + 3 = 3 * (i + 1) := by omega
      unfold f_X10_spot
      simp (disch := omega) only [n_lit, gd_n, n_idx, n_add, n_mul, z1, bd_s, lt_eq, ea, n_lt, n_le, j1, K213, j2, j3, if_false, z2, z3, hs, show (36 + 2 : Nat) = 38 from rfl, show (36 + 3 : Nat) = 39 from rfl, n_addI, k3, j4]
      by_cases cc : (σ'.1 213 (61 * k + a) >>> (σ'.1 38 i &&& 31)) &&& Int32.ofNat 1 = σ'.1 39 i
      · have cc' : (σ'.1 213 (61 * k + a) >>> (σ'.1 38 i &&& Int32.ofNat 31)) &&& Int32.ofNat 1 = σ'.1 39 i := cc
        simp only [if_pos cc']
        exact hrec (m - (i + 1)) _ _ _ _ (by omega) ⟨rfl, rfl, i + 1, by omega, rfl, rfl, rfl⟩
      · have cc' : ¬ ((σ'.1 213 (61 * k + a) >>> (σ'.1 38 i &&& Int32.ofNat 31)) &&& Int32.ofNat 1 = σ'.1 39 i) := cc
        simp only [if_neg cc', wp_some]
        exact ⟨Or.inl trivial, trivial, trivial, trivial⟩
  obtain ⟨⟨b, _⟩, e, ⟨b', _⟩, e', q0, q1, q2, q3⟩ := main
  subst q1 q2 q3
  exact ⟨b, q0, e, e'⟩
def WS (k v : Nat) (τ υ : mm_S) : Prop := ∀ a b, b < 61 → (a < k ∨ (a = k ∧ b < v)) → υ.1 235 (61 * a + b) = τ.1 213 (61 * a + b)
theorem HH_keep {n h : Nat} {τ υ τ' υ' : mm_S} (C : HH n h τ υ) (g : ∀ a k, a ≠ 213 → τ'.1 a k = τ.1 a k) (gw : τ'.2.2 = τ.2.2) (g' : ∀ a k, a ≠ 234 → a ≠ 235 → υ'.1 a k = υ.1 a k) : HH n h τ' υ' := by
  obtain ⟨hp, hs, hj, hX⟩ := C
  refine ⟨HP_keep hp (fun a k q => g a k (by unfold HPc at q; omega)) gw (fun a k q => g' a k (by unfold HPr at q; omega) (by unfold HPr at q; omega)), ?_, nj_keep hj (fun a k q => g a k (by omega)), nx_keep hX (fun a k q => g a k (by omega)) (fun a k q => g' a k (by omega) (by omega))⟩
  unfold HS; rw [g _ _ (by decide), g' _ _ (by decide) (by decide)]; exact hs
theorem UF_pass {ρ υ : mm_S} {r : Int32 × mm_S} (h : UF ρ υ) (e : f_X10_passes 214 υ = some r) (s : SO υ r.2) : UF ρ r.2 := by
  obtain ⟨h1, h2, h3, h4, h5⟩ := h
  have F : ko_K _ _ r.2 := fr_X10_passes (P := fun a k => a = 229 ∨ rF a k ∨ (a = 214 ∧ (k = 23 ∨ k = 25))) (a0 := 214) (fun a k q => by unfold rF rT rS at q; omega) (ko_refl (σ := υ)) r e
  exact ⟨fun k hk => (F.1 _ _ (Or.inl rfl)).trans (h1 k hk), SO_trans h2 s, fun a k q => (F.1 a k (Or.inr (Or.inl q))).trans (h3 a k q), (F.1 _ _ (by omega)).trans h4, (F.1 _ _ (by omega)).trans h5⟩
theorem UF_keep {ρ υ υ' : mm_S} (h : UF ρ υ) (g : ∀ a k, a ≠ 234 → a ≠ 235 → ¬ (a = 214 ∧ k = 21) → ¬ (a = 224 ∧ 10 ≤ k ∧ k < 41) → υ'.1 a k = υ.1 a k) : UF ρ υ' := by
  obtain ⟨h1, h2, h3, h4, h5⟩ := h
  refine ⟨fun k hk => ?_, fun k hk => ?_, fun a k q => ?_, ?_, ?_⟩
  · rw [g _ _ (by decide) (by decide) (by omega) (by omega)]; exact h1 k hk
  · rw [g _ _ (by decide) (by decide) (by omega) (by omega)]; exact h2 k hk
  · rw [g _ _ (by unfold rF rT rS at q; omega) (by unfold rF rT rS at q; omega) (by unfold rF at q; omega) (by unfold rF rT at q; omega)]; exact h3 a k q
  · rw [g _ _ (by decide) (by decide) (by omega) (by omega)]; exact h4
  · rw [g _ _ (by decide) (by decide) (by omega) (by omega)]; exact h5
def FT (k F : Nat) (τ υ : mm_S) : Prop := F < 2 ^ k ∧ (∀ j, j < k → υ.1 234 j = bt (Int32.ofNat F) j) ∧ WS k 0 τ υ
theorem h_fits {r n h m : Nat} {σ ρ : mm_S} (Y : RY r n h m σ ρ) : ∃ F τ υ, f_X9_fittingRules 0 σ = some (Int32.ofNat F, τ) ∧ f_X10_fillsFits 214 ρ = some υ ∧ ag cS σ τ ∧ US ρ υ ∧ FT (r + 1) F τ υ := by
  obtain ⟨hn, y1, y2⟩ := RY_n Y
  obtain ⟨r6, r1, r2, -, -⟩ := Y.2.2.1
  obtain ⟨⟨hh, hX⟩, -, ⟨tI, tX⟩, -⟩ := Y.2.2.2.1
  obtain ⟨υ0, eυ, uk, us⟩ := UK_keeps Y.2.1
  have uf0 : UF ρ υ0 := ⟨uk.1, uk.2.1, fun a k q => uk.2.2 a k q.1, us.2.2.1, us.2.2.2.2⟩
  have main : wp (f_X9_fittingRules 0 σ) (fun q => wp (f_X10_fillsFits 214 ρ) (fun υ => ∃ F, q.1 = Int32.ofNat F ∧ ag cS σ q.2 ∧ US ρ υ ∧ FT (r + 1) F q.2 υ)) := by
    unfold f_X9_fittingRules f_X10_fillsFits f_X9_fittingRules_4 f_X10_fillsFits_11
    rw [lt_eq, eυ, bv_s]
    refine wp_lp2 (fun mm v σ' w ρ' => ∃ k F, k ≤ r + 1 ∧ mm = r + 1 - k ∧ v = (Int32.ofNat F, Int32.ofNat k) ∧ w = Int32.ofNat k ∧ ag cS σ σ' ∧ UF ρ ρ' ∧ ρ'.1 214 24 = -1 ∧ FT k F σ' ρ') ?_ lpN (r + 1) _ _ _ _ (Nat.lt_of_le_of_lt (show r + 1 ≤ 7 by omega) (by decide)) ⟨0, 0, by omega, by omega, rfl, rfl, ag_refl, uf0, us.2.2.2.1, by decide, fun j hj => by omega, fun a b _ q => by omega⟩
    clear eυ uk us uf0
    rintro mm rec rec' v σ' w ρ' ⟨k, F, hk, rfl, rfl, rfl, g, uf, u24, f1, f2, f3⟩ hrec
    have e4 : σ'.1 0 4 = Int32.ofNat r := (g _ _ (by unfold cS; omega)).trans r1
    have e2 : ρ'.1 214 2 = Int32.ofNat r := (uf.2.2.1 _ _ (by unfold rF rT rS; omega)).trans r2
    simp (disch := omega) only [e4, e2, n_lt]
    by_cases ck : r < k
    · simp only [ck, if_true, lt_eq, wp_some]
      have uk1 : UK ρ (su_i ρ' 214 21 (ρ.1 214 21)) := by
        refine ⟨fun j hj => ?_, fun j hj => ?_, fun a j q => ?_⟩
        · rw [rd_ia _ _ _ _ _ _ (by decide)]; exact uf.1 j hj
        · rw [rd_ia _ _ _ _ _ _ (by decide)]; exact uf.2.1 j hj
        · rw [rd_ii]
          by_cases c : a = 214 ∧ j = 21
          · rw [if_pos c, c.1, c.2]
          · rw [if_neg c]; exact uf.2.2.1 a j ⟨q, c⟩
      have ub1 : UB (su_i ρ' 214 21 (ρ.1 214 21)) := ⟨by rw [rd_ik _ _ _ _ _ _ (by decide)]; exact uf.2.2.2.1, by rw [rd_ik _ _ _ _ _ _ (by decide)]; exact uf.2.2.2.2⟩
      obtain ⟨ω, eω, us', -⟩ := US_back uk1 ub1 (by rw [rd_ik _ _ _ _ _ _ (by decide)]; exact u24)
      rw [eω, bv_s, wp_some]
      have F' : ko_K _ _ ω := fr_X10_laysBack (P := fun a k => a = 234 ∨ a = 235) (a0 := 214) (fun a k q => by omega) (ko_refl (σ := su_i ρ' 214 21 (ρ.1 214 21))) ω eω
      have e : k = r + 1 := by omega
      subst e
      refine ⟨F, rfl, g, us', f1, fun j hj => ?_, fun a b hb q => ?_⟩
      · rw [F'.1 _ _ (by omega), rd_ia _ _ _ _ _ _ (by decide)]; exact f2 j hj
      · rw [F'.1 _ _ (by omega), rd_ia _ _ _ _ _ _ (by decide)]; exact f3 a b hb q
    · simp only [ck, if_false, lt_eq]
      rw [show (61 : Int32) = Int32.ofNat 61 from rfl, n_mul, gd_n (by omega) (by omega), n_idx (by omega)]
      have hh' : hi n σ' 27 := hi_keep hh (ag_mono g (by intro c k; unfold cS; omega))
      obtain ⟨σ1, e1, b1, b2, b3, b4, b5⟩ := x_begin0 hh'
      obtain ⟨τ, eτ, c1, c2, c3, c4, c5, c6, c7⟩ := x_begin (w := 12 + 2 * k) (b := 201) (Or.inr rfl) b1
      unfold f_X7_beginAsTold
      rw [e1, bv_s, eτ, bv_s, bv_s]
      obtain ⟨υ, eυ, d1, d2, d3, d4⟩ := r_begins (su_i ρ' 214 21 (Int32.ofNat k - 1))
      rw [eυ, bv_s]
      have Fτ : ko_K _ _ τ := fr_X7_begin (P := fun a k => cS a k ∨ a = 213) (a0 := 200) (a1 := 12 + 2 * k) (a2 := 201) (fun a k q => by unfold cS at q; omega) (ko_refl (σ := σ1)) τ eτ
      have gτ : ag cS σ τ := fun a j q => by rw [Fτ.1 _ _ (Or.inl q), b5 _ _ (by unfold cS at q; omega)]; exact g a j q
      have τ213 : ∀ j, τ.1 213 j = σ'.1 213 j := fun j => by rw [Fτ.1 _ _ (Or.inr rfl), b5 _ _ (by omega)]
      have uf1 : UF ρ υ := UF_keep uf (fun a j q1 q2 q3 q4 => by
        by_cases c : a = 224
        · subst c; rw [d3 j (by omega), rd_ia _ _ _ _ _ _ (by decide)]
        · rw [d4 _ _ c, rd_ii, if_neg q3])
      have u24' : υ.1 214 24 = -1 := by rw [d4 _ _ (by decide), rd_ik _ _ _ _ _ _ (by decide)]; exact u24
      have u21 : υ.1 214 21 = vz k := by rw [d4 _ _ (by decide), rd_is]; rfl
      have HPS := HP_of Y uf1 u24' gτ (by rw [c4, b5 _ _ (by omega)]; exact g _ _ (by unfold cS; omega)) c5 c6 c7 (by
        rw [u21]
        cases k with
        | zero => exact Or.inl ⟨vz_0, c3⟩
        | succ k => exact Or.inr ⟨k, by omega, vz_s k, by rw [c3]; omega⟩)
      have nX : nx τ 201 υ 224 10 := c2 υ 224 10 ⟨d1.trans b2.symm, fun l hl => by
        obtain ⟨p1, p2, p3, p4⟩ := b4 l hl
        obtain ⟨q1, q2, q3, q4, q5⟩ := d2 l hl
        have x5 := hX.2.2.2.2.2.1 l hl
        have s41 : (su_i ρ' 214 21 (Int32.ofNat k - 1)).1 224 (41 + l) = σ'.1 28 l := by
          rw [rd_ia _ _ _ _ _ _ (by decide), uf.2.1 _ (by omega), g _ _ (by unfold cS; omega), show 41 + l = 0 + 41 + l by omega]; exact x5.1
        have s47 : (su_i ρ' 214 21 (Int32.ofNat k - 1)).1 224 (47 + l) = σ'.1 29 l := by
          rw [rd_ia _ _ _ _ _ _ (by decide), uf.2.1 _ (by omega), g _ _ (by unfold cS; omega), show 47 + l = 0 + 47 + l by omega]; exact x5.2
        refine ⟨?_, ?_, ?_, ?_, ?_⟩
        · rw [show 10 + 1 + 5 * l = 11 + 5 * l by omega, q1, s41]; exact p1.symm
        · rw [show 10 + 2 + 5 * l = 11 + 5 * l + 1 by omega, q2, s47]; exact p2.symm
        · rw [show 10 + 3 + 5 * l = 11 + 5 * l + 2 by omega, q3, b3]; exact (bt0 l hl).symm
        · rw [show 10 + 4 + 5 * l = 11 + 5 * l + 3 by omega, q4]; exact p3.symm
        · rw [show 10 + 5 + 5 * l = 11 + 5 * l + 4 by omega, q5]; exact p4.symm⟩
      have H0 : HH n 0 τ υ := ⟨HPS.1, HPS.2, c1, nX⟩
      have ft0 : ∀ j, j < k → υ.1 234 j = bt (Int32.ofNat F) j := fun j hj => by rw [d4 _ _ (by decide), rd_ia _ _ _ _ _ _ (by decide)]; exact f2 j hj
      have ws0 : WS k 0 τ υ := fun a b hb q => by rw [d4 _ _ (by decide), rd_ia _ _ _ _ _ _ (by decide), τ213]; exact f3 a b hb q
      unfold f_X9_fittingRules_33 f_X10_fillsFits_32
      refine wp_lp2 (fun mm v σ' w ρ' => ∃ b, b ≤ 61 ∧ mm = 61 - b ∧ v = Int32.ofNat b ∧ w = Int32.ofNat b ∧ HH n b σ' ρ' ∧ σ'.1 200 5 = -1 ∧ ag cS σ σ' ∧ UF ρ ρ' ∧ (∀ j, j < k → ρ'.1 234 j = bt (Int32.ofNat F) j) ∧ WS k b σ' ρ') ?_ lpN 61 _ _ _ _ (by decide) ⟨0, by omega, by omega, rfl, rfl, H0, c6, gτ, uf1, ft0, ws0⟩
      clear H0 ft0 ws0 nX HPS u21 u24' uf1 τ213 gτ Fτ eυ d1 d2 d3 d4 eτ c1 c2 c3 c4 c5 c6 c7 e1 b1 b2 b3 b4 b5 hh' e4 e2 f2 f3 u24 uf g
      rintro mm rec2 rec2' v τ1 w υ1 ⟨b, hb, rfl, rfl, rfl, H1, h5, g, uf, ft, ws⟩ hrec2
      rw [show (61 : Int32) = Int32.ofNat 61 from rfl, show (60 : Int32) = Int32.ofNat 60 from rfl]
      simp (disch := omega) only [n_le, n_lt]
      by_cases cb : b = 61
      · subst cb
        simp only [Nat.le_refl, if_true, show 60 < 61 by omega]
        obtain ⟨x, x01, e1, e2⟩ := h_notes (n := n) (m := m) (k := k) (τ := τ1) (υ := υ1) (by omega) (ti_keep tI (ag_mono g (by intro c k; unfold cS; omega))) (tx_keep tI.1 tX (ag_mono g (by intro c k; unfold cS; omega)) (fun a j q => by obtain ⟨rfl, q1, q2⟩ := q; exact uf.2.1 _ (by omega))) (fun v hv => ws k v hv (Or.inr ⟨rfl, hv⟩))
        have u24 := HH_24 H1 h5
        rw [show (26 + 10 : Nat) = 36 from rfl, e1, bd_s, e2, bd_s, gd_n (by omega) (by omega), n_idx (by omega), nar01 x01, lt_eq, lt_eq, n_addI]
        have k7 : k < 7 := by omega
        have F128 : F < 128 := Nat.lt_of_lt_of_le f1 (Nat.pow_le_pow_right (by omega) (show k ≤ 7 by omega))
        have ws' : ∀ x, WS (k + 1) 0 τ1 (su_i υ1 234 k x) := fun x a b hb q => by
          rw [rd_ia _ _ _ _ _ _ (by decide)]; exact ws a b hb (by omega)
        have uf' : ∀ x, UF ρ (su_i υ1 234 k x) := fun x => UF_keep uf (fun a j q1 q2 q3 q4 => rd_ia _ _ _ _ _ _ q1)
        have u24' : ∀ x, (su_i υ1 234 k x).1 214 24 = -1 := fun x => by rw [rd_ia _ _ _ _ _ _ (by decide)]; exact u24
        rcases x01 with rfl | rfl
        · rw [if_pos rfl]
          refine hrec (r + 1 - (k + 1)) _ _ _ _ (by omega) ⟨k + 1, F, by omega, rfl, rfl, rfl, g, uf' _, u24' _, Nat.lt_of_lt_of_le f1 (Nat.pow_le_pow_right (by omega) (by omega)), fun j hj => ?_, ws' _⟩
          by_cases cj : j = k
          · subst cj; rw [rd_is, bt_hi7 F F128 j k7 f1]
          · rw [rd_ik _ _ _ _ _ _ cj]; exact ft j (by omega)
        · rw [if_neg (by decide), lt_eq, or_bit7 F F128 k k7]
          refine hrec (r + 1 - (k + 1)) _ _ _ _ (by omega) ⟨k + 1, F ||| 2 ^ k, by omega, rfl, rfl, rfl, g, uf' _, u24' _, Nat.or_lt_two_pow (Nat.lt_of_lt_of_le f1 (Nat.pow_le_pow_right (by omega) (by omega))) (Nat.pow_lt_pow_right (by omega) (by omega)), fun j hj => ?_, ws' _⟩
          rw [bt_or7 F F128 k k7 j (by omega)]
          by_cases cj : j = k
          · subst cj; rw [rd_is, if_pos rfl]
          · rw [rd_ik _ _ _ _ _ _ cj, if_neg cj]; exact ft j (by omega)
      · simp only [show ¬ (61 ≤ b) by omega, show ¬ (60 < b) by omega, if_false]
        obtain ⟨τ2, e1, q, e2, H2, h52, so2, ei⟩ := h_pass H1 h5
        unfold f_X10_spot
        rw [e1, bv_s, bd_s, e2, show q = (q.1, q.2) from rfl, bd_s, show (61 : Int32) = Int32.ofNat 61 from rfl, n_mul, n_add, n_add, gd_n (by omega) (by omega), gd_n (by omega) (by omega), n_idx (by omega), n_idx (by omega), lt_eq, lt_eq, lt_eq, lt_eq, n_addI, show k * 61 + b = 61 * k + b by omega]
        have Fa : ko_K _ _ τ2 := fr_X7_passHours (P := fun a k => a = 213) (a0 := 200) (fun a k q => by omega) (ko_refl (σ := τ1)) τ2 e1
        have Fb : ko_K _ _ q.2 := fr_X10_passes (P := fun a k => a = 234 ∨ a = 235) (a0 := 214) (fun a k q => by omega) (ko_refl (σ := υ1)) q e2
        refine hrec2 (61 - (b + 1)) _ _ _ _ (by omega) ⟨b + 1, by omega, rfl, rfl, rfl, HH_keep H2 (fun a j q => rd_ia _ _ _ _ _ _ q) rfl (fun a j _ q => rd_ia _ _ _ _ _ _ q), by rw [rd_ia _ _ _ _ _ _ (by decide)]; exact h52, fun a j q => by rw [rd_ia _ _ _ _ _ _ (by unfold cS at q; omega)]; exact cS_pass g e1 a j q, UF_keep (UF_pass uf e2 so2) (fun a j q1 q2 q3 q4 => rd_ia _ _ _ _ _ _ q2), fun j hj => by rw [rd_ia _ _ _ _ _ _ (by decide), Fb.1 _ _ (by omega)]; exact ft j hj, fun a c hc p => ?_⟩
        by_cases cc : 61 * a + c = 61 * k + b
        · rw [cc, rd_is, rd_is]; exact ei
        · rw [rd_ik _ _ _ _ _ _ cc, rd_ik _ _ _ _ _ _ cc, Fa.1 _ _ rfl, Fb.1 _ _ (by omega)]; exact ws a c hc (by omega)
  obtain ⟨⟨x, τ⟩, e1, υ, e2, F, rfl, p2, p3, p4⟩ := main
  exact ⟨F, τ, υ, e1, e2, p2, p3, p4⟩
