/-! lonely, pennies, chain, note -/
theorem RY_nx {r n h m : Nat} {σ ρ : mm_S} (Y : RY r n h m σ ρ) : ∀ l, l < 6 → ρ.1 224 (11 + 5 * l) = σ.1 32 l ∧ ρ.1 224 (11 + 5 * l + 1) = σ.1 33 l ∧ ρ.1 224 (11 + 5 * l + 2) = bt (σ.1 31 1) l ∧ ρ.1 224 (11 + 5 * l + 3) = σ.1 34 l ∧ ρ.1 224 (11 + 5 * l + 4) = σ.1 35 l := fun l hl => by
  have := Y.2.2.2.1.2.1.2.2.2 l hl
  rw [show 0 + 10 + 1 + 5 * l = 11 + 5 * l by omega, show 0 + 10 + 2 + 5 * l = 11 + 5 * l + 1 by omega, show 0 + 10 + 3 + 5 * l = 11 + 5 * l + 2 by omega, show 0 + 10 + 4 + 5 * l = 11 + 5 * l + 3 by omega, show 0 + 10 + 5 + 5 * l = 11 + 5 * l + 4 by omega] at this
  exact this
theorem RY_nj {r n h m : Nat} {σ ρ : mm_S} (Y : RY r n h m σ ρ) : nj n h h σ 31 ∧ h ≤ 999 := ⟨Y.2.2.2.1.2.1.2.1, Y.2.2.2.1.2.1.1⟩
theorem so_both {r n h m : Nat} {σ ρ : mm_S} (Y : RY r n h m σ ρ) : so (fun l => ρ.1 224 (11 + 5 * l + 3)) n = so (σ.1 34) 6 := by
  obtain ⟨hn, -⟩ := RY_n Y
  obtain ⟨⟨-, -, -, -, -, -, j7⟩, -⟩ := RY_nj Y
  rw [show (6 : Nat) = n + (6 - n) by omega, so_more (f := σ.1 34) (n := n) (6 - n) (fun l h1 h2 => by rw [show σ.1 34 l = -1 from (j7 l h1 (by omega)).2.1]; decide)]
  exact so_congr n (fun l hl => (RY_nx Y l (by omega)).2.2.2.1)
theorem m_lonely : RM (f_X9_lonely 0) (f_X10_lonely 214) := by
  intro σ ρ H
  obtain ⟨r, n, h, m, Y⟩ := id H
  obtain ⟨hn, y1, y2⟩ := RY_n Y
  unfold f_X9_lonely f_X10_lonely f_X9_everybody
  rcases RY_hs Y with ⟨s1, s2⟩ | ⟨s1, s2⟩
  · rw [show σ.1 (26 + 1) 0 = 0 from s1, if_pos rfl, r_isHouse0 s2, bd_s, if_pos rfl, wp_some, wp_some]; exact ⟨rfl, H⟩
  · rw [show σ.1 (26 + 1) 0 = 1 from s1, if_neg (show ¬ ((1 : Int32) = 0) by decide), r_isHouse1 s2, bd_s, bd_s, if_neg (show ¬ ((1 : Int32) = 0) by decide), x_sought, bd_s, r_soughtOnes ρ y2 hn, bd_s, so_both Y]
    simp (disch := omega) only [show (3 : Int32) = Int32.ofNat 3 from rfl, gd_n, n_idx, wp_some]
    exact ⟨by rw [show σ.1 (26 + 1) 3 = ρ.1 224 3 from y1.trans y2.symm], H⟩
theorem sm_nat {f : Nat → Int32} {B : Nat} : ∀ k, k ≤ 6 → (∀ l, l < 6 → ∃ t, t ≤ B ∧ f l = Int32.ofNat t) → ∃ S, S ≤ k * B ∧ sm f k = Int32.ofNat S
  | 0, _, _ => ⟨0, by omega, rfl⟩
  | k + 1, hk, h => by
    obtain ⟨S, hS, e⟩ := sm_nat k (by omega) h
    obtain ⟨t, ht, e'⟩ := h k (by omega)
    exact ⟨S + t, by rw [Nat.add_mul, Nat.one_mul]; omega, by show sm f k + f k = _; rw [e, e', n_add]⟩
theorem gq_n {ρ : Type} {x : Int32} {y : Option ρ} (h : x ≠ 0) : gq x y = y := if_neg h
theorem m_pennies (i j : Int32) : RM (f_X9_pennies 0 i j) (f_X10_pennies 214 i j) := by
  intro σ ρ H
  obtain ⟨r, n, h, m, Y⟩ := id H
  obtain ⟨hn, y1, y2⟩ := RY_n Y
  have X := RY_nx Y
  obtain ⟨⟨-, -, -, -, -, j6, j7⟩, h9⟩ := RY_nj Y
  unfold f_X9_pennies f_X10_pennies
  rcases isl_cases (n := n) (by omega) j with ⟨l, hl, rfl⟩ | c
  · rw [x_isl1 y1 hn hl, r_isl1 y2 hn hl, bd_s, bd_s, if_neg (show ¬ ((1 : Int32) = 0) by decide), if_neg (show ¬ ((1 : Int32) = 0) by decide)]
    rcases in_cases 0 9999 (by omega) (by omega) i with ⟨M, _, hM, rfl⟩ | c
    · rw [r_in1 (a := 0) (b := 9999) (by omega) (by omega) hM, bd_s, if_neg (show ¬ ((1 : Int32) = 0) by decide), show (9999 : Int32) = Int32.ofNat 9999 from rfl]
      rw [if_neg (n_neg (by omega)), if_pos (by rw [n_le (by omega) (by omega)]; exact hM), x_sum σ K35, bd_s, r_sleptAll ρ y2 hn, bd_s]
      have e35 : sm (fun l => ρ.1 224 (11 + 5 * l + 4)) n = sm (σ.1 35) 6 := by
        rw [show (6 : Nat) = n + (6 - n) by omega, sm_zero (f := σ.1 35) (n := n) (6 - n) (fun l h1 h2 => (j7 l h1 (by omega)).2.2)]
        exact sm_congr n (fun l hl => (X l (by omega)).2.2.2.2)
      obtain ⟨S, hS, eS⟩ := sm_nat (B := 999) 6 (by omega) (fun l hl => by obtain ⟨t, ht, e⟩ := j6 l hl; exact ⟨t, by omega, e⟩)
      have eS' : sm (σ.1 35) 6 = Int32.ofNat S := eS
      rw [e35, eS']
      by_cases c0 : S = 0
      · subst c0; rw [if_neg (by decide), if_pos (show Int32.ofNat 0 = (0 : Int32) from rfl), wp_some, wp_some]; exact ⟨rfl, H⟩
      · have cS : (0 : Int32) < Int32.ofNat S := by rw [show (0 : Int32) = Int32.ofNat 0 from rfl, n_lt (by omega) (by omega)]; omega
        have nS : Int32.ofNat S ≠ 0 := fun e => c0 ((n_zero (by omega)).mp e)
        rw [if_pos cS, if_neg nS, gd_n (by omega) (by omega), gq_n nS, lt_eq, r_sleptBy _ (by omega), bd_s, lt_eq, n_idx (by omega), (X l (by omega)).2.2.2.2, show (26 + 5 + 4 : Nat) = 35 from rfl]
        unfold f_X9_pennies_64 f_X10_pennies_51
        refine wp_lp2 (fun m v σ' w ρ' => σ' = σ ∧ ρ' = ρ ∧ w = v ∧ ∃ k, k ≤ n ∧ m = n - k ∧ v.2.2 = Int32.ofNat k) ?_ lpN n _ _ _ _ (Nat.lt_of_le_of_lt hn (by decide)) ⟨rfl, rfl, rfl, 0, by omega, by omega, rfl⟩
        rintro m' rec rec' ⟨v1, v2, v3⟩ σ' w' ρ' ⟨rfl, rfl, rfl, k, hk, rfl, e3⟩ hrec
        replace e3 : v3 = Int32.ofNat k := e3
        subst e3
        simp (disch := omega) only [show (3 : Int32) = Int32.ofNat 3 from rfl, show (26 + 1 : Nat) = 27 from rfl, y1, y2, gd_n, n_idx, n_le, show (mm_K 35).2 = 6 from K35, gq_n nS, lt_eq, n_addI]
        by_cases cn : k = n
        · subst cn
          simp only [Nat.le_refl, if_true]
          by_cases c1 : v1 ≤ v2
          · simp only [c1, if_true, wp_some]; exact ⟨trivial, H⟩
          · simp only [c1, if_false, wp_some]; exact ⟨trivial, H⟩
        · simp only [show ¬ (n ≤ k) by omega, if_false]
          rw [r_sleptBy _ (by omega), bd_s, (X k (by omega)).2.2.2.2]
          unfold f_X10_pennies_111 f_X10_pennies_115
          simp only [lt_eq, n_addI, gq_n nS]
          have z0 : ∀ x : Int32, x + (0 : Int32) = x := Int32.add_zero
          generalize Int32.ofNat M * σ'.1 35 k = B
          generalize Int32.ofNat M * σ'.1 35 l = A
          simp only [z0, show ∀ x : Int32, x + (1 : Int32) = x + Int32.ofInt 1 from fun _ => rfl]
          by_cases c1 : A - A / Int32.ofNat S * Int32.ofNat S < B - B / Int32.ofNat S * Int32.ofNat S
          · simp only [c1, if_true]
            exact hrec (n - (k + 1)) _ _ _ _ (by omega) ⟨rfl, rfl, rfl, k + 1, by omega, rfl, rfl⟩
          · simp only [c1, if_false]
            by_cases c2 : B - B / Int32.ofNat S * Int32.ofNat S = A - A / Int32.ofNat S * Int32.ofNat S
            · simp only [c2, if_true]
              by_cases c3 : l ≤ k
              · simp only [c3, if_true]
                exact hrec (n - (k + 1)) _ _ _ _ (by omega) ⟨rfl, rfl, rfl, k + 1, by omega, rfl, rfl⟩
              · simp only [c3, if_false]
                exact hrec (n - (k + 1)) _ _ _ _ (by omega) ⟨rfl, rfl, rfl, k + 1, by omega, rfl, rfl⟩
            · simp only [c2, if_false]
              exact hrec (n - (k + 1)) _ _ _ _ (by omega) ⟨rfl, rfl, rfl, k + 1, by omega, rfl, rfl⟩
    · rw [r_in0 (a := 0) (b := 9999) (by omega) (by omega) c, bd_s, if_pos rfl]
      rw [show (0 : Int32) = Int32.ofNat 0 from rfl, show (9999 : Int32) = Int32.ofNat 9999 from rfl, rng_b c, wp_some, wp_some]; exact ⟨rfl, H⟩
  · rw [x_isl0 y1 c, bd_s, r_isl0 y2 c, bd_s, if_pos rfl, if_pos rfl, wp_some, wp_some]; exact ⟨rfl, H⟩
theorem bt_clear : ∀ s, s < 64 → ∀ t, t < 6 → bt (Int32.ofNat s) t = 0 → pcn (s ||| 2 ^ t) = pcn s + 1 := by decide +kernel
theorem bt_full : ∀ s, s < 64 → pcn s = 6 → ∀ t, t < 6 → bt (Int32.ofNat s) t = 1 := by decide +kernel
theorem bt_eq0 : ∀ s, s < 64 → ∀ t, t < 6 → ((((Int32.ofNat s >>> (Int32.ofNat t &&& 31)) &&& (1 : Int32)) = 0) ↔ bt (Int32.ofNat s) t = 0) := by decide +kernel
theorem pcn_le : ∀ s, s < 64 → pcn s ≤ 6 := by decide +kernel
theorem m_chain (i j : Int32) : RM (f_X9_chain 0 i j) (f_X10_chain 214 i j) := by
  intro σ ρ H
  obtain ⟨r, n, h, m, Y⟩ := id H
  obtain ⟨hn, y1, y2⟩ := RY_n Y
  have X := RY_nx Y
  obtain ⟨⟨-, -, -, -, j5, -, -⟩, -⟩ := RY_nj Y
  unfold f_X9_chain f_X10_chain
  rcases isl_cases (n := n) (by omega) i with ⟨l, hl, rfl⟩ | c
  · rw [x_isl1 y1 hn hl, r_isl1 y2 hn hl, bd_s, bd_s, if_neg (show ¬ ((1 : Int32) = 0) by decide), if_neg (show ¬ ((1 : Int32) = 0) by decide)]
    rcases in_cases 0 1 (by omega) (by omega) j with ⟨w, _, hw, rfl⟩ | c
    · rw [r_in1 (a := 0) (b := 1) (by omega) (by omega) hw, bd_s, if_neg (show ¬ ((1 : Int32) = 0) by decide)]
      rw [show (1 : Int32) = Int32.ofNat 1 from rfl, if_neg (n_neg (by omega)), if_pos (by rw [n_le (by omega) (by omega)]; exact hw)]
      have ends : ∀ s, s < 64 → ∀ x : Int32, wp (f_X9_chain_86 (Int32.ofNat l) (Int32.ofNat w) (Int32.ofNat (pcn s)) x σ) (fun q => wp (f_X10_chain_57 (Int32.ofNat l) (Int32.ofNat w) (Int32.ofNat s) x ρ) (fun q' => q.1 = q'.1 ∧ RZ q.2 q'.2)) := by
        intro s hs x
        unfold f_X9_chain_86 f_X10_chain_57
        rw [r_bits hs, bd_s]
        by_cases c0 : Int32.ofNat w = 0
        · rw [if_pos c0, if_pos c0, wp_some, wp_some]; exact ⟨rfl, H⟩
        · rw [if_neg c0, if_neg c0]
          by_cases c1 : x = Int32.ofNat l
          · rw [if_pos c1, if_pos c1, wp_some, wp_some]; exact ⟨rfl, H⟩
          · rw [if_neg c1, if_neg c1, wp_some, wp_some]; exact ⟨rfl, H⟩
      unfold f_X9_chain_30 f_X10_chain_25
      refine wp_lp2 (fun m v σ' w ρ' => σ' = σ ∧ ρ' = ρ ∧ ∃ s x, s < 2 ^ n ∧ (x = -1 ∨ ∃ t, t < n ∧ x = Int32.ofNat t) ∧ m = 6 - pcn s ∧ v = (Int32.ofNat s, Int32.ofNat (pcn s), x, Int32.ofNat (pcn s)) ∧ w = (Int32.ofNat s, x)) ?_ lpN 6 _ _ _ _ (by decide) ⟨rfl, rfl, 0, Int32.ofNat l, Nat.pos_of_ne_zero (by simp), Or.inr ⟨l, hl, rfl⟩, rfl, rfl, rfl⟩
      rintro m' rec rec' v σ' w' ρ' ⟨rfl, rfl, s, x, hs, hx, rfl, rfl, rfl⟩ hrec
      have h64 := p64 hn hs
      have hp := pcn_le s h64
      simp (disch := omega) only [show (6 : Int32) = Int32.ofNat 6 from rfl, n_le]
      by_cases c6 : 6 ≤ pcn s
      · rw [if_pos c6]
        rcases hx with rfl | ⟨t, ht, rfl⟩
        · rw [if_pos neg1_lt]; exact ends s h64 _
        · rw [if_neg (n_neg (by omega)), r_isOf, bd_s, bt_full s h64 (by omega) t (by omega), if_neg (show ¬ ((1 : Int32) = 0) by decide)]; exact ends s h64 _
      · rw [if_neg c6]
        rcases hx with rfl | ⟨t, ht, rfl⟩
        · rw [x_isl0 (n := n) y1 (Or.inl neg1_lt), bd_s, if_pos rfl, if_pos neg1_lt]; exact ends s h64 _
        · rw [x_isl1 y1 hn ht, bd_s, if_neg (show ¬ ((1 : Int32) = 0) by decide), if_neg (n_neg (by omega)), r_isOf, bd_s]
          rcases bt_01 (Int32.ofNat s) t with b | b
          · rw [if_pos ((bt_eq0 s h64 t (by omega)).mpr b), b, if_pos rfl, r_soughtBy _ (by omega), (X t (by omega)).2.2.2.1]
            simp (disch := omega) only [lt_eq, bd_s, n_addI, gd_n, n_idx, or_bit s h64 t (by omega)]
            have b2 := bt_clear s h64 t (by omega) b
            exact hrec (6 - pcn (s ||| 2 ^ t)) _ _ _ _ (by omega) ⟨rfl, rfl, s ||| 2 ^ t, _, or_lt hs ht, j5 t (by omega), rfl, by rw [b2], rfl⟩
          · rw [if_neg (fun e => absurd ((bt_eq0 s h64 t (by omega)).mp e) (by rw [b]; decide)), b, if_neg (show ¬ ((1 : Int32) = 0) by decide)]; exact ends s h64 _
    · rw [r_in0 (a := 0) (b := 1) (by omega) (by omega) c, bd_s, if_pos rfl]
      rw [show (0 : Int32) = Int32.ofNat 0 from rfl, show (1 : Int32) = Int32.ofNat 1 from rfl, rng_b c, wp_some, wp_some]; exact ⟨rfl, H⟩
  · rw [x_isl0 y1 c, bd_s, r_isl0 y2 c, bd_s, if_pos rfl, if_pos rfl, wp_some, wp_some]; exact ⟨rfl, H⟩
/-- only the notes are others -/
theorem RY_notes {r n h m m' : Nat} {σ τ ρ υ : mm_S} (H : RY r n h m σ ρ) (g : ag (fun c k => cS c k ∧ ¬ (36 ≤ c ∧ c ≤ 39)) σ τ) (g' : ag (fun c k => rS c k ∧ ¬ (c = 224 ∧ 90 ≤ k ∧ k < 121)) ρ υ)
    (h1 : ti n m' τ 36) (h2 : tx m' τ 36 υ 224 0) : RY r n h m' τ υ := by
  obtain ⟨t1, t2, t3, ⟨w1, w2, w3, w4, w5⟩, t5, t6⟩ := H
  refine ⟨RT_keep t1 (ag_mono g (by intro c k; unfold cS; omega)) (ag_mono g' (by intro c k; unfold rS; omega)), RQ_keep t2 (ag_mono g' (by intro c k; unfold rS; omega)),
    RR_keep t3 (ag_mono g (by intro c k; unfold cS; omega)) (ag_mono g' (by intro c k; unfold rS; omega)), ?_,
    RA_keep t5 (ag_mono g (by intro c k; unfold cS; omega)) (ag_mono g' (by intro c k; unfold rS; omega)), RI_keep t6 (ag_mono g (by intro c k; unfold cS; omega)) (ag_mono g' (by intro c k; unfold rS; omega))⟩
  have gx : hx τ 27 υ 224 0 := by
    obtain ⟨x0, x1, x2, x3, x4, x5, x6⟩ := w1.2
    have c27 : ∀ k, τ.1 27 k = σ.1 27 k := fun k => g _ _ (by unfold cS; omega)
    have c28 : ∀ k, τ.1 28 k = σ.1 28 k := fun k => g _ _ (by unfold cS; omega)
    have c29 : ∀ k, τ.1 29 k = σ.1 29 k := fun k => g _ _ (by unfold cS; omega)
    have c30 : ∀ k, τ.1 30 k = σ.1 30 k := fun k => g _ _ (by unfold cS; omega)
    have q : ∀ k, k < 90 → υ.1 224 k = ρ.1 224 k := fun k hk => g' _ _ (by unfold rS; omega)
    refine ⟨?_, ?_, ?_, ?_, ?_, fun l hl => ⟨?_, ?_⟩, fun l hl => ?_⟩
    · rw [c27, q _ (by omega)]; exact x0
    · rw [c27, q _ (by omega)]; exact x1
    · rw [c27, q _ (by omega)]; exact x2
    · rw [c27, q _ (by omega)]; exact x3
    · rw [c27, q _ (by omega)]; exact x4
    · rw [c28, q _ (by omega)]; exact (x5 l hl).1
    · rw [c29, q _ (by omega)]; exact (x5 l hl).2
    · rw [c30, q _ (by omega)]; exact x6 l hl
  refine ⟨⟨hi_keep w1.1 (ag_mono g (by intro c k; unfold cS; omega)), gx⟩, ⟨w2.1, ni_keep w2.2.1 (ag_mono g (by intro c k; unfold cS; omega)), nx_keep w2.2.2 (ag_mono g (by intro c k; unfold cS; omega)) (ag_mono g' (by intro c k; unfold rS; omega))⟩, ⟨h1, h2⟩, ?_, ?_⟩
  · rw [g' 214 21 (by unfold rS; omega), g 26 3 (by unfold cS; omega)]; exact w4
  · rw [g' 214 22 (by unfold rS; omega), g 26 4 (by unfold cS; omega)]; exact w5
theorem m_note (i j k : Int32) : RM (f_X9_note 0 i j k) (f_X10_note 214 i j k) := by
  intro σ ρ H
  obtain ⟨r, n, h, m, Y⟩ := id H
  obtain ⟨hn, y1, y2⟩ := RY_n Y
  obtain ⟨-, -, -, ⟨-, -, ⟨⟨m10, t1, t2⟩, ⟨u1, u2⟩⟩, -⟩, -⟩ := id Y
  unfold f_X9_note f_X10_note
  by_cases c1 : i = -1
  · rw [if_pos c1, if_pos c1, show (120 : Int32) = Int32.ofNat 120 from rfl, gd_n (by omega) (by omega), n_idx (by omega), lt_eq, lt_eq, wp_some, wp_some]
    refine ⟨rfl, r, n, h, 0, RY_notes Y (ag_i (by intro a k; omega)) (ag_i (by intro a k; omega)) ⟨by omega, rd_is _ _ _ _, fun i hi => by omega⟩ ⟨by rw [rd_is, rd_is], fun i hi => by omega⟩⟩
  · rw [if_neg c1, if_neg c1]
    rcases in_cases 0 60 (by omega) (by omega) i with ⟨a, _, ha, rfl⟩ | c
    · rw [r_in1 (a := 0) (b := 60) (by omega) (by omega) ha, bd_s, if_neg (show ¬ ((1 : Int32) = 0) by decide), if_neg (n_neg (by omega)), if_neg (show ¬ ((60 : Int32) < Int32.ofNat a) by rw [show (60 : Int32) = Int32.ofNat 60 from rfl, n_lt (by omega) (by omega)]; omega)]
      rcases isl_cases (n := n) (by omega) j with ⟨l, hl, rfl⟩ | c
      · rw [x_isl1 y1 hn hl, r_isl1 y2 hn hl, bd_s, bd_s, if_neg (show ¬ ((1 : Int32) = 0) by decide), if_neg (show ¬ ((1 : Int32) = 0) by decide)]
        rcases in_cases 0 1 (by omega) (by omega) k with ⟨b, _, hb, rfl⟩ | c
        · rw [r_in1 (a := 0) (b := 1) (by omega) (by omega) hb, bd_s, if_neg (show ¬ ((1 : Int32) = 0) by decide), if_neg (n_neg (by omega)), if_neg (show ¬ ((1 : Int32) < Int32.ofNat b) by rw [show (1 : Int32) = Int32.ofNat 1 from rfl, n_lt (by omega) (by omega)]; omega)]
          have u1' : ρ.1 224 120 = Int32.ofNat m := by have := u1.trans t1; exact this
          have t1' : σ.1 36 0 = Int32.ofNat m := t1
          rw [show (120 : Int32) = Int32.ofNat 120 from rfl, show (10 : Int32) = Int32.ofNat 10 from rfl, show (90 : Int32) = Int32.ofNat 90 from rfl, show (3 : Int32) = Int32.ofNat 3 from rfl, show (2 : Int32) = Int32.ofNat 2 from rfl, show (1 : Int32) = Int32.ofNat 1 from rfl]
          unfold f_X3_add
          simp (disch := omega) only [gd_n, n_idx, u1', show (26 + 10 : Nat) = 36 from rfl, t1', n_lt, n_eq, show (10 : Int32) = Int32.ofNat 10 from rfl, n_le]
          by_cases c10 : m = 10
          · simp only [c10, show ¬ (10 < 10) by omega, if_true, if_false, wp_some]; exact ⟨trivial, H⟩
          · simp only [show m < 10 by omega, show ¬ (10 ≤ m) by omega, c10, if_true, if_false]
            simp (disch := omega) only [lt_eq, n_mul, n_add, gd_n, n_idx, rd_ia, rd_ik, ne_eq, Nat.reduceEqDiff, not_false_eq_true, Nat.reduceAdd, t1', u1', show (1 : Int32) = Int32.ofNat 1 from rfl, bv_s, wp_some]
            simp only [rd_is]
            have C1 : ∀ i, (su_i (su_i (su_i (su_i σ 37 m (Int32.ofNat a)) 38 m (Int32.ofNat l)) 39 m (Int32.ofNat b)) 36 0 (Int32.ofNat (m + 1))).1 37 i = if i = m then Int32.ofNat a else σ.1 37 i := fun i => by
              rw [rd_ia _ _ _ _ _ _ (by decide), rd_ia _ _ _ _ _ _ (by decide), rd_ia _ _ _ _ _ _ (by decide), rd_ii]; simp only [true_and]
            have C2 : ∀ i, (su_i (su_i (su_i (su_i σ 37 m (Int32.ofNat a)) 38 m (Int32.ofNat l)) 39 m (Int32.ofNat b)) 36 0 (Int32.ofNat (m + 1))).1 38 i = if i = m then Int32.ofNat l else σ.1 38 i := fun i => by
              rw [rd_ia _ _ _ _ _ _ (by decide), rd_ia _ _ _ _ _ _ (by decide), rd_ii, rd_ia _ _ _ _ _ _ (by decide)]; simp only [true_and]
            have C3 : ∀ i, (su_i (su_i (su_i (su_i σ 37 m (Int32.ofNat a)) 38 m (Int32.ofNat l)) 39 m (Int32.ofNat b)) 36 0 (Int32.ofNat (m + 1))).1 39 i = if i = m then Int32.ofNat b else σ.1 39 i := fun i => by
              rw [rd_ia _ _ _ _ _ _ (by decide), rd_ii, rd_ia _ _ _ _ _ _ (by decide), rd_ia _ _ _ _ _ _ (by decide)]; simp only [true_and]
            refine ⟨trivial, r, n, h, m + 1, RY_notes Y (fun a k q => ?_) (fun a k q => ?_) ⟨by omega, ?_, fun i hi => ?_⟩ ⟨?_, fun i hi => ?_⟩⟩
            · unfold cS at q; rw [rd_ii, if_neg (by omega), rd_ii, if_neg (by omega), rd_ii, if_neg (by omega), rd_ii, if_neg (by omega)]
            · rw [rd_ii, if_neg (by omega), rd_ii, if_neg (by omega), rd_ii, if_neg (by omega), rd_ii, if_neg (by omega)]
            · rw [rd_is]
            · rw [show (36 + 1 : Nat) = 37 from rfl, show (36 + 2 : Nat) = 38 from rfl, show (36 + 3 : Nat) = 39 from rfl, C1, C2, C3]
              by_cases q : i = m
              · simp only [q, if_true]; exact ⟨⟨a, ha, rfl⟩, ⟨l, hl, rfl⟩, ⟨b, hb, rfl⟩⟩
              · simp only [q, if_false]; exact t2 i (by omega)
            · rw [rd_is, rd_is]
            · rw [show (36 + 1 : Nat) = 37 from rfl, show (36 + 2 : Nat) = 38 from rfl, show (36 + 3 : Nat) = 39 from rfl, C1, C2, C3]
              have P : ∀ k, k ≠ 120 → (su_i (su_i (su_i (su_i ρ 224 (90 + 3 * m) (Int32.ofNat a)) 224 (90 + 3 * m + 1) (Int32.ofNat l)) 224 (90 + 3 * m + 2) (Int32.ofNat b)) 224 120 (Int32.ofNat (m + 1))).1 224 k = if k = 90 + 3 * m + 2 then Int32.ofNat b else if k = 90 + 3 * m + 1 then Int32.ofNat l else if k = 90 + 3 * m then Int32.ofNat a else ρ.1 224 k := fun k hk => by
                rw [rd_ik _ _ _ _ _ _ hk, rd_ii, rd_ii, rd_ii]; simp only [true_and]
              rw [P _ (by omega), P _ (by omega), P _ (by omega)]
              by_cases q : i = m
              · subst q
                simp only [if_true]
                refine ⟨?_, ?_, ?_⟩
                · first | rw [if_neg (by omega), if_neg (by omega)] | rw [if_neg (by omega), if_neg (by omega), if_pos (by omega)]
                · rw [if_neg (by omega), if_pos (by omega)]
                · rw [if_pos (by omega)]
              · simp only [q, if_false]
                refine ⟨?_, ?_, ?_⟩
                · rw [if_neg (by omega), if_neg (by omega), if_neg (by omega)]; exact (u2 i (by omega)).1
                · rw [if_neg (by omega), if_neg (by omega), if_neg (by omega)]; exact (u2 i (by omega)).2.1
                · rw [if_neg (by omega), if_neg (by omega), if_neg (by omega)]; exact (u2 i (by omega)).2.2
        · rw [r_in0 (a := 0) (b := 1) (by omega) (by omega) c, bd_s, if_pos rfl]
          rw [show (0 : Int32) = Int32.ofNat 0 from rfl, show (1 : Int32) = Int32.ofNat 1 from rfl, rng_a c, wp_some, wp_some]; exact ⟨rfl, H⟩
      · rw [x_isl0 y1 c, bd_s, r_isl0 y2 c, bd_s, if_pos rfl, if_pos rfl, wp_some, wp_some]; exact ⟨rfl, H⟩
    · rw [r_in0 (a := 0) (b := 60) (by omega) (by omega) c, bd_s, if_pos rfl]
      rw [show (0 : Int32) = Int32.ofNat 0 from rfl, show (60 : Int32) = Int32.ofNat 60 from rfl, rng_a c, wp_some, wp_some]; exact ⟨rfl, H⟩
/-! acts -/
theorem r_put {u : Nat} (ρ : mm_S) (hu : u < 20) (e : ρ.1 214 31 = Int32.ofNat u) : wp (f_X10_keepsAct_52 214 0 ρ) (fun υ => (∀ k, k < 31 → υ.1 228 (31 * u + k) = ρ.1 224 (10 + k)) ∧ (∀ k, (k < 31 * u ∨ 31 * u + 31 ≤ k) → υ.1 228 k = ρ.1 228 k) ∧ υ.1 214 31 = Int32.ofNat (u + 1) ∧ ∀ a k, a ≠ 228 → ¬ (a = 214 ∧ k = 31) → υ.1 a k = ρ.1 a k) := by
  unfold f_X10_keepsAct_52
  refine wp_lp (fun m v τ => ∃ k, k ≤ 31 ∧ m = 31 - k ∧ v = Int32.ofNat k ∧ (∀ j, j < k → τ.1 228 (31 * u + j) = ρ.1 224 (10 + j)) ∧ (∀ j, (j < 31 * u ∨ 31 * u + k ≤ j) → τ.1 228 j = ρ.1 228 j) ∧ ∀ a j, a ≠ 228 → τ.1 a j = ρ.1 a j) ?_ lpN 31 _ _ (by decide) ⟨0, by omega, by omega, rfl, fun j hj => by omega, fun _ _ => rfl, fun _ _ _ => rfl⟩
  rintro m rec v τ ⟨k, hk, rfl, rfl, i1, i2, i3⟩ hrec
  rw [show (31 : Int32) = Int32.ofNat 31 from rfl, show (10 : Int32) = Int32.ofNat 10 from rfl, show (1 : Int32) = Int32.ofNat 1 from rfl, i3 214 31 (by decide), e]
  simp (disch := omega) only [n_le, n_mul, n_add, lt_eq]
  by_cases c : k = 31
  · subst c; simp only [Nat.le_refl, if_true, wp_some]
    refine ⟨fun k hk => ?_, fun k hk => ?_, rd_is _ _ _ _, fun a k h1 h2 => ?_⟩
    · rw [rd_ia _ _ _ _ _ _ (by decide)]; exact i1 k hk
    · rw [rd_ia _ _ _ _ _ _ (by decide)]; exact i2 k hk
    · rw [rd_ii, if_neg h2]; exact i3 a k h1
  · rw [if_neg (by omega)]
    simp (disch := omega) only [gd_n, n_idx, n_addI]
    refine hrec (31 - (k + 1)) _ _ (by omega) ⟨k + 1, by omega, rfl, rfl, fun j hj => ?_, fun j hj => ?_, fun a j ha => ?_⟩
    · rw [rd_ii]; by_cases q : j = k
      · subst q; rw [if_pos ⟨rfl, rfl⟩, i3 _ _ (by decide)]
      · rw [if_neg (by omega)]; exact i1 j (by omega)
    · rw [rd_ik _ _ _ _ _ _ (by omega)]; exact i2 j (by omega)
    · rw [rd_ia _ _ _ _ _ _ ha]; exact i3 a j ha
theorem r_shift {Q : mm_S → Prop} (ρ : mm_S) (e : ρ.1 214 31 = Int32.ofNat 20) (H : ∀ υ : mm_S, (∀ k, k < 589 → υ.1 228 k = ρ.1 228 (k + 31)) → (∀ a k, a ≠ 228 → ¬ (a = 214 ∧ k = 31) → υ.1 a k = ρ.1 a k) → υ.1 214 31 = Int32.ofNat 19 → wp (f_X10_keepsAct_52 214 0 υ) Q) : wp (f_X10_keepsAct_12 214 31 ρ) Q := by
  unfold f_X10_keepsAct_12
  refine wp_lp (fun m v τ => ∃ k, k ≤ 589 ∧ m = 589 - k ∧ v = Int32.ofNat (k + 31) ∧ (∀ j, j < k → τ.1 228 j = ρ.1 228 (j + 31)) ∧ (∀ j, k ≤ j → τ.1 228 j = ρ.1 228 j) ∧ ∀ a j, a ≠ 228 → τ.1 a j = ρ.1 a j) ?_ lpN 589 _ _ (by decide) ⟨0, by omega, by omega, rfl, fun j hj => by omega, fun _ _ => rfl, fun _ _ _ => rfl⟩
  rintro m rec v τ ⟨k, hk, rfl, rfl, i1, i2, i3⟩ hrec
  rw [show (620 : Int32) = Int32.ofNat 620 from rfl, show (31 : Int32) = Int32.ofNat 31 from rfl, show (1 : Int32) = Int32.ofNat 1 from rfl]
  simp (disch := omega) only [n_le, n_sub, lt_eq]
  by_cases c : k = 589
  · subst c
    rw [if_pos (by omega), i3 214 31 (by decide), e, n_sub (by omega)]
    refine H _ (fun k hk => ?_) (fun a k h1 h2 => ?_) (rd_is _ _ _ _)
    · rw [rd_ia _ _ _ _ _ _ (by decide)]; exact i1 k hk
    · rw [rd_ii, if_neg h2]; exact i3 a k h1
  · rw [if_neg (by omega)]
    simp (disch := omega) only [gd_n, n_idx, n_addI]
    rw [show k + 31 - 31 = k by omega]
    refine hrec (589 - (k + 1)) _ _ (by omega) ⟨k + 1, by omega, rfl, by rw [show k + 31 + 1 = k + 1 + 31 by omega], fun j hj => ?_, fun j hj => ?_, fun a j ha => ?_⟩
    · rw [rd_ii]; by_cases q : j = k
      · subst q; rw [if_pos ⟨rfl, rfl⟩, i2 _ (by omega)]
      · rw [if_neg (by omega)]; exact i1 j (by omega)
    · rw [rd_ik _ _ _ _ _ _ (by omega)]; exact i2 j (by omega)
    · rw [rd_ia _ _ _ _ _ _ ha]; exact i3 a j ha
theorem RY_acts {r n h m : Nat} {σ τ ρ υ : mm_S} (H : RY r n h m σ ρ) (g : ag (fun c k => cS c k ∧ ¬ (98 ≤ c)) σ τ) (g' : ag (fun c k => rS c k ∧ c ≠ 228 ∧ ¬ (c = 214 ∧ k = 31)) ρ υ) (hA : RA n τ υ) : RY r n h m τ υ := by
  obtain ⟨t1, t2, t3, t4, t5, t6⟩ := H
  exact ⟨RT_keep t1 (ag_mono g (by intro c k; unfold cS; omega)) (ag_mono g' (by intro c k; unfold rS; omega)), RQ_keep t2 (ag_mono g' (by intro c k; unfold rS; omega)),
    RR_keep t3 (ag_mono g (by intro c k; unfold cS; omega)) (ag_mono g' (by intro c k; unfold rS; omega)), wr_keep t4 (ag_mono g (by intro c k; unfold cS; omega)) (ag_mono g' (by intro c k; unfold rS; omega)), hA, RI_keep t6 (ag_mono g (by intro c k; unfold cS; omega)) (ag_mono g' (by intro c k; unfold rS; omega))⟩
/-- the night is kept for undoing -/
theorem A_keep {r n h m : Nat} {σ ρ : mm_S} (Y : RY r n h m σ ρ) : ∃ τ υ, f_X0_keep 98 31 σ = some τ ∧ f_X10_keepsAct 214 ρ = some υ ∧ RY r n h m τ υ := by
  obtain ⟨-, -, -, ⟨-, ⟨h9, hj, hx⟩, -⟩, ⟨M, q, hM, hq, a1, a2, a3, a4⟩, -⟩ := id Y
  have one : (1 : Int32) = Int32.ofNat 1 := rfl
  have X : wp (f_X0_keep 98 31 σ) (fun τ => τ.1 98 1 = Int32.ofNat ((q + 1) % 20) ∧ τ.1 98 2 = Int32.ofNat (if M = 20 then 20 else M + 1) ∧ (τ.1 (100 + 5 * q) 0 = σ.1 31 0 ∧ τ.1 (100 + 5 * q) 1 = σ.1 31 1 ∧ ∀ c, 1 ≤ c → c ≤ 4 → ∀ k, k < 6 → τ.1 (100 + 5 * q + c) k = σ.1 (31 + c) k) ∧ ∀ c k, c ≠ 98 → ¬ (100 + 5 * q ≤ c ∧ c ≤ 100 + 5 * q + 4) → τ.1 c k = σ.1 c k) := by
    unfold f_X0_keep
    rw [a3, gd_n (by omega) (by omega), n_idx (by omega), wp_bv]
    refine wp_mono (x_take (a := 100 + 5 * q) (b := 31) σ (by omega)) ?_
    rintro σ1 ⟨⟨t0, t1, t2⟩, t3, -⟩
    simp only [lt_eq, wp_some]
    have e1 : σ1.1 98 1 = Int32.ofNat q := (t3 98 1 (by omega)).trans a3
    have e2 : σ1.1 98 2 = Int32.ofNat M := (t3 98 2 (by omega)).trans a1
    have e3 : Int32.ofNat q + 1 - (Int32.ofNat q + 1) / (20 : Int32) * (20 : Int32) = Int32.ofNat ((q + 1) % 20) := by
      rw [one, n_add, show (20 : Int32) = Int32.ofNat 20 from rfl, n_rem (by omega) (by omega)]
    refine ⟨?_, ?_, ⟨?_, ?_, fun c h1 h2 k hk => ?_⟩, fun c k h1 h2 => ?_⟩
    · rw [rd_ik _ _ _ _ _ _ (by decide), rd_is, e1, e3]
    · rw [rd_is, rd_ik _ _ _ _ _ _ (by decide), e2, one, n_add, show (20 : Int32) = Int32.ofNat 20 from rfl]
      simp (disch := omega) only [n_lt]
      by_cases c : M = 20
      · rw [if_pos (by omega), if_pos c]
      · rw [if_neg (by omega), if_neg c]
    · rw [rd_ia _ _ _ _ _ _ (by omega), rd_ia _ _ _ _ _ _ (by omega)]; exact t0
    · rw [rd_ia _ _ _ _ _ _ (by omega), rd_ia _ _ _ _ _ _ (by omega)]; exact t1
    · rw [rd_ia _ _ _ _ _ _ (by omega), rd_ia _ _ _ _ _ _ (by omega)]; exact t2 c h1 h2 k hk
    · rw [rd_ia _ _ _ _ _ _ h1, rd_ia _ _ _ _ _ _ h1]; exact t3 c k h2
  obtain ⟨τ, eτ, x1, x2, ⟨x3, x4, x5⟩, x6⟩ := X
  have njN : nj n h h τ (100 + 5 * q) := nj_take hj x3 x4 x5
  have nxN : nx τ (100 + 5 * q) ρ 224 10 := nx_take hx x3 x4 x5
  have gc : ag (fun c k => cS c k ∧ ¬ (98 ≤ c)) σ τ := fun c k qq => x6 c k (by omega) (by omega)
  by_cases c : M = 20
  · subst c
    have R : wp (f_X10_keepsAct 214 ρ) (fun υ => (∀ k, k < 589 → υ.1 228 k = ρ.1 228 (k + 31)) ∧ (∀ k, k < 31 → υ.1 228 (31 * 19 + k) = ρ.1 224 (10 + k)) ∧ υ.1 214 31 = Int32.ofNat 20 ∧ ∀ a k, a ≠ 228 → ¬ (a = 214 ∧ k = 31) → υ.1 a k = ρ.1 a k) := by
      unfold f_X10_keepsAct
      rw [a2, if_pos (show Int32.ofNat 20 = (20 : Int32) from rfl)]
      refine r_shift ρ a2 (fun υ u1 u2 u3 => wp_mono (r_put υ (by omega) u3) ?_)
      rintro ω ⟨w1, w2, w3, w4⟩
      exact ⟨fun k hk => (w2 k (by omega)).trans (u1 k hk), fun k hk => (w1 k hk).trans (u2 _ _ (by decide) (by omega)), w3, fun a k h1 h2 => (w4 a k h1 h2).trans (u2 a k h1 h2)⟩
    obtain ⟨υ, eυ, u1, u2, u3, u4⟩ := R
    refine ⟨τ, υ, eτ, eυ, RY_acts Y gc (fun c k qq => u4 c k (by omega) (by omega)) ⟨20, (q + 1) % 20, by omega, by omega, by rw [x2, if_pos rfl], u3, x1, fun i hi => ?_⟩⟩
    by_cases ci : i = 19
    · subst ci
      rw [show ((q + 1) % 20 + 20 - 20 + 19) % 20 = q by omega]
      exact ⟨h, h9, njN, nx_ref nxN (fun k hk => u2 k hk)⟩
    · obtain ⟨h', p1, p2, p3⟩ := a4 (i + 1) (by omega)
      rw [show (q + 20 - 20 + (i + 1)) % 20 = ((q + 1) % 20 + 20 - 20 + i) % 20 by omega] at p2 p3
      refine ⟨h', p1, ni_keep p2 (fun c k qq => x6 c k (by omega) (by omega)), nx_ref (nx_keep p3 (fun c k qq => x6 c k (by omega) (by omega)) ag_refl) (fun k hk => ?_)⟩
      rw [u1 _ (by omega), show 31 * i + k + 31 = 31 * (i + 1) + k by omega]
  · have R : wp (f_X10_keepsAct 214 ρ) (fun υ => (∀ k, k < 31 → υ.1 228 (31 * M + k) = ρ.1 224 (10 + k)) ∧ (∀ k, (k < 31 * M ∨ 31 * M + 31 ≤ k) → υ.1 228 k = ρ.1 228 k) ∧ υ.1 214 31 = Int32.ofNat (M + 1) ∧ ∀ a k, a ≠ 228 → ¬ (a = 214 ∧ k = 31) → υ.1 a k = ρ.1 a k) := by
      unfold f_X10_keepsAct
      rw [a2, if_neg (by rw [show (20 : Int32) = Int32.ofNat 20 from rfl, n_eq (by omega) (by omega)]; exact c)]
      exact r_put (u := M) ρ (by omega) a2
    obtain ⟨υ, eυ, u1, u2, u3, u4⟩ := R
    refine ⟨τ, υ, eτ, eυ, RY_acts Y gc (fun c k qq => u4 c k (by omega) (by omega)) ⟨M + 1, (q + 1) % 20, by omega, by omega, by rw [x2, if_neg c], u3, x1, fun i hi => ?_⟩⟩
    by_cases ci : i = M
    · subst ci
      rw [show ((q + 1) % 20 + 20 - (i + 1) + i) % 20 = q by omega]
      exact ⟨h, h9, njN, nx_ref nxN (fun k hk => u1 k hk)⟩
    · obtain ⟨h', p1, p2, p3⟩ := a4 i (by omega)
      rw [show (q + 20 - M + i) % 20 = ((q + 1) % 20 + 20 - (M + 1) + i) % 20 by omega] at p2 p3
      refine ⟨h', p1, ni_keep p2 (fun c k qq => x6 c k (by omega) (by omega)), nx_ref (nx_keep p3 (fun c k qq => x6 c k (by omega) (by omega)) ag_refl) (fun k hk => u2 _ (by omega))⟩
theorem nx_tiredW {l : Nat} {σ ρ υ : mm_S} {x : Int32} (H : nx σ 31 ρ 224 10) (hl : l < 6) (e : υ.1 224 (11 + 5 * l) = x) (g : ∀ k, k ≠ 11 + 5 * l → υ.1 224 k = ρ.1 224 k) : nx (su_i σ 32 l x) 31 υ 224 10 := by
  obtain ⟨x1, x2⟩ := H
  refine ⟨by rw [g _ (by omega), rd_ia _ _ _ _ _ _ (by decide)]; exact x1, fun k hk => ?_⟩
  obtain ⟨y1, y2, y3, y4, y5⟩ := x2 k hk
  rw [rd_ia _ (31 + 2) _ _ _ _ (by decide), rd_ia _ (31 + 3) _ _ _ _ (by decide), rd_ia _ (31 + 4) _ _ _ _ (by decide), rd_ia _ 31 _ _ _ _ (by decide), g (10 + 2 + 5 * k) (by omega), g (10 + 3 + 5 * k) (by omega), g (10 + 4 + 5 * k) (by omega), g (10 + 5 + 5 * k) (by omega)]
  refine ⟨?_, y2, y3, y4, y5⟩
  rw [rd_ii]; by_cases c : k = l
  · subst c; rw [if_pos ⟨rfl, rfl⟩, show 10 + 1 + 5 * k = 11 + 5 * k by omega]; exact e
  · rw [if_neg (by omega), g _ (by omega)]; exact y1
theorem nj_tiredW {n h q l : Nat} {σ : mm_S} {w : Int32} (H : nj n h q σ 31) (hl : l < n) (hw : ∃ t, t ≤ 99 ∧ w = Int32.ofNat t) : nj n h q (su_i σ 32 l w) 31 := by
  obtain ⟨j1, j2, j3, j4, j5, j6, j7⟩ := H
  refine ⟨by rw [rd_ia _ _ _ _ _ _ (by decide)]; exact j1, by rw [rd_ia _ _ _ _ _ _ (by decide)]; exact j2, fun k hk => ?_, fun k hk => ?_, fun k hk => ?_, fun k hk => ?_, fun k h1 h2 => ?_⟩
  · rw [rd_ii]; by_cases c : k = l
    · rw [if_pos ⟨rfl, c⟩]; exact hw
    · rw [if_neg (by omega)]; exact j3 k hk
  · rw [rd_ia _ _ _ _ _ _ (by decide)]; exact j4 k hk
  · rw [rd_ia _ _ _ _ _ _ (by decide)]; exact j5 k hk
  · rw [rd_ia _ _ _ _ _ _ (by decide)]; exact j6 k hk
  · rw [rd_ik _ _ _ _ _ _ (by omega), rd_ia _ (31 + 3) _ _ _ _ (by decide), rd_ia _ (31 + 4) _ _ _ _ (by decide)]; exact j7 k h1 h2
theorem nx_penceW {l : Nat} {σ ρ υ : mm_S} {x : Int32} (H : nx σ 31 ρ 224 10) (hl : l < 6) (e : υ.1 224 (11 + 5 * l + 1) = x) (g : ∀ k, k ≠ 11 + 5 * l + 1 → υ.1 224 k = ρ.1 224 k) : nx (su_i σ 33 l x) 31 υ 224 10 := by
  obtain ⟨x1, x2⟩ := H
  refine ⟨by rw [g _ (by omega), rd_ia _ _ _ _ _ _ (by decide)]; exact x1, fun k hk => ?_⟩
  obtain ⟨y1, y2, y3, y4, y5⟩ := x2 k hk
  rw [rd_ia _ (31 + 1) _ _ _ _ (by decide), rd_ia _ (31 + 3) _ _ _ _ (by decide), rd_ia _ (31 + 4) _ _ _ _ (by decide), rd_ia _ 31 _ _ _ _ (by decide), g (10 + 1 + 5 * k) (by omega), g (10 + 3 + 5 * k) (by omega), g (10 + 4 + 5 * k) (by omega), g (10 + 5 + 5 * k) (by omega)]
  refine ⟨y1, ?_, y3, y4, y5⟩
  rw [rd_ii]; by_cases c : k = l
  · subst c; rw [if_pos ⟨rfl, rfl⟩, show 10 + 2 + 5 * k = 11 + 5 * k + 1 by omega]; exact e
  · rw [if_neg (by omega), g _ (by omega)]; exact y2
theorem nj_penceW {n h q l : Nat} {σ : mm_S} {w : Int32} (H : nj n h q σ 31) (hl : l < n) (hw : ∃ t, t ≤ 999 ∧ w = Int32.ofNat t) : nj n h q (su_i σ 33 l w) 31 := by
  obtain ⟨j1, j2, j3, j4, j5, j6, j7⟩ := H
  refine ⟨by rw [rd_ia _ _ _ _ _ _ (by decide)]; exact j1, by rw [rd_ia _ _ _ _ _ _ (by decide)]; exact j2, fun k hk => ?_, fun k hk => ?_, fun k hk => ?_, fun k hk => ?_, fun k h1 h2 => ?_⟩
  · rw [rd_ia _ _ _ _ _ _ (by decide)]; exact j3 k hk
  · rw [rd_ii]; by_cases c : k = l
    · rw [if_pos ⟨rfl, c⟩]; exact hw
    · rw [if_neg (by omega)]; exact j4 k hk
  · rw [rd_ia _ _ _ _ _ _ (by decide)]; exact j5 k hk
  · rw [rd_ia _ _ _ _ _ _ (by decide)]; exact j6 k hk
  · rw [rd_ia _ (31 + 1) _ _ _ _ (by decide), rd_ia _ (31 + 3) _ _ _ _ (by decide), rd_ia _ (31 + 4) _ _ _ _ (by decide)]; exact j7 k h1 h2
theorem nx_seekW {l : Nat} {σ ρ υ : mm_S} {x : Int32} (H : nx σ 31 ρ 224 10) (hl : l < 6) (e : υ.1 224 (11 + 5 * l + 3) = x) (g : ∀ k, k ≠ 11 + 5 * l + 3 → υ.1 224 k = ρ.1 224 k) : nx (su_i σ 34 l x) 31 υ 224 10 := by
  obtain ⟨x1, x2⟩ := H
  refine ⟨by rw [g _ (by omega), rd_ia _ _ _ _ _ _ (by decide)]; exact x1, fun k hk => ?_⟩
  obtain ⟨y1, y2, y3, y4, y5⟩ := x2 k hk
  rw [rd_ia _ (31 + 1) _ _ _ _ (by decide), rd_ia _ (31 + 2) _ _ _ _ (by decide), rd_ia _ (31 + 4) _ _ _ _ (by decide), rd_ia _ 31 _ _ _ _ (by decide), g (10 + 1 + 5 * k) (by omega), g (10 + 2 + 5 * k) (by omega), g (10 + 3 + 5 * k) (by omega), g (10 + 5 + 5 * k) (by omega)]
  refine ⟨y1, y2, y3, ?_, y5⟩
  rw [rd_ii]; by_cases c : k = l
  · subst c; rw [if_pos ⟨rfl, rfl⟩, show 10 + 4 + 5 * k = 11 + 5 * k + 3 by omega]; exact e
  · rw [if_neg (by omega), g _ (by omega)]; exact y4
theorem nj_seekW {n h q l : Nat} {σ : mm_S} {w : Int32} (H : nj n h q σ 31) (hl : l < n) (hw : w = -1 ∨ ∃ t, t < n ∧ w = Int32.ofNat t) : nj n h q (su_i σ 34 l w) 31 := by
  obtain ⟨j1, j2, j3, j4, j5, j6, j7⟩ := H
  refine ⟨by rw [rd_ia _ _ _ _ _ _ (by decide)]; exact j1, by rw [rd_ia _ _ _ _ _ _ (by decide)]; exact j2, fun k hk => ?_, fun k hk => ?_, fun k hk => ?_, fun k hk => ?_, fun k h1 h2 => ?_⟩
  · rw [rd_ia _ _ _ _ _ _ (by decide)]; exact j3 k hk
  · rw [rd_ia _ _ _ _ _ _ (by decide)]; exact j4 k hk
  · rw [rd_ii]; by_cases c : k = l
    · rw [if_pos ⟨rfl, c⟩]; exact hw
    · rw [if_neg (by omega)]; exact j5 k hk
  · rw [rd_ia _ _ _ _ _ _ (by decide)]; exact j6 k hk
  · rw [rd_ia _ (31 + 1) _ _ _ _ (by decide), rd_ik _ _ _ _ _ _ (by omega), rd_ia _ (31 + 4) _ _ _ _ (by decide)]; exact j7 k h1 h2
theorem gW {σ : mm_S} {c l : Nat} {x : Int32} (h : 31 ≤ c) (h' : c ≤ 35) : ag (fun a k => cS a k ∧ ¬ (31 ≤ a ∧ a ≤ 35)) σ (su_i σ c l x) := ag_i (by intro a k; omega)
theorem gR {ρ : mm_S} {c : Nat} {x : Int32} (h : 10 ≤ c) (h' : c < 41) : ag (fun a k => rS a k ∧ ¬ (a = 224 ∧ 10 ≤ k ∧ k < 41)) ρ (su_i ρ 224 c x) := ag_i (by intro a k; omega)
theorem m_bid (i j : Int32) : RM (f_X9_bid 0 i j) (f_X10_bid 214 i j) := by
  intro σ ρ H
  obtain ⟨r, n, h, m, Y⟩ := id H
  obtain ⟨hn, y1, y2⟩ := RY_n Y
  have X := RY_nx Y
  unfold f_X9_bid f_X10_bid
  rcases isl_cases (n := n) (by omega) i with ⟨l, hl, rfl⟩ | c
  · rw [x_isl1 y1 hn hl, r_isl1 y2 hn hl, bd_s, bd_s, if_neg (show ¬ ((1 : Int32) = 0) by decide), if_neg (show ¬ ((1 : Int32) = 0) by decide)]
    have main : (j = -1 ∨ ∃ t, t < n ∧ j = Int32.ofNat t) → j ≠ Int32.ofNat l → wp (f_X9_bid_21 0 (Int32.ofNat l) j σ) (fun q => wp (f_X10_bid_22 214 (Int32.ofNat l) j ρ) (fun q' => q.1 = q'.1 ∧ RZ q.2 q'.2)) := by
      intro hj hne
      unfold f_X9_bid_21 f_X10_bid_22
      rw [if_neg hne, gd_n (by omega) (by omega), lt_eq, n_idx (by omega), show (26 + 5 + 3 : Nat) = 34 from rfl, x_isIn, bd_s, r_isIn _ (by omega), bd_s, (X l (by omega)).2.2.1, r_soughtBy _ (by omega), bd_s, (X l (by omega)).2.2.2.1, show (26 + 5 : Nat) = 31 from rfl]
      rcases bt_01 (σ.1 31 1) l with b | b
      · rw [b, if_pos rfl]
        simp only [show ¬ ((0 : Int32) = 1) by decide, if_false, if_true]
        by_cases c : j = σ.1 34 l
        · rw [if_pos c, if_pos c.symm, wp_some, wp_some]; exact ⟨rfl, H⟩
        · rw [if_neg c, if_neg (fun e => c e.symm)]
          obtain ⟨τ, υ, e1, e2, Y2⟩ := A_keep Y
          have X2 := RY_nx Y2
          have keep34 : τ.1 34 l = σ.1 34 l := by
            have F := fr_X0_keep (P := fun a k => a = 34) (a0 := 98) (a1 := 31) (fun a k q => by omega) (ko_refl (σ := σ)) τ e1
            exact F.1 34 l rfl
          rw [e1, bv_s, e2, bv_s, r_soughtBy _ (by omega), bd_s, (X2 l (by omega)).2.2.2.1, keep34, show (11 : Int32) = Int32.ofNat 11 from rfl, show (5 : Int32) = Int32.ofNat 5 from rfl, show (3 : Int32) = Int32.ofNat 3 from rfl]
          simp (disch := omega) only [gd_n, n_idx, n_mul, n_add, lt_eq, wp_some]
          obtain ⟨hj2, h9⟩ := RY_nj Y2
          exact ⟨trivial, r, n, h, m, RY_night Y2 (gW (by omega) (by omega)) (gR (by omega) (by omega)) h9 (nj_seekW hj2 hl hj) (nx_seekW Y2.2.2.2.1.2.1.2.2 (by omega) (rd_is _ _ _ _) (fun k hk => rd_ik _ _ _ _ _ _ hk))⟩
      · rw [b, if_neg (show ¬ ((1 : Int32) = 0) by decide)]
        simp only [if_true]
        rw [if_neg (show ¬ ((1 : Int32) = 0) by decide)]
        by_cases c : j = σ.1 34 l
        · rw [if_pos c, wp_some, wp_some]; exact ⟨rfl, H⟩
        · rw [if_neg c, wp_some, wp_some]; exact ⟨rfl, H⟩
    by_cases cj : j = -1
    · rw [if_pos cj, if_pos cj]
      exact main (Or.inl cj) (by rw [cj]; exact fun e => (n_ne1 (by omega)).mp e.symm)
    · rw [if_neg cj, if_neg cj]
      rcases two_cases hn (Int32.ofNat l) j with ⟨l', o, hl', ho, q, e, rfl⟩ | c
      · have : l' = l := (n_eq (by omega) (by omega)).mp e.symm
        subst this
        rw [x_isl1 y1 hn ho, r_two1 y2 hn hl' ho q, bd_s, bd_s, if_neg (show ¬ ((1 : Int32) = 0) by decide), if_neg (show ¬ ((1 : Int32) = 0) by decide)]
        exact main (Or.inr ⟨o, ho, rfl⟩) (fun e => q ((n_eq (by omega) (by omega)).mp e.symm))
      · rw [r_two0 y2 hn c, bd_s, if_pos rfl, wp_swap, wp_some]
        rcases c with c | ⟨l', hl', e, c | c⟩
        · exact absurd c (isl_no (by omega) hl)
        · rw [x_isl0 y1 c, bd_s, if_pos rfl, wp_some]; exact ⟨rfl, H⟩
        · have : l' = l := (n_eq (by omega) (by omega)).mp e.symm
          subst this; subst c
          rw [x_isl1 y1 hn hl', bd_s, if_neg (show ¬ ((1 : Int32) = 0) by decide)]
          unfold f_X9_bid_21
          rw [if_pos rfl, wp_some]; exact ⟨rfl, H⟩
  · rw [x_isl0 y1 c, bd_s, r_isl0 y2 c, bd_s, if_pos rfl, if_pos rfl, wp_some, wp_some]; exact ⟨rfl, H⟩
theorem m_tire (i j : Int32) : RM (f_X9_tire 0 i j) (f_X10_tire 214 i j) := by
  intro σ ρ H
  obtain ⟨r, n, h, m, Y⟩ := id H
  obtain ⟨hn, y1, y2⟩ := RY_n Y
  unfold f_X9_tire f_X10_tire
  rcases isl_cases (n := n) (by omega) i with ⟨l, hl, rfl⟩ | c
  · rw [x_isl1 y1 hn hl, r_isl1 y2 hn hl, bd_s, bd_s, if_neg (show ¬ ((1 : Int32) = 0) by decide), if_neg (show ¬ ((1 : Int32) = 0) by decide)]
    rcases in_cases 1 20 (by omega) (by omega) j with ⟨M, hM0, hM, rfl⟩ | c
    · rw [r_in1 (a := 1) (b := 20) (by omega) (by omega) hM, bd_s, if_neg (show ¬ ((1 : Int32) = 0) by decide)]
      rw [show (1 : Int32) = Int32.ofNat 1 from rfl, show (20 : Int32) = Int32.ofNat 20 from rfl, rng_d (by omega) hM0 hM]
      obtain ⟨τ, υ, e1, e2, Y2⟩ := A_keep Y
      have X2 := RY_nx Y2
      obtain ⟨hj2, h9⟩ := RY_nj Y2
      obtain ⟨t, ht, et⟩ := hj2.2.2.1 l (by omega)
      replace et : τ.1 32 l = Int32.ofNat t := et
      rw [show (26 + 5 : Nat) = 31 from rfl, e1, bv_s, e2, bv_s, r_tiredOf _ (by omega), bd_s, (X2 l (by omega)).1, lt_eq]
      unfold f_X2_tireBy
      rw [show (11 : Int32) = Int32.ofNat 11 from rfl, show (5 : Int32) = Int32.ofNat 5 from rfl, show (99 : Int32) = Int32.ofNat 99 from rfl]
      simp (disch := omega) only [gd_n, n_idx, n_mul, n_add, lt_eq, bv_s, show (31 + 1 : Nat) = 32 from rfl, et, n_lt, n_le]
      have fin : ∀ x, x ≤ 99 → wp (some ((su_i τ 32 l (Int32.ofNat x)).1 32 l, su_i τ 32 l (Int32.ofNat x))) (fun q => wp (bd (f_X10_tiredOf 214 (Int32.ofNat l) (su_i υ 224 (11 + 5 * l) (Int32.ofNat x))) fun r50 σ49 => some (r50, σ49)) (fun q' => q.1 = q'.1 ∧ RZ q.2 q'.2)) := by
        intro x hx
        rw [wp_some, r_tiredOf _ (by omega), bd_s, wp_some]
        exact ⟨by rw [rd_is, rd_is], r, n, h, m, RY_night Y2 (gW (by omega) (by omega)) (gR (by omega) (by omega)) h9 (nj_tiredW hj2 hl ⟨x, hx, rfl⟩) (nx_tiredW Y2.2.2.2.1.2.1.2.2 (by omega) (rd_is _ _ _ _) (fun k hk => rd_ik _ _ _ _ _ _ hk))⟩
      by_cases c : t + M ≤ 99
      · simp only [c, show ¬ (99 < t + M) by omega, if_true, if_false]; exact fin _ c
      · simp only [c, show 99 < t + M by omega, if_true, if_false]; exact fin _ (by omega)
    · rw [r_in0 (a := 1) (b := 20) (by omega) (by omega) c, bd_s, if_pos rfl]
      rw [show (1 : Int32) = Int32.ofNat 1 from rfl, show (20 : Int32) = Int32.ofNat 20 from rfl, rng_b c, wp_some, wp_some]; exact ⟨rfl, H⟩
  · rw [x_isl0 y1 c, bd_s, r_isl0 y2 c, bd_s, if_pos rfl, if_pos rfl, wp_some, wp_some]; exact ⟨rfl, H⟩
theorem m_pay (i j k : Int32) : RM (f_X9_pay 0 i j k) (f_X10_pay 214 i j k) := by
  intro σ ρ H
  obtain ⟨r, n, h, m, Y⟩ := id H
  obtain ⟨hn, y1, y2⟩ := RY_n Y
  unfold f_X9_pay f_X10_pay
  rcases two_cases hn i j with ⟨l, o, hl, ho, q, rfl, rfl⟩ | c
  · rw [x_two1 y1 hn hl ho q, r_two1 y2 hn hl ho q, bd_s, bd_s, if_neg (show ¬ ((1 : Int32) = 0) by decide), if_neg (show ¬ ((1 : Int32) = 0) by decide)]
    rcases in_cases 1 99 (by omega) (by omega) k with ⟨M, hM0, hM, rfl⟩ | c
    · rw [r_in1 (a := 1) (b := 99) (by omega) (by omega) hM, bd_s, if_neg (show ¬ ((1 : Int32) = 0) by decide)]
      rw [show (1 : Int32) = Int32.ofNat 1 from rfl, show (99 : Int32) = Int32.ofNat 99 from rfl, rng_c (by omega) hM0 hM, gd_n (by omega) (by omega), n_idx (by omega), r_penceOf _ (by omega), bd_s, ((RY_nx Y) l (by omega)).2.1, show (26 + 5 + 2 : Nat) = 33 from rfl, show (26 + 5 : Nat) = 31 from rfl]
      by_cases cp : Int32.ofNat M ≤ σ.1 33 l
      · rw [if_pos cp, if_pos cp]
        obtain ⟨τ, υ, e1, e2, Y2⟩ := A_keep Y
        have X2 := RY_nx Y2
        obtain ⟨hj2, h9⟩ := RY_nj Y2
        obtain ⟨p, hp9, ep⟩ := hj2.2.2.2.1 l (by omega)
        replace ep : τ.1 33 l = Int32.ofNat p := ep
        obtain ⟨p', hp9', ep'⟩ := hj2.2.2.2.1 o (by omega)
        replace ep' : τ.1 33 o = Int32.ofNat p' := ep'
        have hMp : M ≤ p := by
          have F := fr_X0_keep (P := fun a k => a = 33) (a0 := 98) (a1 := 31) (fun a k q => by omega) (ko_refl (σ := σ)) τ e1
          rw [← show τ.1 33 l = σ.1 33 l from F.1 33 l rfl, ep, n_le (by omega) (by omega)] at cp; exact cp
        rw [e1, bv_s, e2, bv_s, r_penceOf _ (by omega), bd_s, (X2 o (by omega)).2.1, lt_eq]
        unfold f_X2_give
        rw [show (11 : Int32) = Int32.ofNat 11 from rfl, show (5 : Int32) = Int32.ofNat 5 from rfl, show (999 : Int32) = Int32.ofNat 999 from rfl]
        have ro : (su_i τ 33 l (Int32.ofNat (p - M))).1 33 o = Int32.ofNat p' := by rw [rd_ik _ _ _ _ _ _ (by omega)]; exact ep'
        simp (disch := omega) only [gd_n, n_idx, n_mul, n_add, n_sub, lt_eq, bv_s, show (31 + 2 : Nat) = 33 from rfl, ep, ep', ro, n_lt, n_le, (X2 l (by omega)).2.1]
        have N1 : nx (su_i τ 33 l (Int32.ofNat (p - M))) 31 (su_i υ 224 (11 + 5 * l + 1) (Int32.ofNat (p - M))) 224 10 := nx_penceW Y2.2.2.2.1.2.1.2.2 (by omega) (rd_is _ _ _ _) (fun k hk => rd_ik _ _ _ _ _ _ hk)
        have J1 := nj_penceW (w := Int32.ofNat (p - M)) hj2 hl ⟨p - M, by omega, rfl⟩
        have fin : ∀ x, x ≤ 999 → wp (some ((su_i (su_i τ 33 l (Int32.ofNat (p - M))) 33 o (Int32.ofNat x)).1 33 l, su_i (su_i τ 33 l (Int32.ofNat (p - M))) 33 o (Int32.ofNat x))) (fun q => wp (bd (f_X10_penceOf 214 (Int32.ofNat l) (su_i (su_i υ 224 (11 + 5 * l + 1) (Int32.ofNat (p - M))) 224 (11 + 5 * o + 1) (Int32.ofNat x))) fun r66 σ65 => some (r66, σ65)) (fun q' => q.1 = q'.1 ∧ RZ q.2 q'.2)) := by
          intro x hx
          rw [wp_some, r_penceOf _ (by omega), bd_s, wp_some]
          refine ⟨by rw [rd_ik _ _ _ _ _ _ (by omega), rd_is, rd_ik _ _ _ _ _ _ (by omega), rd_is], r, n, h, m, RY_night Y2 (fun a k qq => ?_) (fun a k qq => ?_) h9 (nj_penceW J1 ho ⟨x, hx, rfl⟩) (nx_penceW N1 (by omega) (rd_is _ _ _ _) (fun k hk => rd_ik _ _ _ _ _ _ hk))⟩
          · rw [rd_ia _ _ _ _ _ _ (by omega), rd_ia _ _ _ _ _ _ (by omega)]
          · rw [rd_ii, if_neg (by omega), rd_ii, if_neg (by omega)]
        by_cases c : p' + M ≤ 999
        · simp only [c, show ¬ (999 < p' + M) by omega, if_true, if_false]; exact fin _ c
        · simp only [c, show 999 < p' + M by omega, if_true, if_false]; exact fin _ (by omega)
      · rw [if_neg cp, if_neg cp, wp_some, wp_some]; exact ⟨rfl, H⟩
    · rw [r_in0 (a := 1) (b := 99) (by omega) (by omega) c, bd_s, if_pos rfl]
      rw [show (1 : Int32) = Int32.ofNat 1 from rfl, show (99 : Int32) = Int32.ofNat 99 from rfl, rng_a c, wp_some, wp_some]; exact ⟨rfl, H⟩
  · rw [x_two0 y1 hn c, r_two0 y2 hn c, bd_s, bd_s, if_pos rfl, if_pos rfl, wp_some, wp_some]; exact ⟨rfl, H⟩
theorem m_call (i : Int32) : RM (f_X9_call 0 i) (f_X10_call 214 i) := by
  intro σ ρ H
  obtain ⟨r, n, h, m, Y⟩ := id H
  obtain ⟨hn, y1, y2⟩ := RY_n Y
  have X := RY_nx Y
  unfold f_X9_call f_X10_call
  rcases isl_cases (n := n) (by omega) i with ⟨l, hl, rfl⟩ | c
  · rw [x_isl1 y1 hn hl, r_isl1 y2 hn hl, bd_s, bd_s, if_neg (show ¬ ((1 : Int32) = 0) by decide), if_neg (show ¬ ((1 : Int32) = 0) by decide), x_isIn, bd_s, r_isIn _ (by omega), bd_s, (X l (by omega)).2.2.1, show (26 + 5 : Nat) = 31 from rfl]
    rcases bt_01 (σ.1 31 1) l with b | b
    · rw [b, if_pos rfl]
      simp only [show ¬ ((0 : Int32) = 1) by decide, if_false, if_true, wp_some]
      exact ⟨trivial, H⟩
    · rw [b, if_neg (show ¬ ((1 : Int32) = 0) by decide)]
      simp only [if_true]
      rw [if_neg (show ¬ ((1 : Int32) = 0) by decide)]
      obtain ⟨τ, υ, e1, e2, Y2⟩ := A_keep Y
      have X2 := RY_nx Y2
      obtain ⟨hn2, y12, y22⟩ := RY_n Y2
      obtain ⟨⟨j1, ⟨z, hz, ez⟩, j3, j4, j5, j6, j7⟩, h9⟩ := RY_nj Y2
      rw [e1, bv_s, e2, bv_s, lt_eq, ez, and_bit z (p64 hn hz) l (by omega), show (11 : Int32) = Int32.ofNat 11 from rfl, show (5 : Int32) = Int32.ofNat 5 from rfl, show (2 : Int32) = Int32.ofNat 2 from rfl]
      simp (disch := omega) only [gd_n, n_idx, n_mul, n_add, lt_eq]
      have hz' : z - (z &&& 2 ^ l) < 2 ^ n := by omega
      have fl : ∀ k, k < 6 → (su_i υ 224 (11 + 5 * l + 2) 0).1 224 (11 + 5 * k + 2) = bt (Int32.ofNat (z - (z &&& 2 ^ l))) k := fun k hk => by
        rw [bt_and z (p64 hn hz) l (by omega) k hk, rd_ii]
        by_cases c : k = l
        · subst c; rw [if_pos ⟨rfl, rfl⟩, if_pos rfl]
        · rw [if_neg (by omega), if_neg c, (X2 k hk).2.2.1, ez]
      rw [r_inside (n := n) (i := z - (z &&& 2 ^ l)) _ (by rw [rd_ik _ _ _ _ _ _ (by omega)]; exact y22) hn hz' (fun k hk => fl k (by omega)), bd_s, wp_some, wp_some]
      refine ⟨by simp only [rd_is], r, n, h, m, RY_night Y2 (gW (by omega) (by omega)) (gR (by omega) (by omega)) h9 ?_ ⟨?_, fun k hk => ?_⟩⟩
      · refine ⟨by rw [rd_ik _ _ _ _ _ _ (by decide)]; exact j1, ⟨_, hz', rd_is _ _ _ _⟩, fun k hk => ?_, fun k hk => ?_, fun k hk => ?_, fun k hk => ?_, fun k h1 h2 => ?_⟩
        · rw [rd_ia _ _ _ _ _ _ (by decide)]; exact j3 k hk
        · rw [rd_ia _ _ _ _ _ _ (by decide)]; exact j4 k hk
        · rw [rd_ia _ _ _ _ _ _ (by decide)]; exact j5 k hk
        · rw [rd_ia _ _ _ _ _ _ (by decide)]; exact j6 k hk
        · rw [rd_ia _ (31 + 1) _ _ _ _ (by decide), rd_ia _ (31 + 3) _ _ _ _ (by decide), rd_ia _ (31 + 4) _ _ _ _ (by decide)]; exact j7 k h1 h2
      · rw [rd_ik _ _ _ _ _ _ (by omega), rd_ik _ _ _ _ _ _ (by decide)]; exact Y2.2.2.2.1.2.1.2.2.1
      · have a3 := fl k hk
        rw [rd_ia _ (31 + 1) _ _ _ _ (by decide), rd_ia _ (31 + 2) _ _ _ _ (by decide), rd_ia _ (31 + 3) _ _ _ _ (by decide), rd_ia _ (31 + 4) _ _ _ _ (by decide), rd_is, show 10 + 3 + 5 * k = 11 + 5 * k + 2 by omega, a3,
          rd_ik _ _ (10 + 1 + 5 * k) _ _ _ (by omega), rd_ik _ _ (10 + 2 + 5 * k) _ _ _ (by omega), rd_ik _ _ (10 + 4 + 5 * k) _ _ _ (by omega), rd_ik _ _ (10 + 5 + 5 * k) _ _ _ (by omega)]
        have w := Y2.2.2.2.1.2.1.2.2.2 k hk
        exact ⟨w.1, w.2.1, rfl, w.2.2.2.1, w.2.2.2.2⟩
  · rw [x_isl0 y1 c, bd_s, r_isl0 y2 c, bd_s, if_pos rfl, if_pos rfl, wp_some, wp_some]; exact ⟨rfl, H⟩
theorem r_undo {u : Nat} (ρ : mm_S) (hu : u < 20) (e : ρ.1 214 31 = Int32.ofNat u) : wp (f_X10_undo_21 214 0 ρ) (fun r => r.1 = Int32.ofNat u ∧ (∀ k, k < 31 → r.2.1 224 (10 + k) = ρ.1 228 (31 * u + k)) ∧ SO ρ r.2 ∧ ∀ a k, a ≠ 224 → r.2.1 a k = ρ.1 a k) := by
  unfold f_X10_undo_21
  refine wp_lp (fun m v τ => ∃ k, k ≤ 31 ∧ m = 31 - k ∧ v = Int32.ofNat k ∧ (∀ j, j < k → τ.1 224 (10 + j) = ρ.1 228 (31 * u + j)) ∧ SO ρ τ ∧ ∀ a j, a ≠ 224 → τ.1 a j = ρ.1 a j) ?_ lpN 31 _ _ (by decide) ⟨0, by omega, by omega, rfl, fun j hj => by omega, fun _ _ => rfl, fun _ _ _ => rfl⟩
  rintro m rec v τ ⟨k, hk, rfl, rfl, i1, i2, i3⟩ hrec
  rw [show (31 : Int32) = Int32.ofNat 31 from rfl, show (10 : Int32) = Int32.ofNat 10 from rfl, i3 214 31 (by decide), e]
  simp (disch := omega) only [n_le, n_mul, n_add, lt_eq]
  by_cases c : k = 31
  · subst c; simp only [Nat.le_refl, if_true, wp_some]; exact ⟨trivial, i1, i2, i3⟩
  · rw [if_neg (by omega)]
    simp (disch := omega) only [gd_n, n_idx, n_addI]
    refine hrec (31 - (k + 1)) _ _ (by omega) ⟨k + 1, by omega, rfl, rfl, fun j hj => ?_, fun j hj => ?_, fun a j ha => ?_⟩
    · rw [rd_ii]; by_cases q : j = k
      · subst q; rw [if_pos ⟨rfl, rfl⟩, i3 _ _ (by decide)]
      · rw [if_neg (by omega)]; exact i1 j (by omega)
    · rw [rd_ik _ _ _ _ _ _ (by omega)]; exact i2 j hj
    · rw [rd_ia _ _ _ _ _ _ ha]; exact i3 a j ha
theorem m_undo : RM (f_X9_undo 0) (f_X10_undo 214) := by
  intro σ ρ H
  obtain ⟨r, n, h, m, Y⟩ := id H
  obtain ⟨-, -, -, -, ⟨M, q, hM, hq, a1, a2, a3, a4⟩, -⟩ := id Y
  unfold f_X9_undo f_X10_undo
  rw [a1, a2]
  by_cases c : M = 0
  · subst c
    rw [if_neg (show ¬ ((0 : Int32) < Int32.ofNat 0) by decide), if_pos (show Int32.ofNat 0 = (0 : Int32) from rfl), wp_some, wp_some]; exact ⟨rfl, H⟩
  · rw [if_pos (show (0 : Int32) < Int32.ofNat M by rw [show (0 : Int32) = Int32.ofNat 0 from rfl, n_lt (by omega) (by omega)]; omega), if_neg (fun e => c ((n_zero (by omega)).mp e)), lt_eq, show (1 : Int32) = Int32.ofNat 1 from rfl, n_sub (by omega)]
    have qq : (q + 20 - M + (M - 1)) % 20 = (q + 19) % 20 := by omega
    obtain ⟨h', p1, p2, p3⟩ := a4 (M - 1) (by omega)
    rw [qq] at p2 p3
    have X : wp (f_X0_putBack 98 (26 + 5) σ) (fun τ => τ.1 98 1 = Int32.ofNat ((q + 19) % 20) ∧ τ.1 98 2 = Int32.ofNat (M - 1) ∧ (τ.1 31 0 = σ.1 (100 + 5 * ((q + 19) % 20)) 0 ∧ τ.1 31 1 = σ.1 (100 + 5 * ((q + 19) % 20)) 1 ∧ ∀ c, 1 ≤ c → c ≤ 4 → ∀ k, k < 6 → τ.1 (31 + c) k = σ.1 (100 + 5 * ((q + 19) % 20) + c) k) ∧ ∀ c k, c ≠ 98 → ¬ (31 ≤ c ∧ c ≤ 35) → τ.1 c k = σ.1 c k) := by
      unfold f_X0_putBack
      have e3 : Int32.ofNat q + 20 - 1 - (Int32.ofNat q + 20 - 1) / (20 : Int32) * (20 : Int32) = Int32.ofNat ((q + 19) % 20) := by
        rw [show (20 : Int32) = Int32.ofNat 20 from rfl, show (1 : Int32) = Int32.ofNat 1 from rfl, n_add, n_sub (by omega), n_rem (by omega) (by omega)]
        rw [show q + 20 - 1 = q + 19 by omega]
      rw [lt_eq, a3, e3, rd_is, gd_n (by omega) (by omega), n_idx (by omega), wp_bv]
      refine wp_mono (x_take (a := 26 + 5) (b := 100 + 5 * ((q + 19) % 20)) _ (by omega)) ?_
      rintro σ1 ⟨⟨t0, t1, t2⟩, t3, -⟩
      have z : ∀ c k, c ≠ 98 → (su_i σ 98 1 (Int32.ofNat ((q + 19) % 20))).1 c k = σ.1 c k := fun c k hc => rd_ia _ _ _ _ _ _ hc
      simp only [lt_eq, wp_some]
      have e2 : σ1.1 98 2 = Int32.ofNat M := by rw [t3 98 2 (by omega), rd_ik _ _ _ _ _ _ (by decide)]; exact a1
      refine ⟨?_, ?_, ⟨?_, ?_, fun c h1 h2 k hk => ?_⟩, fun c k h1 h2 => ?_⟩
      · rw [rd_ik _ _ _ _ _ _ (by decide), t3 98 1 (by omega), rd_is]
      · rw [rd_is, e2, show (1 : Int32) = Int32.ofNat 1 from rfl, n_sub (by omega), if_neg (n_neg (by omega))]
      · rw [rd_ia _ _ _ _ _ _ (by decide), t0, z _ _ (by omega)]
      · rw [rd_ia _ _ _ _ _ _ (by decide), t1, z _ _ (by omega)]
      · rw [rd_ia _ _ _ _ _ _ (by omega), t2 c h1 h2 k hk, z _ _ (by omega)]
      · rw [rd_ia _ _ _ _ _ _ h1, t3 c k (by omega), z _ _ h1]
    obtain ⟨τ, eτ, x1, x2, ⟨x3, x4, x5⟩, x6⟩ := X
    obtain ⟨w, ew, w1, w2, w3, w4⟩ := r_undo (u := M - 1) (su_i ρ 214 31 (Int32.ofNat (M - 1))) (by omega) (rd_is _ _ _ _)
    rw [eτ, bv_s, ew, wp_some, x2]
    refine ⟨w, rfl, w1.symm, r, n, h', m, ?_⟩
    have zr : ∀ a k, a ≠ 224 → ¬ (a = 214 ∧ k = 31) → w.2.1 a k = ρ.1 a k := fun a k h1 h2 => by rw [w4 a k h1, rd_ii, if_neg h2]
    have Y2 : RY r n h m (su_i (su_i σ 98 1 (Int32.ofNat ((q + 19) % 20))) 98 2 (Int32.ofNat (M - 1))) (su_i ρ 214 31 (Int32.ofNat (M - 1))) := by
      refine RY_acts Y (fun c k qq => by rw [rd_ia _ _ _ _ _ _ (by omega), rd_ia _ _ _ _ _ _ (by omega)]) (ag_i (by intro a k; omega)) ⟨M - 1, (q + 19) % 20, by omega, by omega, rd_is _ _ _ _, rd_is _ _ _ _, by rw [rd_ik _ _ _ _ _ _ (by decide), rd_is], fun i hi => ?_⟩
      obtain ⟨h2, b1, b2, b3⟩ := a4 i (by omega)
      rw [show (q + 20 - M + i) % 20 = ((q + 19) % 20 + 20 - (M - 1) + i) % 20 by omega] at b2 b3
      refine ⟨h2, b1, ni_keep b2 (fun c k qq => by rw [rd_ia _ _ _ _ _ _ (by omega), rd_ia _ _ _ _ _ _ (by omega)]), nx_keep b3 (fun c k qq => by rw [rd_ia _ _ _ _ _ _ (by omega), rd_ia _ _ _ _ _ _ (by omega)]) (fun c k qq => by rw [rd_ia _ _ _ _ _ _ (by omega)])⟩
    refine RY_night Y2 (fun c k qq => ?_) (fun c k qq => ?_) p1 (nj_take p2 x3 x4 x5) (nx_ref (nx_take p3 x3 x4 x5) (fun k hk => ?_))
    · by_cases d : c = 98
      · subst d
        rw [rd_ii, rd_ii]
        by_cases d2 : k = 2
        · rw [if_pos ⟨rfl, d2⟩, d2, x2]
        · by_cases d1 : k = 1
          · rw [if_neg (by omega), if_pos ⟨rfl, d1⟩, d1, x1]
          · rw [if_neg (by omega), if_neg (by omega)]
            have F := fr_X0_putBack (P := fun a k => a = 98 ∧ k ≠ 1 ∧ k ≠ 2) (a0 := 98) (a1 := 26 + 5) (fun a k q => by omega) (ko_refl (σ := σ)) τ eτ
            exact F.1 98 k ⟨rfl, d1, d2⟩
      · rw [rd_ia _ _ _ _ _ _ d, rd_ia _ _ _ _ _ _ d]; exact x6 c k d (by omega)
    · by_cases d : c = 224
      · subst d; exact w3 k (by omega)
      · exact w4 c k d
    · rw [w2 k hk, rd_ia _ _ _ _ _ _ (by decide)]
theorem m_hour : RM (f_X9_hour 0) (f_X10_hour 214) := by
  intro σ ρ H
  obtain ⟨r, n, h, m, Y⟩ := id H
  obtain ⟨hj, h9⟩ := RY_nj Y
  unfold f_X9_hour f_X10_hour
  rcases RY_hs Y with ⟨s1, s2⟩ | ⟨s1, s2⟩
  · rw [show σ.1 (26 + 1) 0 = 0 from s1, if_pos rfl, r_isHouse0 s2, bd_s, if_pos rfl, wp_some, wp_some]; exact ⟨rfl, H⟩
  · rw [show σ.1 (26 + 1) 0 = 1 from s1, if_neg (show ¬ ((1 : Int32) = 0) by decide), r_isHouse1 s2, bd_s, if_neg (show ¬ ((1 : Int32) = 0) by decide)]
    have e10 : ρ.1 224 10 = Int32.ofNat h := Y.2.2.2.1.2.1.2.2.1.trans hj.1
    rw [show (26 + 5 : Nat) = 31 from rfl, hj.1, show (10 : Int32) = Int32.ofNat 10 from rfl, gd_n (by omega) (by omega), n_idx (by omega), e10, show (999 : Int32) = Int32.ofNat 999 from rfl]
    simp (disch := omega) only [n_lt, n_eq]
    by_cases c : h = 999
    · simp only [c, show ¬ (999 < 999) by omega, if_true, if_false, wp_some]; exact ⟨trivial, H⟩
    · simp only [c, show h < 999 by omega, if_true, if_false]
      obtain ⟨τ, υ, e1, e2, Y2⟩ := A_keep Y
      obtain ⟨τ2, f1, H2, g2⟩ := HH_start Y2 ag_refl (US_refl Y2.2.1)
      obtain ⟨τ3, f2, w, f3, p1, p2, p3, p4, p5, p6, -⟩ := h_pass1 H2
      have g3 := cS_pass g2 f2
      obtain ⟨τ4, f4, ⟨t0, t1, t2⟩, t3, -⟩ := x_take (a := 31) (b := 201) τ3 (by omega)
      rw [e1, bv_s, f1, bv_s, f2, bv_s, f4, bv_s, e2, bv_s, f3, show w = (w.1, w.2) from rfl, bd_s, wp_some, wp_some]
      have F := fr_X10_passes (P := fun a k => rS a k ∧ a ≠ 224 ∧ ¬ (a = 214 ∧ k = 24)) (a0 := 214) (fun a k q => by unfold rS at q; omega) (ko_refl (σ := υ)) w f3
      refine ⟨by rw [t1]; exact p5.symm, r, n, h + 1, m, RY_night Y2 (fun c k qq => ?_) (fun c k qq => ?_) (by omega) (nj_take p2 t0 t1 t2) (nx_take p3 t0 t1 t2)⟩
      · rw [t3 c k (by omega)]; exact g3 c k qq.1
      · by_cases d : c = 224
        · subst d; exact p4 k (by omega)
        · by_cases d2 : c = 214 ∧ k = 24
          · rw [d2.1, d2.2, p6]; exact Y2.2.1.2.1.symm
          · exact F.1 c k ⟨qq.1, d, d2⟩
