/-! bestRow: both -/
theorem br_in : ∀ n, n < 7 → ∀ w, w < 2 ^ n → ∀ l, l < n → (bt (Int32.ofNat w) l = 1 ↔ (2 ^ n - 1 - w) / 2 ^ l % 2 = 0) := by decide +kernel
theorem br_lo {i : Int32} (h : i < 0) : i < -1 ∨ i = -1 := by
  by_cases c : i < -1
  · exact Or.inl c
  · right
    rw [Int32.lt_iff_toInt_lt] at h c
    have e1 : (0 : Int32).toInt = 0 := by decide
    have e2 : (-1 : Int32).toInt = -1 := by decide
    rw [e1] at h; rw [e2] at c
    exact Int32.toInt_inj.mp (by rw [e2]; omega)
theorem br_m {k : Nat} (h : k < 2147483648) : ¬ (Int32.ofNat k = -1) := fun q => n_neg h (by rw [q]; decide)
theorem r_finds {n o s t : Nat} {ρ : mm_S} (e3 : ρ.1 224 3 = Int32.ofNat n) (e2 : ρ.1 224 2 = Int32.ofNat t) (hn : n ≤ 6) (ht : t ≤ 7) (ho : o < 2 ^ n) (hR : okR n o s = true) (hst : s ≤ t) (hC : ∀ p, okp n o p n → Co p n ≤ t → Co p n ≤ s)
    (ein : ∀ l, l < n → (ρ.1 224 (11 + 5 * l + 2) = 1 ↔ o / 2 ^ l % 2 = 0)) : wp (f_X10_findsRow 214 ρ) (fun τ => BS n s (Rw n o s) False τ ∧ ∀ a j, a ≠ 230 → a ≠ 231 → ¬ (a = 214 ∧ (j = 35 ∨ j = 36)) → τ.1 a j = ρ.1 a j) := by
  unfold f_X10_findsRow
  rw [lt_eq, lt_eq, show ∀ x : Option mm_S, gd (0 : Int32) 7 x = x from fun x => gd_n (k := 0) (by omega) (by omega), lt_eq, show (0 : Int32).toNatClampNeg = 0 from n_idx (k := 0) (by omega)]
  refine r_finds19 e3 e2 hn ht ho hR hst hC ein (fun a j q1 q2 q3 => ?_) ?_ (rd_is _ _ _ _)
  · rw [rd_ia _ _ _ _ _ _ q1, rd_ii, if_neg (by omega), rd_ii, if_neg (by omega)]
  · rw [rd_ia _ _ _ _ _ _ (by omega), rd_ik _ _ _ _ _ _ (by omega), rd_is]
theorem m_bestRow (i : Int32) : RM (f_X9_bestRow 0 i) (f_X10_bestRow 214 i) := by
  intro σ ρ H
  obtain ⟨r, n, h, m, Y⟩ := id H
  obtain ⟨hn, e1, e2⟩ := RY_n Y
  have rin : f_X10_in i.toInt64 (-1 : Int64) (5 : Int64) ρ = some (if i < -1 ∨ 5 < i then 0 else 1, ρ) := r_in i (-1) 5 ρ
  unfold f_X9_bestRow f_X10_bestRow
  rcases RY_hs Y with ⟨h0, h0'⟩ | ⟨h0, h0'⟩
  · rw [if_pos (show σ.1 (26 + 1) 0 = 0 from h0), r_isHouse0 h0', bd_s, if_pos rfl, wp_some, wp_some]; exact ⟨rfl, H⟩
  rw [if_neg (show ¬ (σ.1 (26 + 1) 0 = 0) by rw [show σ.1 (26 + 1) 0 = 1 from h0]; decide), r_isHouse1 h0', bd_s, if_neg (show ¬ ((1 : Int32) = 0) by decide), rin, bd_s]
  have nope : i < -1 ∨ 5 < i → wp (if i < (-1 : Int32) then some ((-3 : Int32), σ) else if i < (6 : Int32) then
          lt ((σ.1 (26 + 1) 3)) fun x23 =>
          bd (f_X9_everybody 0 σ) fun r27 σ26 =>
          bd (f_J6_bitCount_0f7a4 (r27 &&& ((σ26.1 (26 + 5) 1) ^^^ (-1 : Int32))) σ26) fun r30 σ29 =>
          if (2 : Int32) ≤ x23 then
            lt ((if (σ29.1 (26 + 1) 2) < r30 then (σ29.1 (26 + 1) 2) else r30)) fun x32 =>
            f_X9_bestRow_82 0 i x23 x32 σ29
          else
            f_X9_bestRow_82 0 i x23 (0 : Int32) σ29
        else some ((-3 : Int32), σ)) (fun r => r = ((-3 : Int32), σ)) := by
    intro c
    by_cases c1 : i < -1
    · rw [if_pos c1, wp_some]
    · have c2 : ¬ (i < 6) := by
        rcases c with c | c
        · exact absurd c c1
        · rw [Int32.lt_iff_toInt_lt] at c ⊢
          rw [show (5 : Int32).toInt = 5 by decide] at c; rw [show (6 : Int32).toInt = 6 by decide]; omega
      rw [if_neg c1, if_neg c2, wp_some]
  by_cases c : i < -1 ∨ 5 < i
  · refine wp_mono (nope c) ?_
    rintro _ rfl
    rw [if_pos c, if_pos rfl, wp_some]; exact ⟨rfl, H⟩
  have i6 : i < 6 := by
    have c5 : ¬ (5 < i) := fun q => c (Or.inr q)
    rw [Int32.lt_iff_toInt_lt] at c5 ⊢
    rw [show (5 : Int32).toInt = 5 by decide] at c5; rw [show (6 : Int32).toInt = 6 by decide]; omega
  rw [if_neg c, if_neg (show ¬ ((1 : Int32) = 0) by decide), if_neg (fun q => c (Or.inl q)), if_pos i6]
  obtain ⟨⟨_, ⟨w, hw, ew⟩, _⟩, _⟩ := RY_nj Y
  obtain ⟨⟨_, _, _, ⟨t, ht, et⟩, _⟩, ⟨_, _, et', _⟩⟩ := Y.2.2.2.1.1
  have et1 : σ.1 27 2 = Int32.ofNat t := et
  have et2 : ρ.1 224 2 = Int32.ofNat t := by rw [show (2 : Nat) = 0 + 2 from rfl, et']; exact et
  have p64 : 2 ^ n ≤ 64 := show 2 ^ n ≤ 2 ^ 6 from Nat.pow_le_pow_right (by omega) hn
  have ein : ∀ l, l < n → (ρ.1 224 (11 + 5 * l + 2) = 1 ↔ (2 ^ n - 1 - w) / 2 ^ l % 2 = 0) := fun l hl => by
    rw [(RY_nx Y l (by omega)).2.2.1, ew]; exact br_in n (by omega) w hw l hl
  have ho : 2 ^ n - 1 - w < 2 ^ n := by omega
  have fill := fun (s : Nat) (hs : s ≤ 6) => x_fillRow (s := s) e1 ew hn hw hs
  have ao := bq_out n (by omega) w hw
  generalize ho' : 2 ^ n - 1 - w = o at ein ho fill ao
  have key : ∀ s : Nat, s ≤ smx n o → s ≤ t → s ≤ 6 → (∀ p, okp n o p n → Co p n ≤ t → Co p n ≤ s) → wp (f_X9_bestRow_82 0 i (Int32.ofNat n) (Int32.ofNat s) σ) (fun r => wp (bv (f_X10_findsRow 214 ρ) fun σ26 =>
        if i = (-1 : Int32) then
          some ((σ26.1 214 35), σ26)
        else
          bd (f_X10_isLodger 214 i σ26) fun r30 σ29 =>
          if r30 = 0 then
            some ((-2 : Int32), σ29)
          else
            gd i 6 <|
            some ((σ29.1 231 i.toNatClampNeg), σ29)) (fun r' => r.1 = r'.1 ∧ RZ r.2 r'.2)) := by
    intro s s1 s2 s3 hC
    have hR := fin_R n (by omega) o ho s (by omega) s1
    have keepR : ∀ {τ υ : mm_S}, (∀ a k, a ≠ 211 → τ.1 a k = σ.1 a k) → (∀ a j, a ≠ 230 → a ≠ 231 → ¬ (a = 214 ∧ (j = 35 ∨ j = 36)) → υ.1 a j = ρ.1 a j) → RZ τ υ := fun g g' =>
      ⟨r, n, h, m, RY_keep Y (fun a k z => g a k (by unfold cS at z; omega)) (fun a k z => g' a k (by unfold rS at z; omega) (by unfold rS at z; omega) (by unfold rS at z; omega))⟩
    have fin := r_finds e2 et2 hn (by omega) ho hR s2 hC ein
    unfold f_X9_bestRow_82
    by_cases c1 : i = -1
    · rw [if_pos c1, wp_some, wp_bv]
      refine wp_mono fin ?_
      rintro υ ⟨hB, g⟩
      rw [if_pos c1, wp_some]
      exact ⟨(hB.2 id).1.symm, keepR (fun _ _ _ => rfl) g⟩
    · rw [if_neg c1]
      obtain ⟨k, hk, rfl⟩ : ∃ k, k ≤ 5 ∧ i = Int32.ofNat k := by
        rcases in_cases 0 5 (by omega) (by omega) i with ⟨k, _, h2, h3⟩ | q | q
        · exact ⟨k, h2, h3⟩
        · rcases br_lo q with q | q
          · exact absurd (Or.inl q) c
          · exact absurd q c1
        · exact absurd (Or.inr q) c
      simp (disch := omega) only [n_lt]
      by_cases cn : k < n
      · rw [if_pos cn, wp_bv]
        refine wp_mono (fill s s3) ?_
        rintro τ ⟨hrow, g⟩
        rw [gd_n (by omega) (by omega), n_idx (by omega), wp_some, wp_bv]
        refine wp_mono fin ?_
        rintro υ ⟨hB, g'⟩
        rw [if_neg c1, r_isl1 ((g' 224 3 (by omega) (by omega) (by omega)).trans e2) hn cn, bd_s, if_neg (show ¬ ((1 : Int32) = 0) by decide), gd_n (by omega) (by omega), wp_some]
        refine ⟨?_, keepR g g'⟩
        show τ.1 211 k = υ.1 231 k
        rw [hrow k cn, (hB.2 id).2.2 k cn]
      · rw [if_neg cn, wp_some, wp_bv]
        refine wp_mono fin ?_
        rintro υ ⟨hB, g'⟩
        rw [if_neg c1, r_isl0 ((g' 224 3 (by omega) (by omega) (by omega)).trans e2) (Or.inr ((n_le (by omega) (by omega)).mpr (by omega))), bd_s, if_pos rfl, wp_some]
        exact ⟨rfl, keepR (fun _ _ _ => rfl) g'⟩
  have o64 : o < 64 := by omega
  have p6 := bq_pc o o64
  unfold f_X9_everybody
  rw [lt_eq, bd_s, show σ.1 (26 + 1) 3 = Int32.ofNat n from e1, show σ.1 (26 + 5) 1 = Int32.ofNat w from ew, bq_all n (by omega), ao, x_bits, bd_s, bc_n o o64, show σ.1 (26 + 1) 2 = Int32.ofNat t from et1, show (2 : Int32) = Int32.ofNat 2 from rfl]
  simp (disch := omega) only [n_le, n_lt]
  by_cases c2 : 2 ≤ n
  · have sm : smx n o = pcn o := if_neg (by omega)
    have hc : ∀ p, okp n o p n → Co p n ≤ pcn o := fun p hp => by
      have := Co_hi hn ho hp n 0 (by omega)
      rw [Nat.pow_zero, Nat.div_one, Nat.mul_one] at this
      have z : Co p 0 = 0 := rfl
      omega
    rw [if_pos c2, lt_eq]
    by_cases c3 : t < pcn o
    · rw [if_pos c3]; exact key t (by omega) (Nat.le_refl t) (by omega) (fun p _ q => q)
    · rw [if_neg c3]; exact key (pcn o) (by omega) (by omega) p6 (fun p hp _ => hc p hp)
  · rw [if_neg c2]
    refine key 0 (Nat.zero_le _) (Nat.zero_le _) (Nat.zero_le _) (fun p hp _ => ?_)
    match n, c2, hp with
    | 0, _, _ => exact Nat.le_refl 0
    | 1, _, hp =>
      have z1 : p 0 ≤ 1 := (hp 0 (by omega)).1
      have z2 : p 0 ≠ 1 := (hp 0 (by omega)).2.1
      have z3 : p 0 = 0 := by omega
      have e : Co p 1 = Co p 0 := if_pos z3
      rw [e]; exact Nat.le_refl 0
    | n + 2, c2, _ => omega
