/-! bestRow: the reference, a row weighed -/
theorem br_g3 {ρ : Type} {x : Option ρ} : gd (3 : Int32) 121 x = x := gd_n (k := 3) (by omega) (by omega)
theorem br_g2 {ρ : Type} {x : Option ρ} : gd (2 : Int32) 121 x = x := gd_n (k := 2) (by omega) (by omega)
theorem br_i3 : (3 : Int32).toNatClampNeg = 3 := n_idx (k := 3) (by omega)
theorem br_i2 : (2 : Int32).toNatClampNeg = 2 := n_idx (k := 2) (by omega)
theorem br_z {k : Nat} (h : k < 2147483648) : (Int32.ofNat k = 0) ↔ k = 0 := n_eq (m := 0) h (by omega)
theorem br_s {k : Nat} (h : 1 ≤ k) : Int32.ofNat k - 1 = Int32.ofNat (k - 1) := n_sub (m := 1) h
theorem br_a (k : Nat) : Int32.ofNat k + 1 = Int32.ofNat (k + 1) := n_add k 1
theorem Co_le (p : Nat → Nat) : ∀ k, Co p k ≤ k
  | 0 => Nat.le_refl 0
  | k + 1 => by
    have := Co_le p k
    show (if p k = 0 then Co p k else Co p k + 1) ≤ k + 1
    split <;> omega
theorem r_w106 {n : Nat} {ρ : mm_S} (e3 : ρ.1 224 3 = Int32.ofNat n) (hn : n ≤ 6) : wp (f_X10_weighsRow_106 214 0 ρ) (fun τ => (∀ l, l < n → τ.1 231 l = ρ.1 230 l - 1) ∧ ∀ a j, a ≠ 231 → τ.1 a j = ρ.1 a j) := by
  unfold f_X10_weighsRow_106
  refine wp_lp (fun m v τ => ∃ k, k ≤ n ∧ m = n - k ∧ v = Int32.ofNat k ∧ (∀ l, l < k → τ.1 231 l = ρ.1 230 l - 1) ∧ ∀ a j, a ≠ 231 → τ.1 a j = ρ.1 a j) ?_ lpN n _ _ (Nat.lt_of_le_of_lt hn (by decide)) ⟨0, by omega, rfl, rfl, fun l h => by omega, fun _ _ _ => rfl⟩
  rintro m rec v τ ⟨k, hk, rfl, rfl, hr, ho⟩ hrec
  rw [br_g3, br_i3, ho 224 3 (by omega), e3]
  simp (disch := omega) only [n_le]
  by_cases c : n ≤ k
  · rw [if_pos c, wp_some]; exact ⟨fun l hl => hr l (by omega), ho⟩
  · rw [if_neg c, gd_n (by omega) (by omega), gd_n (by omega) (by omega), n_idx (by omega), lt_eq, n_addI, lt_eq]
    refine hrec (n - (k + 1)) _ _ (by omega) ⟨k + 1, by omega, rfl, rfl, fun l hl => ?_, fun a j q => by rw [rd_ia _ _ _ _ _ _ q]; exact ho a j q⟩
    by_cases cl : l = k
    · rw [cl, rd_is, ho 230 k (by omega)]
    · rw [rd_ik _ _ _ _ _ _ cl]; exact hr l (by omega)
theorem r_weigh {n o t : Nat} {p : Nat → Nat} {ρ : mm_S} (e3 : ρ.1 224 3 = Int32.ofNat n) (e2 : ρ.1 224 2 = Int32.ofNat t) (hn : n ≤ 6) (ht : t ≤ 7) (hp : okp n o p n) (er : ∀ l, l < n → ρ.1 230 l = Int32.ofNat (p l)) :
    wp (f_X10_weighsRow 214 ρ) (fun τ => ((Co p n ≤ t ∧ ¬ (Int32.ofNat (pcn (Uo p n)) < ρ.1 214 35) ∧ (Int32.ofNat (pcn (Uo p n)) = ρ.1 214 35 → Int32.ofNat (Co p n) < ρ.1 214 36)) ∧ τ.1 214 35 = Int32.ofNat (pcn (Uo p n)) ∧ τ.1 214 36 = Int32.ofNat (Co p n) ∧ (∀ l, l < n → τ.1 231 l = Int32.ofNat (p l) - 1) ∧ ∀ a j, a ≠ 231 → ¬ (a = 214 ∧ (j = 35 ∨ j = 36)) → τ.1 a j = ρ.1 a j) ∨
      (¬ (Co p n ≤ t ∧ ¬ (Int32.ofNat (pcn (Uo p n)) < ρ.1 214 35) ∧ (Int32.ofNat (pcn (Uo p n)) = ρ.1 214 35 → Int32.ofNat (Co p n) < ρ.1 214 36)) ∧ τ = ρ)) := by
  have u64 := Uo_lt hn n (Nat.le_refl n) hp
  have cn := Co_le p n
  have h91 : wp (f_X10_weighsRow_91 214 (Int32.ofNat (Uo p n)) (Int32.ofNat (Co p n)) ρ) (fun τ => τ.1 214 35 = Int32.ofNat (pcn (Uo p n)) ∧ τ.1 214 36 = Int32.ofNat (Co p n) ∧ (∀ l, l < n → τ.1 231 l = Int32.ofNat (p l) - 1) ∧ ∀ a j, a ≠ 231 → ¬ (a = 214 ∧ (j = 35 ∨ j = 36)) → τ.1 a j = ρ.1 a j) := by
    unfold f_X10_weighsRow_91
    rw [r_bits u64, bd_s, lt_eq, lt_eq]
    refine wp_mono (r_w106 (by rw [rd_ia _ _ _ _ _ _ (by omega), rd_ia _ _ _ _ _ _ (by omega)]; exact e3) hn) ?_
    rintro τ ⟨hr, ho⟩
    refine ⟨?_, ?_, fun l hl => ?_, fun a j q q' => ?_⟩
    · rw [ho 214 35 (by omega), rd_ik _ _ _ _ _ _ (by omega), rd_is]
    · rw [ho 214 36 (by omega), rd_is]
    · rw [hr l hl, rd_ia _ _ _ _ _ _ (by omega), rd_ia _ _ _ _ _ _ (by omega), er l hl]
    · rw [ho a j q, rd_ii, if_neg (by omega), rd_ii, if_neg (by omega)]
  unfold f_X10_weighsRow f_X10_weighsRow_6
  refine wp_lp (fun m v τ => τ = ρ ∧ ∃ k, k ≤ n ∧ m = n - k ∧ v = (Int32.ofNat (Uo p k), Int32.ofNat (Co p k), Int32.ofNat k)) ?_ lpN n _ _ (Nat.lt_of_le_of_lt hn (by decide)) ⟨rfl, 0, by omega, rfl, rfl⟩
  rintro m rec v τ ⟨rfl, k, hk, rfl, rfl⟩ hrec
  dsimp only
  rw [br_g3, br_i3, e3]
  simp (disch := omega) only [n_le]
  by_cases c : n ≤ k
  · obtain rfl : k = n := by omega
    rw [if_pos c, br_g2, br_i2, e2]
    simp (disch := omega) only [n_lt]
    by_cases c1 : t < Co p k
    · rw [if_pos c1, wp_some]; exact Or.inr ⟨fun q => by omega, rfl⟩
    · rw [if_neg c1, r_bits u64, bd_s]
      by_cases c2 : Int32.ofNat (pcn (Uo p k)) < τ.1 214 35
      · rw [if_pos c2, wp_some]; exact Or.inr ⟨fun q => q.2.1 c2, rfl⟩
      · rw [if_neg c2, r_bits u64, bd_s]
        by_cases c3 : Int32.ofNat (pcn (Uo p k)) = τ.1 214 35
        · rw [if_pos c3]
          by_cases c4 : Int32.ofNat (Co p k) < τ.1 214 36
          · rw [if_pos c4]; exact wp_mono h91 (fun υ q => Or.inl ⟨⟨by omega, c2, fun _ => c4⟩, q⟩)
          · rw [if_neg c4, wp_some]; exact Or.inr ⟨fun q => c4 (q.2.2 c3), rfl⟩
        · rw [if_neg c3]; exact wp_mono h91 (fun υ q => Or.inl ⟨⟨by omega, c2, fun z => absurd z c3⟩, q⟩)
  · have u := Uo_lt hn k (by omega) (fun l hl => hp l (by omega))
    have pk := (hp k (by omega)).1
    rw [if_neg c, gd_n (by omega) (by omega), gd_n (by omega) (by omega), n_idx (by omega), er k (by omega)]
    simp (disch := omega) only [br_z]
    by_cases c0 : p k = 0
    · rw [if_pos c0, lt_eq, n_addI]
      have a1 : Uo p (k + 1) = Uo p k := if_pos c0
      have a2 : Co p (k + 1) = Co p k := if_pos c0
      exact hrec (n - (k + 1)) _ _ (by omega) ⟨rfl, k + 1, by omega, rfl, by rw [a1, a2]⟩
    · rw [if_neg c0, br_s (by omega), or_bit _ u _ (by omega), lt_eq, n_addI, lt_eq, n_addI, lt_eq]
      have a1 : Uo p (k + 1) = Uo p k ||| 2 ^ (p k - 1) := if_neg c0
      have a2 : Co p (k + 1) = Co p k + 1 := if_neg c0
      exact hrec (n - (k + 1)) _ _ (by omega) ⟨rfl, k + 1, by omega, rfl, by rw [a1, a2]⟩
