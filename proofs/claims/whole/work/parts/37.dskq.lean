/-! bestRow: the class -/
theorem bq_bit : ∀ f, f < 64 → ∀ j, j < 6 → ((((Int32.ofNat f >>> (Int32.ofNat j &&& 31)) &&& (1 : Int32)) = (1 : Int32)) ↔ f / 2 ^ j % 2 = 1) := by decide +kernel
theorem bq_all : ∀ n, n < 7 → ((1 : Int32) <<< (Int32.ofNat n &&& 31)) - 1 = Int32.ofNat (2 ^ n - 1) := by decide +kernel
theorem bq_out : ∀ n, n < 7 → ∀ w, w < 2 ^ n → Int32.ofNat (2 ^ n - 1) &&& (Int32.ofNat w ^^^ (-1 : Int32)) = Int32.ofNat (2 ^ n - 1 - w) := by decide +kernel
theorem bq_lat : ∀ o, o < 64 → ∀ k, k < 6 → Int32.ofNat o &&& (-((2 : Int32) <<< (Int32.ofNat k &&& 31))) = Int32.ofNat (lat o k) ∧ lat o k < 64 := by decide +kernel
theorem bq_sub : ∀ f, f < 64 → ∀ j, j < 6 → f - (f &&& 2 ^ j) < 64 := by decide +kernel
theorem bq_pc : ∀ f, f < 64 → pcn f ≤ 6 := by decide +kernel
theorem x_least {n k free later : Nat} {σ : mm_S} (e3 : σ.1 27 3 = Int32.ofNat n) (hn : n ≤ 6) (hk : k < 6) (hf : free < 64) (hl : later < 64) :
    f_X9_leastOther 0 (Int32.ofNat k) (Int32.ofNat free) (Int32.ofNat later) σ = some (match lof k free later n 0 with | none => -1 | some j => Int32.ofNat j, σ) := by
  unfold f_X9_leastOther f_X9_leastOther_3
  refine wp_eq (wp_lp (fun m v τ => τ = σ ∧ ∃ j, j ≤ n ∧ m = n - j ∧ v = Int32.ofNat j ∧ lof k free later (n - j) j = lof k free later n 0) ?_ lpN n _ _ (Nat.lt_of_le_of_lt hn (by decide)) ⟨rfl, 0, by omega, rfl, rfl, rfl⟩)
  rintro m rec v τ ⟨rfl, j, hj, rfl, rfl, he⟩ hrec
  rw [show τ.1 (26 + 1) 3 = Int32.ofNat n from e3]
  simp (disch := omega) only [n_le]
  by_cases c : n ≤ j
  · rw [if_pos c, wp_some, ← he, show n - j = 0 by omega]; rfl
  · rw [if_neg c]
    obtain ⟨d, hd⟩ : ∃ d, n - j = d + 1 := ⟨n - j - 1, by omega⟩
    rw [hd] at he
    have he' : (if j ≠ k ∧ free / 2 ^ j % 2 = 1 ∧ ¬ (pcn later = 1 ∧ free - (free &&& 2 ^ j) = later) then some j else lof k free later d (j + 1)) = lof k free later n 0 := he
    have nx : ¬ (j ≠ k ∧ free / 2 ^ j % 2 = 1 ∧ ¬ (pcn later = 1 ∧ free - (free &&& 2 ^ j) = later)) → wp (rec (Int32.ofNat (j + 1)) τ) (fun r => r = (match lof k free later n 0 with | none => -1 | some j => Int32.ofNat j, τ)) := fun q => by
      rw [if_neg q] at he'
      exact hrec (n - (j + 1)) _ _ (by omega) ⟨rfl, j + 1, by omega, rfl, rfl, by rw [show n - (j + 1) = d by omega]; exact he'⟩
    have h39 : ∀ s0 : Int32, (s0 = 0 ∧ ¬ (j ≠ k ∧ free / 2 ^ j % 2 = 1)) ∨ (s0 = 1 ∧ (j ≠ k ∧ free / 2 ^ j % 2 = 1)) → wp (f_X9_leastOther_39 rec 0 (Int32.ofNat k) (Int32.ofNat free) (Int32.ofNat later) (Int32.ofNat j) s0 τ) (fun r => r = (match lof k free later n 0 with | none => -1 | some j => Int32.ofNat j, τ)) := by
      intro s0 hs
      have h66 : ∀ b : Int32, (b = 0 ∧ ¬ (pcn later = 1 ∧ free - (free &&& 2 ^ j) = later)) ∨ (b = 1 ∧ (pcn later = 1 ∧ free - (free &&& 2 ^ j) = later)) → wp (f_X9_leastOther_66 rec 0 (Int32.ofNat k) (Int32.ofNat free) (Int32.ofNat later) (Int32.ofNat j) s0 b τ) (fun r => r = (match lof k free later n 0 with | none => -1 | some j => Int32.ofNat j, τ)) := by
        intro b hb
        unfold f_X9_leastOther_66
        simp only [lt_eq, n_addI]
        rcases hs with ⟨rfl, q⟩ | ⟨rfl, q⟩
        · rw [if_pos rfl]; exact nx (fun z => q ⟨z.1, z.2.1⟩)
        · rw [if_neg (show ¬ ((1 : Int32) = 0) by decide)]
          rcases hb with ⟨rfl, z⟩ | ⟨rfl, z⟩
          · rw [if_pos rfl, wp_some]
            rw [if_pos ⟨q.1, q.2, z⟩] at he'
            rw [← he']
          · rw [if_neg (show ¬ ((1 : Int32) = 0) by decide)]; exact nx (fun y => y.2.2 z)
      unfold f_X9_leastOther_39
      have p6 := bq_pc later hl
      rw [x_bits, bd_s, bc_n later hl, and_bit free hf j (by omega)]
      have b64 := bq_sub free hf j (by omega)
      rw [show (1 : Int32) = Int32.ofNat 1 from rfl]
      simp (disch := omega) only [n_eq]
      by_cases c1 : pcn later = 1
      · rw [if_pos c1]
        by_cases c2 : free - (free &&& 2 ^ j) = later
        · rw [if_pos c2]; exact h66 1 (Or.inr ⟨rfl, c1, c2⟩)
        · rw [if_neg c2]; exact h66 0 (Or.inl ⟨rfl, fun q => c2 q.2⟩)
      · rw [if_neg c1]; exact h66 0 (Or.inl ⟨rfl, fun q => c1 q.1⟩)
    simp (disch := omega) only [n_eq]
    by_cases ck : j = k
    · rw [if_pos ck]; exact h39 0 (Or.inl ⟨rfl, fun q => q.1 ck⟩)
    · rw [if_neg ck]
      by_cases cb : free / 2 ^ j % 2 = 1
      · rw [if_pos ((bq_bit free hf j (by omega)).mpr cb)]; exact h39 1 (Or.inr ⟨rfl, ck, cb⟩)
      · rw [if_neg (fun q => cb ((bq_bit free hf j (by omega)).mp q))]; exact h39 0 (Or.inl ⟨rfl, fun q => cb q.2⟩)
theorem lof_lt (k free later : Nat) : ∀ m j i, lof k free later m j = some i → i < j + m
  | 0, _, _, h => by cases h
  | m + 1, j, i, h => by
    have h' : (if j ≠ k ∧ free / 2 ^ j % 2 = 1 ∧ ¬ (pcn later = 1 ∧ free - (free &&& 2 ^ j) = later) then some j else lof k free later m (j + 1)) = some i := h
    by_cases c : j ≠ k ∧ free / 2 ^ j % 2 = 1 ∧ ¬ (pcn later = 1 ∧ free - (free &&& 2 ^ j) = later)
    · rw [if_pos c] at h'; cases h'; omega
    · rw [if_neg c] at h'
      have := lof_lt k free later m (j + 1) i h'; omega
theorem x_fillRow {n w s : Nat} {σ : mm_S} (e3 : σ.1 27 3 = Int32.ofNat n) (e1 : σ.1 31 1 = Int32.ofNat w) (hn : n ≤ 6) (hw : w < 2 ^ n) (hs : s ≤ 6) :
    wp (f_X9_fillRow 0 (Int32.ofNat s) σ) (fun τ => (∀ l, l < n → τ.1 211 l = Int32.ofNat (Rw n (2 ^ n - 1 - w) s l) - 1) ∧ ∀ a k, a ≠ 211 → τ.1 a k = σ.1 a k) := by
  have p64 : 2 ^ n ≤ 64 := show 2 ^ n ≤ 2 ^ 6 from Nat.pow_le_pow_right (by omega) hn
  unfold f_X9_fillRow f_X9_everybody
  rw [bd_s, show σ.1 (26 + 1) 3 = Int32.ofNat n from e3, show σ.1 (26 + 5) 1 = Int32.ofNat w from e1, bq_all n (by omega), bq_out n (by omega) w hw, lt_eq, bd_s]
  generalize ho : 2 ^ n - 1 - w = o
  have o64 : o < 64 := by omega
  unfold f_X9_fillRow_29
  refine wp_lp (fun m v τ => ∃ k free left, k ≤ n ∧ m = n - k ∧ free < 64 ∧ left ≤ 6 ∧ v = (Int32.ofNat free, Int32.ofNat left, Int32.ofNat k) ∧ (∀ l, k ≤ l → Rw n o s l = (grl n o (n - k) k free left).getD (l - k) 0) ∧ (∀ l, l < k → τ.1 211 l = Int32.ofNat (Rw n o s l) - 1) ∧ ∀ a k, a ≠ 211 → τ.1 a k = σ.1 a k) ?_ lpN n _ _ (Nat.lt_of_le_of_lt hn (by decide))
    ⟨0, 2 ^ n - 1, s, by omega, rfl, by omega, hs, rfl, fun l _ => rfl, fun l hl => by omega, fun _ _ _ => rfl⟩
  rintro m rec v τ ⟨k, free, left, hk, rfl, hf, hl, rfl, hR, hrow, ho'⟩ hrec
  rw [show τ.1 (26 + 1) 3 = Int32.ofNat n from (ho' _ _ (by omega)).trans e3]
  dsimp only
  simp (disch := omega) only [n_le]
  by_cases c : n ≤ k
  · rw [if_pos c, wp_some]
    exact ⟨fun l hl' => hrow l (by omega), ho'⟩
  · have bl := bq_lat o o64 k (by omega)
    have p6 := bq_pc (lat o k) bl.2
    rw [if_neg c, bl.1, lt_eq, gd_n (by omega) (by omega), n_idx (by omega), lt_eq, x_bits, bd_s, bc_n _ bl.2]
    obtain ⟨d, hd⟩ : ∃ d, n - k = d + 1 := ⟨n - k - 1, by omega⟩
    rw [hd] at hR
    have su1 : ∀ a j, a ≠ 211 → (su_i τ 211 k (-1)).1 a j = σ.1 a j := fun a j q => by rw [rd_ia _ _ _ _ _ _ q]; exact ho' a j q
    have step : ∀ (x : Nat) (rest : List Nat) (free' left' : Nat) (τ' : mm_S), grl n o (d + 1) k free left = x :: rest → rest = grl n o d (k + 1) free' left' → free' < 64 → left' ≤ 6 → τ'.1 211 k = Int32.ofNat x - 1 → (∀ l, l ≠ k → τ'.1 211 l = τ.1 211 l) → (∀ a j, a ≠ 211 → τ'.1 a j = σ.1 a j) →
        wp (rec (Int32.ofNat free', Int32.ofNat left', Int32.ofNat (k + 1)) τ') (fun τ => (∀ l, l < n → τ.1 211 l = Int32.ofNat (Rw n o s l) - 1) ∧ ∀ a k, a ≠ 211 → τ.1 a k = σ.1 a k) := by
      intro x rest free' left' τ' hg hr hf' hl' hx hoth hoff
      have Rk : Rw n o s k = x := by rw [hR k (Nat.le_refl _), hg, Nat.sub_self]; rfl
      refine hrec (n - (k + 1)) _ _ (by omega) ⟨k + 1, free', left', by omega, rfl, hf', hl', rfl, fun l hl2 => ?_, fun l hl2 => ?_, hoff⟩
      · rw [hR l (by omega), hg, show n - (k + 1) = d by omega, ← hr, show l - k = (l - (k + 1)) + 1 by omega]; rfl
      · by_cases cl : l = k
        · rw [cl, hx, Rk]
        · rw [hoth l cl]; exact hrow l (by omega)
    have gdef : grl n o (d + 1) k free left = if left ≤ pcn (lat o k) then 0 :: grl n o d (k + 1) free left else match lof k free (lat o k) n 0 with | none => 0 :: grl n o d (k + 1) free (left - 1) | some j => (j + 1) :: grl n o d (k + 1) (free - (free &&& 2 ^ j)) (left - 1) := rfl
    simp (disch := omega) only [n_le]
    by_cases cl : left ≤ pcn (lat o k)
    · rw [if_pos cl, lt_eq, n_addI]
      rw [if_pos cl] at gdef
      exact step 0 _ free left _ gdef rfl hf hl (by rw [rd_is]; decide) (fun l q => rd_ik _ _ _ _ _ _ q) su1
    · rw [if_neg cl]
      rw [if_neg cl] at gdef
      rw [x_least ((su1 27 3 (by omega)).trans e3) hn (by omega) hf bl.2, bd_s, gd_n (by omega) (by omega), lt_eq, n_subI (by omega), lt_eq]
      cases hlo : lof k free (lat o k) n 0 with
      | none =>
        rw [hlo] at gdef
        dsimp only at gdef ⊢
        rw [if_pos (show (-1 : Int32) < 0 by decide), lt_eq, n_addI]
        exact step 0 _ free (left - 1) _ gdef rfl hf (by omega) (by rw [rd_is]; decide) (fun l q => by rw [rd_ik _ _ _ _ _ _ q, rd_ik _ _ _ _ _ _ q]) (fun a j q => by rw [rd_ia _ _ _ _ _ _ q]; exact su1 a j q)
      | some j =>
        rw [hlo] at gdef
        have jn := lof_lt k free (lat o k) n 0 j hlo
        dsimp only at gdef ⊢
        rw [if_neg (n_neg (by omega)), and_bit free hf j (by omega), lt_eq, lt_eq, n_addI]
        refine step (j + 1) _ _ (left - 1) _ gdef rfl (bq_sub free hf j (by omega)) (by omega) ?_ (fun l q => by rw [rd_ik _ _ _ _ _ _ q, rd_ik _ _ _ _ _ _ q]) (fun a j q => by rw [rd_ia _ _ _ _ _ _ q]; exact su1 a j q)
        rw [rd_is, show (1 : Int32) = Int32.ofNat 1 from rfl, n_sub (by omega), Nat.add_sub_cancel]
