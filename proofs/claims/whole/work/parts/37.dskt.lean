/-! bestRow: the reference, the loop -/
theorem br_back (x : Int32) : x - 1 + 1 = x := Int32.sub_add_cancel x 1
theorem br_m1 : Int32.ofNat 0 + Int32.ofInt (-1) = -1 := by decide
theorem r_finds19 {n o s t : Nat} {ρ ρ' : mm_S} (e3 : ρ.1 224 3 = Int32.ofNat n) (e2 : ρ.1 224 2 = Int32.ofNat t) (hn : n ≤ 6) (ht : t ≤ 7) (ho : o < 2 ^ n) (hR : okR n o s = true) (hst : s ≤ t) (hC : ∀ p, okp n o p n → Co p n ≤ t → Co p n ≤ s)
    (ein : ∀ l, l < n → (ρ.1 224 (11 + 5 * l + 2) = 1 ↔ o / 2 ^ l % 2 = 0)) (f0 : ∀ a j, a ≠ 230 → a ≠ 231 → ¬ (a = 214 ∧ (j = 35 ∨ j = 36)) → ρ'.1 a j = ρ.1 a j) (h35 : ρ'.1 214 35 = -1) (h230 : ρ'.1 230 0 = -1) :
    wp (f_X10_findsRow_19 214 0 ρ') (fun τ => BS n s (Rw n o s) False τ ∧ ∀ a j, a ≠ 230 → a ≠ 231 → ¬ (a = 214 ∧ (j = 35 ∨ j = 36)) → τ.1 a j = ρ.1 a j) := by
  obtain ⟨r1, r2, r3⟩ := okR_use hR
  generalize hRR : Rw n o s = R at r1 r2 r3 ⊢
  unfold f_X10_findsRow_19
  refine wp_lp (fun m v τ => (∀ a j, a ≠ 230 → a ≠ 231 → ¬ (a = 214 ∧ (j = 35 ∨ j = 36)) → τ.1 a j = ρ.1 a j) ∧ ((m = 0 ∧ v = -1 ∧ BS n s R False τ) ∨
      ∃ k p y E, k ≤ n ∧ v = Int32.ofNat k ∧ okp n o p k ∧ y ≤ n + 1 ∧ (∀ l, l < k → τ.1 230 l = Int32.ofNat (p l)) ∧ (k < n → τ.1 230 k = Int32.ofNat y - 1) ∧ (k = n → y = 0) ∧ BS n s R (LTr R p k ∨ (EQr R p k ∧ y ≤ R k)) τ ∧ m = St n p k + E ∧ 1 ≤ E ∧ (k < n → E = (n + 1 - y) * (Wt n (n - (k + 1)) + 1) + 1))) ?_ lpN (Wt n n) _ _ (Wt_top n (by omega))
    ⟨f0, Or.inr ⟨0, fun _ => 0, 0, Wt n n, by omega, rfl, fun l h => by omega, by omega, fun l h => by omega, fun _ => h230.trans (by decide), fun _ => rfl, ⟨fun _ => ⟨0, by omega, h35.trans (by decide)⟩, fun q => absurd (Or.inr ⟨trivial, Nat.zero_le _⟩) q⟩, by show _ = 0 + Wt n n; omega, Wt_pos n n, fun h => by
      obtain ⟨d, rfl⟩ : ∃ d, n = d + 1 := ⟨n - 1, by omega⟩
      rfl⟩⟩
  rintro m rec v τ ⟨hf, ⟨rfl, rfl, hB⟩ | ⟨k, p, y, E, hk, rfl, hp, hy, er, ey, eyn, hB, rfl, hE, hEk⟩⟩ hrec
  · rw [if_pos (show (-1 : Int32) < 0 by decide), wp_some]; exact ⟨hB, hf⟩
  have back : ∀ (q : Nat → Nat) (τ' : mm_S), okp n o q k → (∀ a j, a ≠ 230 → a ≠ 231 → ¬ (a = 214 ∧ (j = 35 ∨ j = 36)) → τ'.1 a j = ρ.1 a j) → (∀ l, l < k → τ'.1 230 l = Int32.ofNat (q l)) → BS n s R (LTr R q k) τ' → St n q k < St n p k + E →
      wp (rec (Int32.ofNat k + Int32.ofInt (-1)) τ') (fun τ => BS n s R False τ ∧ ∀ a j, a ≠ 230 → a ≠ 231 → ¬ (a = 214 ∧ (j = 35 ∨ j = 36)) → τ.1 a j = ρ.1 a j) := by
    intro q τ' hq hf' er' hB' hm
    match k, hk, hq, er', hB', hm with
    | 0, _, _, _, hB', hm => rw [br_m1]; exact hrec 0 _ _ (Nat.lt_of_le_of_lt (Nat.zero_le _) hm) ⟨hf', Or.inl ⟨rfl, rfl, hB'⟩⟩
    | j + 1, hk, hq, er', hB', hm =>
      have qj := (hq j (by omega)).1
      rw [n_subI (by omega), Nat.add_sub_cancel]
      refine hrec (St n q (j + 1)) _ _ hm ⟨hf', Or.inr ⟨j, q, q j + 1, (n + 1 - (q j + 1)) * (Wt n (n - (j + 1)) + 1) + 1, by omega, rfl, fun l hl => hq l (by omega), by omega, fun l hl => er' l (by omega), fun _ => ?_, fun h => by omega, hB', ?_, by omega, fun _ => rfl⟩⟩
      · rw [er' j (by omega), br_s (by omega), Nat.add_sub_cancel]
      · show St n q j + (n - q j) * (Wt n (n - (j + 1)) + 1) + 1 = _
        rw [show n + 1 - (q j + 1) = n - q j by omega]; omega
  rw [if_neg (n_neg (by omega)), br_g3, br_i3, hf 224 3 (by omega) (by omega) (by omega), e3]
  simp (disch := omega) only [n_eq]
  by_cases c : k = n
  · rw [if_pos c]
    subst c
    rw [wp_bv]
    have hB2 : BS k s (Rw k o s) (LTr (Rw k o s) p k ∨ EQr (Rw k o s) p k) τ := by
      rw [hRR]
      refine BS_iff ?_ hB
      rw [eyn rfl]
      exact ⟨fun q => q.elim Or.inl (fun z => Or.inr z.1), fun q => q.elim Or.inl (fun z => Or.inr ⟨z, Nat.zero_le _⟩)⟩
    refine wp_mono (r_leafrow ((hf 224 3 (by omega) (by omega) (by omega)).trans e3) ((hf 224 2 (by omega) (by omega) (by omega)).trans e2) hn ht ho hR hst hC hp er hB2) ?_
    rintro τ' ⟨hB', hf'⟩
    rw [hRR] at hB'
    rw [lt_eq]
    exact back p τ' hp (fun a j q1 q2 q3 => (hf' a j q2 q3).trans (hf a j q1 q2 q3)) (fun l hl => (hf' 230 l (by omega) (by omega)).trans (er l hl)) hB' (by omega)
  · rw [if_neg c, gd_n (by omega) (by omega), gd_n (by omega) (by omega), n_idx (by omega), ey (by omega), br_back, lt_eq, gd_n (by omega) (by omega), rd_is, br_a]
    have hEk' := hEk (by omega)
    obtain ⟨rk1, rk2, rk3⟩ := r1 k (by omega)
    have h75 : ∀ (y' : Nat) (τ' : mm_S), y ≤ y' → y' ≤ n + 1 → y' ≠ k + 1 → (y ≤ R k ↔ y' ≤ R k) → τ'.1 230 k = Int32.ofNat y' → (∀ a j, ¬ (a = 230 ∧ j = k) → τ'.1 a j = τ.1 a j) →
        wp (f_X10_findsRow_75 rec 214 (Int32.ofNat k) τ') (fun τ => BS n s R False τ ∧ ∀ a j, a ≠ 230 → a ≠ 231 → ¬ (a = 214 ∧ (j = 35 ∨ j = 36)) → τ.1 a j = ρ.1 a j) := by
      intro y' τ' hyy hy' hne hiff e230 hoff
      have hf' : ∀ a j, a ≠ 230 → a ≠ 231 → ¬ (a = 214 ∧ (j = 35 ∨ j = 36)) → τ'.1 a j = ρ.1 a j := fun a j q1 q2 q3 => (hoff a j (by omega)).trans (hf a j q1 q2 q3)
      have hB' := BS_keep (τ' := τ') (fun a j q => hoff a j (by omega)) hB
      have h99 : ∀ lim, lim ≤ n → R k ≤ lim → (o / 2 ^ k % 2 = 0 → lim = 0) → wp (f_X10_findsRow_99 rec 214 (Int32.ofNat k) (Int32.ofNat y') (Int32.ofNat lim) τ') (fun τ => BS n s R False τ ∧ ∀ a j, a ≠ 230 → a ≠ 231 → ¬ (a = 214 ∧ (j = 35 ∨ j = 36)) → τ.1 a j = ρ.1 a j) := by
        intro lim l1 l2 l3
        unfold f_X10_findsRow_99
        simp (disch := omega) only [n_le]
        by_cases cl : y' ≤ lim
        · rw [if_pos cl, n_addI, lt_eq, gd_n (by omega) (by omega), n_idx (by omega), lt_eq]
          have pe : ∀ l, l < k → (fun l => if l = k then y' else p l) l = p l := fun l hl => if_neg (by omega)
          have pk : (fun l => if l = k then y' else p l) k = y' := if_pos rfl
          generalize hq : (fun l => if l = k then y' else p l) = q at pe pk
          obtain ⟨g1, g2, g3, _, _⟩ := r_congr (n := n) (R := R) k pe
          have stq : St n q (k + 1) = St n p k + (n - y') * (Wt n (n - (k + 1)) + 1) + 1 := by
            show St n q k + (n - q k) * (Wt n (n - (k + 1)) + 1) + 1 = _; rw [g3, pk]
          refine hrec (St n q (k + 1) + Wt n (n - (k + 1))) _ _ ?_ ⟨fun a j q1 q2 q3 => by rw [rd_ia _ _ _ _ _ _ q1]; exact hf' a j q1 q2 q3, Or.inr ⟨k + 1, q, 0, Wt n (n - (k + 1)), by omega, rfl, fun l hl => ?_, by omega, fun l hl => ?_, fun _ => by rw [rd_is]; decide, fun _ => rfl, ?_, rfl, Wt_pos _ _, fun h => ?_⟩⟩
          · rw [stq, hEk']
            have m1 : (n - y' + 1) * (Wt n (n - (k + 1)) + 1) ≤ (n + 1 - y) * (Wt n (n - (k + 1)) + 1) := Nat.mul_le_mul_right _ (by omega)
            rw [Nat.succ_mul] at m1
            omega
          · by_cases ck : l = k
            · rw [ck, pk]; exact ⟨by omega, hne, fun z => by have := l3 z; omega⟩
            · rw [pe l (by omega)]; exact hp l (by omega)
          · rw [rd_ik _ _ _ _ _ _ (by omega)]
            by_cases ck : l = k
            · rw [ck, pk]; exact e230
            · rw [pe l (by omega), hoff 230 l (by omega)]; exact er l (by omega)
          · refine BS_keep (fun a j z => rd_ia _ _ _ _ _ _ z) (BS_iff ?_ hB')
            show (LTr R p k ∨ (EQr R p k ∧ y ≤ R k)) ↔ ((LTr R q k ∨ (EQr R q k ∧ q k < R k)) ∨ ((EQr R q k ∧ q k = R k) ∧ 0 ≤ R (k + 1)))
            rw [g1, g2, pk, hiff]
            constructor
            · rintro (z | ⟨z1, z2⟩)
              · exact Or.inl (Or.inl z)
              · by_cases ce : y' = R k
                · exact Or.inr ⟨⟨z1, ce⟩, Nat.zero_le _⟩
                · exact Or.inl (Or.inr ⟨z1, by omega⟩)
            · rintro ((z | ⟨z1, z2⟩) | ⟨⟨z1, z2⟩, _⟩)
              · exact Or.inl z
              · exact Or.inr ⟨z1, by omega⟩
              · exact Or.inr ⟨z1, by omega⟩
          · obtain ⟨d, hd⟩ : ∃ d, n - (k + 1) = d + 1 := ⟨n - (k + 1) - 1, by omega⟩
            rw [hd, show n - (k + 1 + 1) = d by omega]; rfl
        · rw [if_neg cl, lt_eq]
          refine back p τ' hp hf' (fun l hl => (hoff 230 l (by omega)).trans (er l hl)) (BS_iff ?_ hB') (by omega)
          exact ⟨fun z => z.elim id (fun z => by have := hiff.mp z.2; omega), Or.inl⟩
      unfold f_X10_findsRow_75
      rw [gd_n (by omega) (by omega), r_isIn 214 (by omega), bd_s, n_idx (by omega), e230, br_g3, br_i3, hf' 224 3 (by omega) (by omega) (by omega), e3, hf' 224 (11 + 5 * k + 2) (by omega) (by omega) (by omega)]
      by_cases ci : ρ.1 224 (11 + 5 * k + 2) = 1
      · rw [if_pos ci, if_neg (show ¬ ((1 : Int32) = 0) by decide)]
        have z := (ein k (by omega)).mp ci
        exact h99 0 (by omega) (by rw [rk3 z]; omega) (fun _ => rfl)
      · rw [if_neg ci, if_pos rfl]
        exact h99 n (Nat.le_refl n) rk1 (fun z => absurd ((ein k (by omega)).mpr z) ci)
    simp (disch := omega) only [n_eq]
    by_cases cy : y = k + 1
    · rw [if_pos cy, gd_n (by omega) (by omega), gd_n (by omega) (by omega), br_a, lt_eq]
      exact h75 (y + 1) _ (by omega) (by omega) (by omega) (by omega) (rd_is _ _ _ _) (fun a j q => by rw [rd_ii, if_neg q, rd_ii, if_neg q])
    · rw [if_neg cy]
      exact h75 y _ (Nat.le_refl y) hy cy Iff.rfl (rd_is _ _ _ _) (fun a j q => by rw [rd_ii, if_neg q])
