/-! images -/
theorem x_htake {a b : Nat} (σ : mm_S) (hab : a + 3 < b ∨ b + 3 < a) (hb : σ.1 b 0 = 0 ∨ σ.1 b 0 = 1) : wp (f_X1_take a b σ) (fun τ => ((∀ k, k ≤ 4 → τ.1 a k = σ.1 b k) ∧ (∀ k, k < 6 → τ.1 (a + 1) k = σ.1 (b + 1) k ∧ τ.1 (a + 2) k = σ.1 (b + 2) k) ∧ ∀ k, k < 36 → τ.1 (a + 3) k = σ.1 (b + 3) k) ∧ (∀ c k, ¬ (a ≤ c ∧ c ≤ a + 3) → τ.1 c k = σ.1 c k) ∧ τ.2 = σ.2) := by
  unfold f_X1_take
  rw [gb_01 hb]
  simp only [lt_eq, wp_some]
  have o : ∀ (υ : mm_S) (c d sp n k : Nat), c ≠ d → (su_c υ sp 0 d 0 n).1 c k = υ.1 c k := fun υ c d sp n k h => rd_ca _ _ _ _ _ _ _ _ h
  have s : ∀ (υ : mm_S) (c d k N : Nat), k < N → (su_c υ c 0 d 0 N).1 d k = υ.1 c k := fun υ c d k N h => by rw [rd_cs, if_pos (by omega), show 0 + (k - 0) = k by omega]
  have u : ∀ (υ : mm_S) (j k : Nat) (x : Int32), (su_i υ a j x).1 b k = υ.1 b k := fun υ j k x => rd_ia _ _ _ _ _ _ (by omega)
  simp only [u]
  generalize h1 : su_i (su_i (su_i (su_i (su_i σ a 0 (σ.1 b 0)) a 1 (σ.1 b 1)) a 2 (σ.1 b 2)) a 3 (σ.1 b 3)) a 4 (σ.1 b 4) = σ1
  have e1 : ∀ k, k ≤ 4 → σ1.1 a k = σ.1 b k := fun k hk => by
    rw [← h1]
    rcases (by omega : k = 0 ∨ k = 1 ∨ k = 2 ∨ k = 3 ∨ k = 4) with rfl | rfl | rfl | rfl | rfl
    · rw [rd_ik _ _ _ _ _ _ (by decide), rd_ik _ _ _ _ _ _ (by decide), rd_ik _ _ _ _ _ _ (by decide), rd_ik _ _ _ _ _ _ (by decide), rd_is]
    · rw [rd_ik _ _ _ _ _ _ (by decide), rd_ik _ _ _ _ _ _ (by decide), rd_ik _ _ _ _ _ _ (by decide), rd_is]
    · rw [rd_ik _ _ _ _ _ _ (by decide), rd_ik _ _ _ _ _ _ (by decide), rd_is]
    · rw [rd_ik _ _ _ _ _ _ (by decide), rd_is]
    · rw [rd_is]
  have e3 : ∀ c k, c ≠ a → σ1.1 c k = σ.1 c k := fun c k h => by rw [← h1, rd_ia _ _ _ _ _ _ h, rd_ia _ _ _ _ _ _ h, rd_ia _ _ _ _ _ _ h, rd_ia _ _ _ _ _ _ h, rd_ia _ _ _ _ _ _ h]
  have e4 : σ1.2 = σ.2 := by rw [← h1]; rfl
  refine ⟨⟨fun k hk => ?_, fun k hk => ⟨?_, ?_⟩, fun k hk => ?_⟩, fun c k hc => ?_, ?_⟩
  · rw [o _ _ _ _ _ _ (by omega), o _ _ _ _ _ _ (by omega), o _ _ _ _ _ _ (by omega)]; exact e1 k hk
  · rw [o _ _ _ _ _ _ (by omega), o _ _ _ _ _ _ (by omega), s _ _ _ _ _ hk]; exact e3 _ _ (by omega)
  · rw [o _ _ _ _ _ _ (by omega), s _ _ _ _ _ hk, o _ _ _ _ _ _ (by omega)]; exact e3 _ _ (by omega)
  · rw [s _ _ _ _ _ hk, o _ _ _ _ _ _ (by omega), o _ _ _ _ _ _ (by omega)]; exact e3 _ _ (by omega)
  · rw [o _ _ _ _ _ _ (by omega), o _ _ _ _ _ _ (by omega), o _ _ _ _ _ _ (by omega)]; exact e3 _ _ (by omega)
  · exact e4
theorem x_ttake {a b : Nat} (σ : mm_S) (hab : a + 3 < b ∨ b + 3 < a) : wp (f_X3_take a b σ) (fun τ => (τ.1 a 0 = σ.1 b 0 ∧ ∀ c, 1 ≤ c → c ≤ 3 → ∀ k, k < 10 → τ.1 (a + c) k = σ.1 (b + c) k) ∧ (∀ c k, ¬ (a ≤ c ∧ c ≤ a + 3) → τ.1 c k = σ.1 c k) ∧ τ.2 = σ.2) := by
  unfold f_X3_take
  simp only [lt_eq, wp_some]
  have o : ∀ (υ : mm_S) (c d sp n k : Nat), c ≠ d → (su_c υ sp 0 d 0 n).1 c k = υ.1 c k := fun υ c d sp n k h => rd_ca _ _ _ _ _ _ _ _ h
  have s : ∀ (υ : mm_S) (c d k N : Nat), k < N → (su_c υ c 0 d 0 N).1 d k = υ.1 c k := fun υ c d k N h => by rw [rd_cs, if_pos (by omega), show 0 + (k - 0) = k by omega]
  refine ⟨⟨?_, fun c h1 h2 k hk => ?_⟩, fun c k hc => ?_, rfl⟩
  · rw [o _ _ _ _ _ _ (by omega), o _ _ _ _ _ _ (by omega), o _ _ _ _ _ _ (by omega), rd_is]
  · rcases (by omega : c = 1 ∨ c = 2 ∨ c = 3) with rfl | rfl | rfl
    · rw [o _ _ _ _ _ _ (by omega), o _ _ _ _ _ _ (by omega), s _ _ _ _ _ hk, rd_ia _ _ _ _ _ _ (by omega)]
    · rw [o _ _ _ _ _ _ (by omega), s _ _ _ _ _ hk, o _ _ _ _ _ _ (by omega), rd_ia _ _ _ _ _ _ (by omega)]
    · rw [s _ _ _ _ _ hk, o _ _ _ _ _ _ (by omega), o _ _ _ _ _ _ (by omega), rd_ia _ _ _ _ _ _ (by omega)]
  · rw [o _ _ _ _ _ _ (by omega), o _ _ _ _ _ _ (by omega), o _ _ _ _ _ _ (by omega), rd_ia _ _ _ _ _ _ (by omega)]
theorem x_wtake {a b : Nat} (σ : mm_S) (hab : a + 13 < b ∨ b + 13 < a) (hb : σ.1 (b + 1) 0 = 0 ∨ σ.1 (b + 1) 0 = 1) : wp (f_X8_take a b σ) (fun τ => (((∀ k, k ≤ 4 → τ.1 (a + 1) k = σ.1 (b + 1) k) ∧ (∀ k, k < 6 → τ.1 (a + 1 + 1) k = σ.1 (b + 1 + 1) k ∧ τ.1 (a + 1 + 2) k = σ.1 (b + 1 + 2) k) ∧ ∀ k, k < 36 → τ.1 (a + 1 + 3) k = σ.1 (b + 1 + 3) k) ∧
    (τ.1 (a + 5) 0 = σ.1 (b + 5) 0 ∧ τ.1 (a + 5) 1 = σ.1 (b + 5) 1 ∧ ∀ c, 1 ≤ c → c ≤ 4 → ∀ k, k < 6 → τ.1 (a + 5 + c) k = σ.1 (b + 5 + c) k) ∧ (τ.1 (a + 10) 0 = σ.1 (b + 10) 0 ∧ ∀ c, 1 ≤ c → c ≤ 3 → ∀ k, k < 10 → τ.1 (a + 10 + c) k = σ.1 (b + 10 + c) k) ∧ τ.1 a 3 = σ.1 b 3 ∧ τ.1 a 4 = σ.1 b 4) ∧ ∀ c k, ¬ (a ≤ c ∧ c ≤ a + 13) → τ.1 c k = σ.1 c k) := by
  unfold f_X8_take
  obtain ⟨σ1, e1, ⟨h1, h2, h3⟩, h4, -⟩ := x_htake (a := a + 1) (b := b + 1) σ (by omega) hb
  obtain ⟨σ2, e2, ⟨n1, n2, n3⟩, n4, -⟩ := x_take (a := a + 5) (b := b + 5) σ1 (by omega)
  obtain ⟨σ3, e3, ⟨t1, t2⟩, t4, -⟩ := x_ttake (a := a + 10) (b := b + 10) σ2 (by omega)
  rw [e1, bv_s, e2, bv_s, e3, bv_s, lt_eq, lt_eq, wp_some]
  have fz : ∀ c k, c ≠ a → (su_i (su_i σ3 a 3 (σ3.1 b 3)) a 4 ((su_i σ3 a 3 (σ3.1 b 3)).1 b 4)).1 c k = σ3.1 c k := fun c k h => by rw [rd_ia _ _ _ _ _ _ h, rd_ia _ _ _ _ _ _ h]
  refine ⟨⟨⟨fun k hk => ?_, fun k hk => ⟨?_, ?_⟩, fun k hk => ?_⟩, ⟨?_, ?_, fun c p1 p2 k hk => ?_⟩, ⟨?_, fun c p1 p2 k hk => ?_⟩, ?_, ?_⟩, fun c k hc => ?_⟩
  · rw [fz _ _ (by omega), t4 _ _ (by omega), n4 _ _ (by omega)]; exact h1 k hk
  · rw [fz _ _ (by omega), t4 _ _ (by omega), n4 _ _ (by omega)]; exact (h2 k hk).1
  · rw [fz _ _ (by omega), t4 _ _ (by omega), n4 _ _ (by omega)]; exact (h2 k hk).2
  · rw [fz _ _ (by omega), t4 _ _ (by omega), n4 _ _ (by omega)]; exact h3 k hk
  · rw [fz _ _ (by omega), t4 _ _ (by omega), n1, h4 _ _ (by omega)]
  · rw [fz _ _ (by omega), t4 _ _ (by omega), n2, h4 _ _ (by omega)]
  · rw [fz _ _ (by omega), t4 _ _ (by omega), n3 c p1 p2 k hk, h4 _ _ (by omega)]
  · rw [fz _ _ (by omega), t1, n4 _ _ (by omega), h4 _ _ (by omega)]
  · rw [fz _ _ (by omega), t2 c p1 p2 k hk, n4 _ _ (by omega), h4 _ _ (by omega)]
  · rw [rd_ik _ _ _ _ _ _ (by decide), rd_is, t4 _ _ (by omega), n4 _ _ (by omega), h4 _ _ (by omega)]
  · rw [rd_is, rd_ia _ _ _ _ _ _ (by omega), t4 _ _ (by omega), n4 _ _ (by omega), h4 _ _ (by omega)]
  · rw [fz _ _ (by omega), t4 _ _ (by omega), n4 _ _ (by omega), h4 _ _ (by omega)]
theorem wr_take {r a b b1 o1 f1 k1 x1 y1 b2 o2 f2 k2 x2 y2 n h m : Nat} {σ τ ρ υ : mm_S} (H : wr r σ b ρ b1 o1 f1 k1 x1 y1 n h m)
    (C : (((∀ k, k ≤ 4 → τ.1 (a + 1) k = σ.1 (b + 1) k) ∧ (∀ k, k < 6 → τ.1 (a + 1 + 1) k = σ.1 (b + 1 + 1) k ∧ τ.1 (a + 1 + 2) k = σ.1 (b + 1 + 2) k) ∧ ∀ k, k < 36 → τ.1 (a + 1 + 3) k = σ.1 (b + 1 + 3) k) ∧
    (τ.1 (a + 5) 0 = σ.1 (b + 5) 0 ∧ τ.1 (a + 5) 1 = σ.1 (b + 5) 1 ∧ ∀ c, 1 ≤ c → c ≤ 4 → ∀ k, k < 6 → τ.1 (a + 5 + c) k = σ.1 (b + 5 + c) k) ∧ (τ.1 (a + 10) 0 = σ.1 (b + 10) 0 ∧ ∀ c, 1 ≤ c → c ≤ 3 → ∀ k, k < 10 → τ.1 (a + 10 + c) k = σ.1 (b + 10 + c) k) ∧ τ.1 a 3 = σ.1 b 3 ∧ τ.1 a 4 = σ.1 b 4))
    (g : ∀ k, k < 121 → υ.1 b2 (o2 + k) = ρ.1 b1 (o1 + k)) (gf : υ.1 f2 k2 = ρ.1 f1 k1) (gx : υ.1 x2 y2 = ρ.1 x1 y1) : wr r τ a υ b2 o2 f2 k2 x2 y2 n h m := by
  obtain ⟨⟨c1, c2, c3⟩, ⟨c4, c5, c6⟩, ⟨c7, c8⟩, c9, c10⟩ := C
  obtain ⟨⟨⟨i0, i1, i2, i3, i4, i5, i6, i7⟩, ⟨q0, q1, q2, q3, q4, q5, q6⟩⟩, ⟨h9, hj, hX⟩, ⟨⟨t1, t2, t3⟩, ⟨t4, t5⟩⟩, w4, w5⟩ := H
  refine ⟨⟨⟨i0, ?_, ?_, ?_, ?_, fun l hl => ?_, fun l hl => ?_, fun l p1 p2 => ?_⟩, ⟨?_, ?_, ?_, ?_, ?_, fun l hl => ⟨?_, ?_⟩, fun l hl => ?_⟩⟩, ⟨h9, nj_take hj c4 c5 c6, nx_ref (nx_take hX c4 c5 c6) (fun k hk => ?_)⟩, ⟨⟨t1, c7.trans t2, fun i hi => ?_⟩, ⟨?_, fun i hi => ?_⟩⟩, ?_, ?_⟩
  · rw [c1 0 (by omega)]; exact i1
  · rw [c1 1 (by omega)]; exact i2
  · rw [c1 2 (by omega)]; exact i3
  · rw [c1 3 (by omega)]; exact i4
  · rw [(c2 l hl).1]; exact i5 l hl
  · rw [(c2 l hl).2]; exact i6 l hl
  · rw [(c2 l p2).1]; exact i7 l p1 p2
  · rw [c1 0 (by omega)]; exact (g 0 (by omega)).trans q0
  · rw [c1 1 (by omega)]; exact (g 1 (by omega)).trans q1
  · rw [c1 2 (by omega)]; exact (g 2 (by omega)).trans q2
  · rw [c1 3 (by omega)]; exact (g 3 (by omega)).trans q3
  · rw [c1 4 (by omega)]; exact (g 89 (by omega)).trans q4
  · rw [(c2 l hl).1, Nat.add_assoc, g _ (by omega), ← Nat.add_assoc]; exact (q5 l hl).1
  · rw [(c2 l hl).2, Nat.add_assoc, g _ (by omega), ← Nat.add_assoc]; exact (q5 l hl).2
  · rw [c3 l hl, Nat.add_assoc, g _ (by omega), ← Nat.add_assoc]; exact q6 l hl
  · rw [Nat.add_assoc, g _ (by omega), ← Nat.add_assoc]
  · rw [c8 1 (by omega) (by omega) i (by omega), c8 2 (by omega) (by omega) i (by omega), c8 3 (by omega) (by omega) i (by omega)]; exact t3 i hi
  · rw [c7]; exact (g 120 (by omega)).trans t4
  · rw [c8 1 (by omega) (by omega) i (by omega), c8 2 (by omega) (by omega) i (by omega), c8 3 (by omega) (by omega) i (by omega)]
    obtain ⟨z1, z2, z3⟩ := t5 i hi
    refine ⟨?_, ?_, ?_⟩
    · rw [Nat.add_assoc, g _ (by omega), ← Nat.add_assoc]; exact z1
    · rw [Nat.add_assoc, g _ (by omega), ← Nat.add_assoc]; exact z2
    · rw [Nat.add_assoc, g _ (by omega), ← Nat.add_assoc]; exact z3
  · rw [c9, gf]; exact w4
  · rw [c10, gx]; exact w5
theorem r_imgcopy {k : Nat} (ρ : mm_S) (hk : k < 4) : wp (f_X10_image_43 214 (Int32.ofNat k) 0 ρ) (fun r => r.1 = ρ.1 224 10 ∧ (∀ j, j < 121 → r.2.1 236 (121 * k + j) = ρ.1 224 j) ∧ (∀ j, (j < 121 * k ∨ 121 * k + 121 ≤ j) → r.2.1 236 j = ρ.1 236 j) ∧ ∀ a j, a ≠ 236 → r.2.1 a j = ρ.1 a j) := by
  unfold f_X10_image_43
  refine wp_lp (fun m v τ => ∃ i, i ≤ 121 ∧ m = 121 - i ∧ v = Int32.ofNat i ∧ (∀ j, j < i → τ.1 236 (121 * k + j) = ρ.1 224 j) ∧ (∀ j, (j < 121 * k ∨ 121 * k + i ≤ j) → τ.1 236 j = ρ.1 236 j) ∧ ∀ a j, a ≠ 236 → τ.1 a j = ρ.1 a j) ?_ lpN 121 _ _ (by decide) ⟨0, by omega, by omega, rfl, fun j hj => by omega, fun _ _ => rfl, fun _ _ _ => rfl⟩
  rintro m rec v τ ⟨i, hi, rfl, rfl, i1, i2, i3⟩ hrec
  rw [show (121 : Int32) = Int32.ofNat 121 from rfl, show (10 : Int32) = Int32.ofNat 10 from rfl]
  simp (disch := omega) only [n_le, n_mul, n_add, lt_eq]
  by_cases c : i = 121
  · subst c; simp only [Nat.le_refl, if_true]
    rw [gd_n (by omega) (by omega), n_idx (by omega), wp_some]; exact ⟨i3 _ _ (by decide), i1, i2, i3⟩
  · rw [if_neg (by omega)]
    simp (disch := omega) only [gd_n, n_idx, n_addI]
    refine hrec (121 - (i + 1)) _ _ (by omega) ⟨i + 1, by omega, rfl, rfl, fun j hj => ?_, fun j hj => ?_, fun a j ha => ?_⟩
    · rw [rd_ii]; by_cases q : j = i
      · subst q; rw [if_pos ⟨rfl, rfl⟩, i3 _ _ (by decide)]
      · rw [if_neg (by omega)]; exact i1 j (by omega)
    · rw [rd_ik _ _ _ _ _ _ (by omega)]; exact i2 j (by omega)
    · rw [rd_ia _ _ _ _ _ _ ha]; exact i3 a j ha
theorem r_backcopy {k : Nat} (ρ : mm_S) (hk : k < 4) : wp (f_X10_back_50 214 (Int32.ofNat k) 0 ρ) (fun r => r.1 = ρ.1 236 (121 * k + 10) ∧ (∀ j, j < 121 → r.2.1 224 j = ρ.1 236 (121 * k + j)) ∧ ∀ a j, a ≠ 224 → r.2.1 a j = ρ.1 a j) := by
  unfold f_X10_back_50
  refine wp_lp (fun m v τ => ∃ i, i ≤ 121 ∧ m = 121 - i ∧ v = Int32.ofNat i ∧ (∀ j, j < i → τ.1 224 j = ρ.1 236 (121 * k + j)) ∧ ∀ a j, a ≠ 224 → τ.1 a j = ρ.1 a j) ?_ lpN 121 _ _ (by decide) ⟨0, by omega, by omega, rfl, fun j hj => by omega, fun _ _ _ => rfl⟩
  rintro m rec v τ ⟨i, hi, rfl, rfl, i1, i3⟩ hrec
  rw [show (121 : Int32) = Int32.ofNat 121 from rfl, show (10 : Int32) = Int32.ofNat 10 from rfl]
  simp (disch := omega) only [n_le, n_mul, n_add, lt_eq]
  by_cases c : i = 121
  · subst c; simp only [Nat.le_refl, if_true]
    rw [gd_n (by omega) (by omega), n_idx (by omega), wp_some]; exact ⟨i1 10 (by omega), i1, i3⟩
  · rw [if_neg (by omega)]
    simp (disch := omega) only [gd_n, n_idx, n_addI]
    refine hrec (121 - (i + 1)) _ _ (by omega) ⟨i + 1, by omega, rfl, rfl, fun j hj => ?_, fun a j ha => ?_⟩
    · rw [rd_ii]; by_cases q : j = i
      · subst q; rw [if_pos ⟨rfl, rfl⟩, i3 _ _ (by decide)]
      · rw [if_neg (by omega)]; exact i1 j (by omega)
    · rw [rd_ia _ _ _ _ _ _ ha]; exact i3 a j ha
theorem nar1 : vp_nar .boolean (1 : Int32) = 1 := by decide +kernel
theorem m_image (i : Int32) : RM (f_X9_image 0 i) (f_X10_image 214 i) := by
  intro σ ρ H
  obtain ⟨r, n, h, m, Y⟩ := id H
  unfold f_X9_image f_X10_image
  rcases in_cases 0 3 (by omega) (by omega) i with ⟨k, _, hk, rfl⟩ | c
  · rw [r_in1 (a := 0) (b := 3) (by omega) (by omega) hk, bd_s, if_neg (show ¬ ((1 : Int32) = 0) by decide), if_neg (n_neg (by omega)), if_pos (show Int32.ofNat k < (4 : Int32) by rw [show (4 : Int32) = Int32.ofNat 4 from rfl, n_lt (by omega) (by omega)]; omega)]
    simp (disch := omega) only [gd_n, n_idx, lt_eq, nar1]
    obtain ⟨y1, y2, y3, y4, y5, y6⟩ := id Y
    obtain ⟨τ, eτ, C, fr⟩ := x_wtake (a := 41 + 14 * k) (b := 26) σ (by omega) y4.1.1.2.1
    rw [eτ, bv_s, wp_some]
    have e21 : (su_i ρ 239 k 1).1 214 21 = ρ.1 214 21 := rd_ia _ _ _ _ _ _ (by decide)
    have e22 : (su_i (su_i ρ 239 k 1) 237 k (ρ.1 214 21)).1 214 22 = ρ.1 214 22 := by rw [rd_ia _ _ _ _ _ _ (by decide), rd_ia _ _ _ _ _ _ (by decide)]
    rw [e21, e22]
    generalize hυ : su_i (su_i (su_i ρ 239 k 1) 237 k (ρ.1 214 21)) 238 k (ρ.1 214 22) = υ
    obtain ⟨w, ew, w1, w2, w3, w4⟩ := r_imgcopy (k := k) υ (by omega)
    have zu : ∀ a j, ¬ (a = 239 ∧ j = k) → ¬ (a = 237 ∧ j = k) → ¬ (a = 238 ∧ j = k) → υ.1 a j = ρ.1 a j := fun a j q1 q2 q3 => by rw [← hυ, rd_ii, if_neg q3, rd_ii, if_neg q2, rd_ii, if_neg q1]
    refine ⟨w, ew, ?_, r, n, h, m, ?_⟩
    · rw [w1, zu _ _ (by omega) (by omega) (by omega), rd_ia _ _ _ _ _ _ (by decide), fr _ _ (by omega)]; exact y4.2.1.2.2.1.symm
    have gc : ag (fun c j => c < 41 ∨ 98 ≤ c) σ (su_i τ 97 k 1) := fun c j q => by rw [rd_ia _ _ _ _ _ _ (by omega)]; exact fr c j (by omega)
    have gr : ag (fun c j => c < 236) ρ w.2 := fun c j q => by rw [w4 _ _ (by omega)]; exact zu _ _ (by omega) (by omega) (by omega)
    refine ⟨RT_keep y1 (ag_mono gc (by intro c k; omega)) (ag_mono gr (by intro c k; omega)), RQ_keep y2 (ag_mono gr (by intro c k; omega)), RR_keep y3 (ag_mono gc (by intro c k; omega)) (ag_mono gr (by intro c k; omega)), wr_keep y4 (ag_mono gc (by intro c k; omega)) (ag_mono gr (by intro c k; omega)), RA_keep y5 (ag_mono gc (by intro c k; omega)) (ag_mono gr (by intro c k; omega)), ?_⟩
    intro k' hk'
    by_cases ck : k' = k
    · subst ck
      have q239 : w.2.1 239 k' = 1 := by rw [w4 _ _ (by decide), ← hυ, rd_ia _ _ _ _ _ _ (by decide), rd_ia _ _ _ _ _ _ (by decide), rd_is]
      refine ⟨by rw [q239, rd_is], Or.inr (rd_is _ _ _ _), fun _ => Or.inl ⟨n, h, m, ?_⟩⟩
      have W := wr_take (b2 := 236) (o2 := 121 * k') (f2 := 237) (k2 := k') (x2 := 238) (y2 := k') (υ := w.2) y4 C (fun j hj => by rw [w2 j hj, zu _ _ (by omega) (by omega) (by omega), Nat.zero_add]) (by rw [w4 _ _ (by decide), ← hυ, rd_ia _ _ _ _ _ _ (by decide), rd_is]) (by rw [w4 _ _ (by decide), ← hυ, rd_is])
      exact wr_keep W (fun c j q => rd_ia _ _ _ _ _ _ (by omega)) ag_refl
    · obtain ⟨z1, z2, z3⟩ := y6 k' hk'
      have q97 : (su_i τ 97 k 1).1 97 k' = σ.1 97 k' := by rw [rd_ik _ _ _ _ _ _ ck, fr _ _ (by omega)]
      rw [q97, w4 _ _ (by decide), zu _ _ (by omega) (by omega) (by omega)]
      refine ⟨z1, z2, fun e => ?_⟩
      have kr : ag (fun c j => (c = 236 ∧ 121 * k' ≤ j ∧ j < 121 * k' + 121) ∨ (c = 237 ∧ j = k') ∨ (c = 238 ∧ j = k')) ρ w.2 := fun c j q => by
        rcases q with ⟨rfl, q1, q2⟩ | ⟨rfl, rfl⟩ | ⟨rfl, rfl⟩
        · rw [w3 _ (by omega), zu _ _ (by omega) (by omega) (by omega)]
        · rw [w4 _ _ (by decide), zu _ _ (by omega) (by omega) (by omega)]
        · rw [w4 _ _ (by decide), zu _ _ (by omega) (by omega) (by omega)]
      rcases z3 e with ⟨n', h', m', W⟩ | W
      · exact Or.inl ⟨n', h', m', wr_keep W (fun c j q => by rw [rd_ia _ _ _ _ _ _ (by omega)]; exact fr _ _ (by omega)) kr⟩
      · exact Or.inr (PW_keep W (fun c j q => by rw [rd_ia _ _ _ _ _ _ (by omega)]; exact fr _ _ (by omega)) kr)
  · rw [r_in0 (a := 0) (b := 3) (by omega) (by omega) c, bd_s, if_pos rfl, wp_swap, wp_some]
    by_cases d : i < 0
    · rw [if_pos d, wp_some]; exact ⟨rfl, H⟩
    · rw [if_neg d, if_neg (fun e => by
        have c' := c.resolve_left d
        rw [Int32.lt_iff_toInt_lt, n_int (by omega)] at c'; rw [Int32.lt_iff_toInt_lt, show (4 : Int32).toInt = 4 from by decide] at e; omega), wp_some]; exact ⟨rfl, H⟩
/-! feed -/
theorem nar_b (w : Int32) : ∃ z : Int, -128 ≤ z ∧ z < 128 ∧ vp_nar .byte w = Int32.ofInt z := by
  refine ⟨w.toInt8.toInt, Int8.le_toInt _, Int8.toInt_lt _, ?_⟩
  show w.toInt8.toInt32 = _
  rw [← Int32.toInt_inj, Int8.toInt_toInt32, Int32.toInt_ofInt_of_le (Int.le_trans (by decide) (Int8.le_toInt _)) (Int.lt_of_lt_of_le (Int8.toInt_lt _) (by decide))]
def RTn (n : Nat) (σ ρ : mm_S) : Prop := RT σ ρ ∧ σ.1 1 1 = Int32.ofNat n
theorem h_four {n : Nat} {σ ρ : mm_S} (x : Int32) (H : RTn n σ ρ) (hn : n + 4 ≤ 400) : wp (f_X6_addNumber 1 x σ) (fun τ => wp (f_X10_four 214 x ρ) (fun υ => RTn (n + 4) τ υ)) := by
  unfold f_X6_addNumber f_X10_four f_X6_addNumber_3 f_X10_four_3
  refine wp_lp2 (fun m v σ' w ρ' => w = v ∧ ∃ k, k ≤ 4 ∧ m = 4 - k ∧ v = Int32.ofInt (24 - 8 * (k : Int)) ∧ RTn (n + k) σ' ρ') ?_ lpN 4 _ _ _ _ (by decide) ⟨rfl, 0, by omega, by omega, rfl, H⟩
  rintro m rec rec' v σ' w ρ' ⟨rfl, k, hk, rfl, rfl, ⟨⟨t1, -, t4, t5⟩, t3⟩⟩ hrec
  by_cases c : k = 4
  · subst c
    rw [if_pos (show Int32.ofInt (24 - 8 * ((4 : Nat) : Int)) < 0 by decide), if_pos (show Int32.ofInt (24 - 8 * ((4 : Nat) : Int)) < 0 by decide), wp_some, wp_some]
    exact ⟨⟨t1, ⟨n + 4, hn, t3⟩, t4, t5⟩, t3⟩
  · have hk3 : k = 0 ∨ k = 1 ∨ k = 2 ∨ k = 3 := by omega
    have nn : ¬ (Int32.ofInt (24 - 8 * (k : Int)) < 0) := by rcases hk3 with rfl | rfl | rfl | rfl <;> decide
    have nx' : Int32.ofInt (24 - 8 * (k : Int)) + Int32.ofInt (-8) = Int32.ofInt (24 - 8 * ((k + 1 : Nat) : Int)) := by rcases hk3 with rfl | rfl | rfl | rfl <;> decide
    rw [if_neg nn, if_neg nn, t1, t3, if_neg (show ¬ ((400 : Int32) ≤ Int32.ofNat (n + k)) by rw [show (400 : Int32) = Int32.ofNat 400 from rfl, n_le (by omega) (by omega)]; omega)]
    simp (disch := omega) only [gd_n, n_idx, lt_eq]
    rw [rd_ia _ 1 _ _ _ _ (by decide), rd_ia _ 214 _ _ _ _ (by decide), t1, t3, nx', show Int32.ofNat (n + k) + (1 : Int32) = Int32.ofNat (n + (k + 1)) from n_add (n + k) 1]
    refine hrec (4 - (k + 1)) _ _ _ _ (by omega) ⟨rfl, k + 1, by omega, rfl, rfl, ⟨⟨by rw [rd_is, rd_is], ⟨n + (k + 1), by omega, rd_is _ _ _ _⟩, fun j => ?_, fun j => ?_⟩, rd_is _ _ _ _⟩⟩
    · rw [rd_ia _ 215 _ 214 _ _ (by decide), rd_ia _ 2 _ 1 _ _ (by decide), rd_ii, rd_ii]
      by_cases d : j = n + k
      · rw [if_pos ⟨rfl, d⟩, if_pos ⟨rfl, d⟩]
      · rw [if_neg (by omega), if_neg (by omega)]; exact t4 j
    · rw [rd_ia _ _ _ _ _ _ (by decide), rd_ii]
      by_cases d : j = n + k
      · rw [if_pos ⟨rfl, d⟩]; exact nar_b _
      · rw [if_neg (by omega)]; exact t5 j
theorem m_feed (a b c d e : Int32) : RM (f_X9_feed 0 a b c d e) (f_X10_feed 214 a b c d e) := by
  intro σ ρ H
  obtain ⟨r, n', h', m', Y⟩ := id H
  obtain ⟨t1, ⟨n, t2, t3⟩, t4, t5⟩ := id Y.1
  have c0 : (Int32.ofNat n + (20 : Int32) ≤ (400 : Int32)) = (n + 20 ≤ 400) := by
    rw [show (20 : Int32) = Int32.ofNat 20 from rfl, show (400 : Int32) = Int32.ofNat 400 from rfl, n_add]; exact propext (n_le (by omega) (by omega))
  have cF := fun q => fr_X9_feed (P := fun a k => a ≠ 1 ∧ a ≠ 2) (a0 := 0) (i1 := a) (i2 := b) (i3 := c) (i4 := d) (i5 := e) (fun a k q => by omega) (ko_refl (σ := σ)) q
  have rF := fun q => fr_X10_feed (P := fun a k => a ≠ 215 ∧ ¬ (a = 214 ∧ k = 1)) (a0 := 214) (i1 := a) (i2 := b) (i3 := c) (i4 := d) (i5 := e) (fun a k q => by omega) (ko_refl (σ := ρ)) q
  by_cases cc : n + 20 ≤ 400
  · obtain ⟨σ1, e1, ρ1, g1, H1⟩ := h_four (n := n) a ⟨Y.1, t3⟩ (by omega)
    obtain ⟨σ2, e2, ρ2, g2, H2⟩ := h_four b H1 (by omega)
    obtain ⟨σ3, e3, ρ3, g3, H3⟩ := h_four c H2 (by omega)
    obtain ⟨σ4, e4, ρ4, g4, H4⟩ := h_four d H3 (by omega)
    obtain ⟨σ5, e5, ρ5, g5, H5⟩ := h_four e H4 (by omega)
    have X : f_X9_feed 0 a b c d e σ = some (σ5.1 1 1, σ5) := by
      unfold f_X9_feed; rw [t3]; simp only [c0, cc, if_true, e1, e2, e3, e4, e5, bv_s]
    have R : f_X10_feed 214 a b c d e ρ = some (ρ5.1 214 1, ρ5) := by
      unfold f_X10_feed; rw [t1, t3]; simp only [c0, cc, if_true, g1, g2, g3, g4, g5, bv_s]
    have F := cF _ X
    have G := rF _ R
    rw [X, R, wp_some, wp_some]
    obtain ⟨y1, y2, y3, y4, y5, y6⟩ := Y
    exact ⟨H5.1.1.symm, r, n', h', m', H5.1, RQ_keep y2 (ag_of G (by intro c k; omega)), RR_keep y3 (ag_of F (by intro c k; omega)) (ag_of G (by intro c k; omega)), wr_keep y4 (ag_of F (by intro c k; omega)) (ag_of G (by intro c k; omega)), RA_keep y5 (ag_of F (by intro c k; omega)) (ag_of G (by intro c k; omega)), RI_keep y6 (ag_of F (by intro c k; omega)) (ag_of G (by intro c k; omega))⟩
  · unfold f_X9_feed f_X10_feed
    rw [t1, t3]; simp only [c0, cc, if_false, wp_some]; exact ⟨trivial, H⟩
