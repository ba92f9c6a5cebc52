/-! images and back, with worlds ahead of the first HOUSE -/
theorem PW_take {r a b b1 o1 f1 k1 x1 y1 b2 o2 f2 k2 x2 y2 : Nat} {σ τ ρ υ : mm_S} (H : PW r σ b ρ b1 o1 f1 k1 x1 y1)
    (C : ((∀ k, k ≤ 4 → τ.1 (a + 1) k = σ.1 (b + 1) k) ∧ (∀ k, k < 6 → τ.1 (a + 1 + 1) k = σ.1 (b + 1 + 1) k ∧ τ.1 (a + 1 + 2) k = σ.1 (b + 1 + 2) k) ∧ ∀ k, k < 36 → τ.1 (a + 1 + 3) k = σ.1 (b + 1 + 3) k) ∧
    (τ.1 (a + 5) 0 = σ.1 (b + 5) 0 ∧ τ.1 (a + 5) 1 = σ.1 (b + 5) 1 ∧ ∀ c, 1 ≤ c → c ≤ 4 → ∀ k, k < 6 → τ.1 (a + 5 + c) k = σ.1 (b + 5 + c) k) ∧ (τ.1 (a + 10) 0 = σ.1 (b + 10) 0 ∧ ∀ c, 1 ≤ c → c ≤ 3 → ∀ k, k < 10 → τ.1 (a + 10 + c) k = σ.1 (b + 10 + c) k) ∧ τ.1 a 3 = σ.1 b 3 ∧ τ.1 a 4 = σ.1 b 4)
    (g : ∀ j, j < 121 → υ.1 b2 (o2 + j) = ρ.1 b1 (o1 + j)) (g1 : υ.1 f2 k2 = ρ.1 f1 k1) (g2 : υ.1 x2 y2 = ρ.1 x1 y1) : PW r τ a υ b2 o2 f2 k2 x2 y2 := by
  obtain ⟨w1, w2, w3, w4, w5, w6, w7, w8⟩ := H
  obtain ⟨⟨c1, c2, c3⟩, ⟨c4, c5, c6⟩, ⟨c7, -⟩, c8, c9⟩ := C
  refine ⟨fun k hk => (c1 k hk).trans (w1 k hk), fun l hl => ⟨(c2 l hl).1.trans (w2 l hl).1, (c2 l hl).2.trans (w2 l hl).2⟩, fun l hl => (c3 l hl).trans (w3 l hl), ⟨c4.trans w4.1, c5.trans w4.2.1, c7.trans w4.2.2⟩,
    fun l hl => ⟨(c6 1 (by omega) (by omega) l hl).trans (w5 l hl).1, (c6 2 (by omega) (by omega) l hl).trans (w5 l hl).2.1, (c6 3 (by omega) (by omega) l hl).trans (w5 l hl).2.2.1, (c6 4 (by omega) (by omega) l hl).trans (w5 l hl).2.2.2⟩, fun k hk => (g k hk).trans (w6 k hk), ?_, ?_⟩
  · rw [g1, c8]; exact w7
  · rw [g2, c9]; exact w8
theorem p_image (i : Int32) : RMQ (f_X9_image 0 i) (f_X10_image 214 i) := by
  intro σ ρ H
  obtain ⟨r, Y⟩ := id H
  unfold f_X9_image f_X10_image
  rcases in_cases 0 3 (by omega) (by omega) i with ⟨k, _, hk, rfl⟩ | c
  · rw [r_in1 (a := 0) (b := 3) (by omega) (by omega) hk, bd_s, if_neg (show ¬ ((1 : Int32) = 0) by decide), if_neg (n_neg (by omega)), if_pos (show Int32.ofNat k < (4 : Int32) by rw [show (4 : Int32) = Int32.ofNat 4 from rfl, n_lt (by omega) (by omega)]; omega)]
    simp (disch := omega) only [gd_n, n_idx, lt_eq, nar1]
    obtain ⟨y1, y2, y3, y4, y5, y6⟩ := id Y
    obtain ⟨τ, eτ, C, fr⟩ := x_wtake (a := 41 + 14 * k) (b := 26) σ (by omega) (Or.inl (y4.1 0 (by omega)))
    rw [eτ, bv_s, wp_some]
    have e21 : (su_i ρ 239 k 1).1 214 21 = ρ.1 214 21 := rd_ia _ _ _ _ _ _ (by decide)
    have e22 : (su_i (su_i ρ 239 k 1) 237 k (ρ.1 214 21)).1 214 22 = ρ.1 214 22 := by rw [rd_ia _ _ _ _ _ _ (by decide), rd_ia _ _ _ _ _ _ (by decide)]
    rw [e21, e22]
    generalize hυ : su_i (su_i (su_i ρ 239 k 1) 237 k (ρ.1 214 21)) 238 k (ρ.1 214 22) = υ
    obtain ⟨w, ew, w1, w2, w3, w4⟩ := r_imgcopy (k := k) υ (by omega)
    have zu : ∀ a j, ¬ (a = 239 ∧ j = k) → ¬ (a = 237 ∧ j = k) → ¬ (a = 238 ∧ j = k) → υ.1 a j = ρ.1 a j := fun a j q1 q2 q3 => by rw [← hυ, rd_ii, if_neg q3, rd_ii, if_neg q2, rd_ii, if_neg q1]
    refine ⟨w, ew, ?_, r, ?_⟩
    · rw [w1, zu _ _ (by omega) (by omega) (by omega), rd_ia _ _ _ _ _ _ (by decide), fr _ _ (by omega)]; exact y4.2.2.2.1.1.trans (by have := y4.2.2.2.2.2.1 10 (by omega); rw [Nat.zero_add] at this; exact this.symm)
    have gc : ag (fun c j => c < 41 ∨ 98 ≤ c) σ (su_i τ 97 k 1) := fun c j q => by rw [rd_ia _ _ _ _ _ _ (by omega)]; exact fr c j (by omega)
    have gr : ag (fun c j => c < 236) ρ w.2 := fun c j q => by rw [w4 _ _ (by omega)]; exact zu _ _ (by omega) (by omega) (by omega)
    refine ⟨RT_keep y1 (ag_mono gc (by intro c k; omega)) (ag_mono gr (by intro c k; omega)), RQ_keep y2 (ag_mono gr (by intro c k; omega)), RR_keep y3 (ag_mono gc (by intro c k; omega)) (ag_mono gr (by intro c k; omega)), PW_keep y4 (ag_mono gc (by intro c k; omega)) (ag_mono gr (by intro c k; omega)), PA_keep y5 (ag_mono gc (by intro c k; omega)) (ag_mono gr (by intro c k; omega)), ?_⟩
    intro k' hk'
    by_cases ck : k' = k
    · subst ck
      have q239 : w.2.1 239 k' = 1 := by rw [w4 _ _ (by decide), ← hυ, rd_ia _ _ _ _ _ _ (by decide), rd_ia _ _ _ _ _ _ (by decide), rd_is]
      refine ⟨by rw [q239, rd_is], Or.inr (rd_is _ _ _ _), fun _ => Or.inr ?_⟩
      have W := PW_take (b2 := 236) (o2 := 121 * k') (f2 := 237) (k2 := k') (x2 := 238) (y2 := k') (υ := w.2) y4 C (fun j hj => by rw [w2 j hj, zu _ _ (by omega) (by omega) (by omega), Nat.zero_add]) (by rw [w4 _ _ (by decide), ← hυ, rd_ia _ _ _ _ _ _ (by decide), rd_is]) (by rw [w4 _ _ (by decide), ← hυ, rd_is])
      exact PW_keep W (fun c j q => rd_ia _ _ _ _ _ _ (by omega)) ag_refl
    · obtain ⟨z1, z2, z3⟩ := y6 k' hk'
      have q97 : (su_i τ 97 k 1).1 97 k' = σ.1 97 k' := by rw [rd_ik _ _ _ _ _ _ ck, fr _ _ (by omega)]
      rw [q97, w4 _ _ (by decide), zu _ _ (by omega) (by omega) (by omega)]
      refine ⟨z1, z2, fun e => ?_⟩
      have kr : ag (fun c j => (c = 236 ∧ 121 * k' ≤ j ∧ j < 121 * k' + 121) ∨ (c = 237 ∧ j = k') ∨ (c = 238 ∧ j = k')) ρ w.2 := fun c j q => by
        rcases q with ⟨rfl, q1, q2⟩ | ⟨rfl, rfl⟩ | ⟨rfl, rfl⟩
        · rw [w3 _ (by omega), zu _ _ (by omega) (by omega) (by omega)]
        · rw [w4 _ _ (by decide), zu _ _ (by omega) (by omega) (by omega)]
        · rw [w4 _ _ (by decide), zu _ _ (by omega) (by omega) (by omega)]
      rcases z3 e with ⟨n', h', m', W⟩ | W
      · exact Or.inl ⟨n', h', m', wr_keep W (fun c j q => by rw [rd_ia _ _ _ _ _ _ (by omega)]; exact fr _ _ (by omega)) kr⟩
      · exact Or.inr (PW_keep W (fun c j q => by rw [rd_ia _ _ _ _ _ _ (by omega)]; exact fr _ _ (by omega)) kr)
  · rw [r_in0 (a := 0) (b := 3) (by omega) (by omega) c, bd_s, if_pos rfl, wp_swap, wp_some]
    by_cases d : i < 0
    · rw [if_pos d, wp_some]; exact ⟨rfl, H⟩
    · rw [if_neg d, if_neg (fun e => by
        have c' := c.resolve_left d
        rw [Int32.lt_iff_toInt_lt, n_int (by omega)] at c'; rw [Int32.lt_iff_toInt_lt, show (4 : Int32).toInt = 4 from by decide] at e; omega), wp_some]; exact ⟨rfl, H⟩
theorem back_g (i : Int32) {r : Nat} {σ ρ : mm_S} (y1 : RT σ ρ) (y2 : RQ ρ) (y3 : RR r σ ρ) (y5 : ∃ q, q < 20 ∧ σ.1 98 1 = Int32.ofNat q) (y6 : RI r σ ρ) (H : RZ σ ρ ∨ RP σ ρ) : wp (f_X9_back 0 i σ) (fun r => wp (f_X10_back 214 i ρ) (fun r' => r.1 = r'.1 ∧ (RZ r.2 r'.2 ∨ RP r.2 r'.2))) := by
  unfold f_X9_back f_X10_back
  rcases in_cases 0 3 (by omega) (by omega) i with ⟨k, _, hk, rfl⟩ | c
  · rw [r_in1 (a := 0) (b := 3) (by omega) (by omega) hk, bd_s, if_neg (show ¬ ((1 : Int32) = 0) by decide), if_neg (n_neg (by omega)), if_neg (show ¬ ((4 : Int32) ≤ Int32.ofNat k) by rw [show (4 : Int32) = Int32.ofNat 4 from rfl, n_le (by omega) (by omega)]; omega)]
    simp (disch := omega) only [gd_n, n_idx, lt_eq]
    obtain ⟨z1, z2, z3⟩ := y6 k (by omega)
    rw [z1]
    by_cases c0 : σ.1 97 k = 0
    · rw [if_pos c0, if_pos c0, wp_some, wp_some]; exact ⟨rfl, H⟩
    · rw [if_neg c0, if_neg c0]
      rcases z3 (z2.resolve_left c0) with ⟨n', h', m', W⟩ | W
      · obtain ⟨τ, eτ, C, fr⟩ := x_wtake (a := 26) (b := 41 + 14 * k) σ (by omega) W.1.1.2.1
        rw [eτ, bv_s]
        unfold f_X0_forget
        rw [lt_eq, bv_s, wp_some]
        have e238 : (su_i ρ 214 21 (ρ.1 237 k)).1 238 k = ρ.1 238 k := rd_ia _ _ _ _ _ _ (by decide)
        rw [e238]
        generalize hυ : su_i (su_i (su_i ρ 214 21 (ρ.1 237 k)) 214 22 (ρ.1 238 k)) 214 31 0 = υ
        obtain ⟨w, ew, w1, w2, w4⟩ := r_backcopy (k := k) υ (by omega)
        have zu : ∀ a j, ¬ (a = 214 ∧ j = 21) → ¬ (a = 214 ∧ j = 22) → ¬ (a = 214 ∧ j = 31) → υ.1 a j = ρ.1 a j := fun a j q1 q2 q3 => by rw [← hυ, rd_ii, if_neg q3, rd_ii, if_neg q2, rd_ii, if_neg q1]
        have W2 := wr_take (τ := su_i τ 98 2 0) (a := 26) (b2 := 224) (o2 := 0) (f2 := 214) (k2 := 21) (x2 := 214) (y2 := 22) (υ := w.2) W
          ⟨⟨fun k hk => by rw [rd_ia _ _ _ _ _ _ (by decide)]; exact C.1.1 k hk, fun k hk => by rw [rd_ia _ (26 + 1 + 1) _ _ _ _ (by decide), rd_ia _ (26 + 1 + 2) _ _ _ _ (by decide)]; exact C.1.2.1 k hk, fun k hk => by rw [rd_ia _ _ _ _ _ _ (by decide)]; exact C.1.2.2 k hk⟩,
          ⟨by rw [rd_ia _ _ _ _ _ _ (by decide)]; exact C.2.1.1, by rw [rd_ia _ _ _ _ _ _ (by decide)]; exact C.2.1.2.1, fun c p1 p2 k hk => by rw [rd_ia _ _ _ _ _ _ (by omega)]; exact C.2.1.2.2 c p1 p2 k hk⟩,
          ⟨by rw [rd_ia _ _ _ _ _ _ (by decide)]; exact C.2.2.1.1, fun c p1 p2 k hk => by rw [rd_ia _ _ _ _ _ _ (by omega)]; exact C.2.2.1.2 c p1 p2 k hk⟩,
          by rw [rd_ia _ _ _ _ _ _ (by decide)]; exact C.2.2.2.1, by rw [rd_ia _ _ _ _ _ _ (by decide)]; exact C.2.2.2.2⟩
          (fun j hj => by rw [Nat.zero_add, w2 j hj, zu _ _ (by omega) (by omega) (by omega)]) (by rw [w4 _ _ (by decide), ← hυ, rd_ik _ _ _ _ _ _ (by decide), rd_ik _ _ _ _ _ _ (by decide), rd_is]) (by rw [w4 _ _ (by decide), ← hυ, rd_ik _ _ _ _ _ _ (by decide), rd_is])
        refine ⟨w, ew, ?_, Or.inl ⟨r, n', h', m', ?_⟩⟩
        · have a1 := W2.2.1.2.2.1
          rw [show 0 + 10 = 10 from rfl] at a1
          have a2 : w.1 = w.2.1 224 10 := by rw [w1, w2 10 (by omega)]
          rw [a2, a1]
        have gc : ag (fun c j => c < 26 ∨ (40 ≤ c ∧ c ≠ 98)) σ (su_i τ 98 2 0) := fun c j q => by rw [rd_ia _ _ _ _ _ _ (by omega)]; exact fr c j (by omega)
        have gr : ag (fun c j => c ≠ 224 ∧ ¬ (c = 214 ∧ (j = 21 ∨ j = 22 ∨ j = 31))) ρ w.2 := fun c j q => by rw [w4 _ _ (by omega)]; exact zu _ _ (by omega) (by omega) (by omega)
        obtain ⟨q, hq, a3⟩ := y5
        refine ⟨RT_keep y1 (ag_mono gc (by intro c k; omega)) (ag_mono gr (by intro c k; omega)), RQ_keep y2 (ag_mono gr (by intro c k; omega)), RR_keep y3 (ag_mono gc (by intro c k; omega)) (ag_mono gr (by intro c k; omega)), W2, ⟨0, q, by omega, hq, rd_is _ _ _ _, by rw [w4 _ _ (by decide), ← hυ, rd_is]; rfl, by rw [rd_ik _ _ _ _ _ _ (by decide), fr _ _ (by omega)]; exact a3, fun i hi => by omega⟩, RI_keep y6 (ag_mono gc (by intro c k; omega)) (ag_mono gr (by intro c k; omega))⟩
      · obtain ⟨τ, eτ, C, fr⟩ := x_wtake (a := 26) (b := 41 + 14 * k) σ (by omega) (Or.inl (W.1 0 (by omega)))
        rw [eτ, bv_s]
        unfold f_X0_forget
        rw [lt_eq, bv_s, wp_some]
        have e238 : (su_i ρ 214 21 (ρ.1 237 k)).1 238 k = ρ.1 238 k := rd_ia _ _ _ _ _ _ (by decide)
        rw [e238]
        generalize hυ : su_i (su_i (su_i ρ 214 21 (ρ.1 237 k)) 214 22 (ρ.1 238 k)) 214 31 0 = υ
        obtain ⟨w, ew, w1, w2, w4⟩ := r_backcopy (k := k) υ (by omega)
        have zu : ∀ a j, ¬ (a = 214 ∧ j = 21) → ¬ (a = 214 ∧ j = 22) → ¬ (a = 214 ∧ j = 31) → υ.1 a j = ρ.1 a j := fun a j q1 q2 q3 => by rw [← hυ, rd_ii, if_neg q3, rd_ii, if_neg q2, rd_ii, if_neg q1]
        have W2 := PW_take (τ := su_i τ 98 2 0) (a := 26) (b2 := 224) (o2 := 0) (f2 := 214) (k2 := 21) (x2 := 214) (y2 := 22) (υ := w.2) W
          ⟨⟨fun k hk => by rw [rd_ia _ _ _ _ _ _ (by decide)]; exact C.1.1 k hk, fun k hk => by rw [rd_ia _ (26 + 1 + 1) _ _ _ _ (by decide), rd_ia _ (26 + 1 + 2) _ _ _ _ (by decide)]; exact C.1.2.1 k hk, fun k hk => by rw [rd_ia _ _ _ _ _ _ (by decide)]; exact C.1.2.2 k hk⟩,
          ⟨by rw [rd_ia _ _ _ _ _ _ (by decide)]; exact C.2.1.1, by rw [rd_ia _ _ _ _ _ _ (by decide)]; exact C.2.1.2.1, fun c p1 p2 k hk => by rw [rd_ia _ _ _ _ _ _ (by omega)]; exact C.2.1.2.2 c p1 p2 k hk⟩,
          ⟨by rw [rd_ia _ _ _ _ _ _ (by decide)]; exact C.2.2.1.1, fun c p1 p2 k hk => by rw [rd_ia _ _ _ _ _ _ (by omega)]; exact C.2.2.1.2 c p1 p2 k hk⟩,
          by rw [rd_ia _ _ _ _ _ _ (by decide)]; exact C.2.2.2.1, by rw [rd_ia _ _ _ _ _ _ (by decide)]; exact C.2.2.2.2⟩
          (fun j hj => by rw [Nat.zero_add, w2 j hj, zu _ _ (by omega) (by omega) (by omega)]) (by rw [w4 _ _ (by decide), ← hυ, rd_ik _ _ _ _ _ _ (by decide), rd_ik _ _ _ _ _ _ (by decide), rd_is]) (by rw [w4 _ _ (by decide), ← hυ, rd_ik _ _ _ _ _ _ (by decide), rd_is])
        refine ⟨w, ew, ?_, Or.inr ⟨r, ?_⟩⟩
        · have a1 : w.2.1 224 (0 + 10) = (su_i τ 98 2 0).1 (26 + 5) 0 := (W2.2.2.2.2.2.1 10 (by omega)).trans W2.2.2.2.1.1.symm
          rw [show 0 + 10 = 10 from rfl] at a1
          have a2 : w.1 = w.2.1 224 10 := by rw [w1, w2 10 (by omega)]
          rw [a2, a1]
        have gc : ag (fun c j => c < 26 ∨ (40 ≤ c ∧ c ≠ 98)) σ (su_i τ 98 2 0) := fun c j q => by rw [rd_ia _ _ _ _ _ _ (by omega)]; exact fr c j (by omega)
        have gr : ag (fun c j => c ≠ 224 ∧ ¬ (c = 214 ∧ (j = 21 ∨ j = 22 ∨ j = 31))) ρ w.2 := fun c j q => by rw [w4 _ _ (by omega)]; exact zu _ _ (by omega) (by omega) (by omega)
        obtain ⟨q, hq, a3⟩ := y5
        refine ⟨RT_keep y1 (ag_mono gc (by intro c k; omega)) (ag_mono gr (by intro c k; omega)), RQ_keep y2 (ag_mono gr (by intro c k; omega)), RR_keep y3 (ag_mono gc (by intro c k; omega)) (ag_mono gr (by intro c k; omega)), W2, ⟨rd_is _ _ _ _, by rw [w4 _ _ (by decide), ← hυ, rd_is], q, hq, by rw [rd_ik _ _ _ _ _ _ (by decide), fr _ _ (by omega)]; exact a3⟩, RI_keep y6 (ag_mono gc (by intro c k; omega)) (ag_mono gr (by intro c k; omega))⟩
  · rw [r_in0 (a := 0) (b := 3) (by omega) (by omega) c, bd_s, if_pos rfl, wp_swap, wp_some]
    by_cases d : i < 0
    · rw [if_pos d, wp_some]; exact ⟨rfl, H⟩
    · rw [if_neg d, if_pos (by
        have c' := c.resolve_left d
        rw [Int32.lt_iff_toInt_lt, n_int (by omega)] at c'; rw [Int32.le_iff_toInt_le, show (4 : Int32).toInt = 4 from by decide]; omega), wp_some]; exact ⟨rfl, H⟩
theorem m_back (i : Int32) : ∀ σ ρ, RZ σ ρ → wp (f_X9_back 0 i σ) (fun r => wp (f_X10_back 214 i ρ) (fun r' => r.1 = r'.1 ∧ (RZ r.2 r'.2 ∨ RP r.2 r'.2))) := by
  intro σ ρ H
  obtain ⟨r, n, h, m, y1, y2, y3, -, ⟨M, q, -, hq, -, -, a3, -⟩, y6⟩ := id H
  exact back_g i y1 y2 y3 ⟨q, hq, a3⟩ y6 (Or.inl H)
theorem p_back (i : Int32) : RMP (f_X9_back 0 i) (f_X10_back 214 i) := by
  intro σ ρ H
  obtain ⟨r, y1, y2, y3, -, ⟨-, -, q, hq, a3⟩, y6⟩ := id H
  exact back_g i y1 y2 y3 ⟨q, hq, a3⟩ y6 (Or.inr H)
theorem p_count (i : Int32) : RMQ (f_X9_count 0 i) (f_X10_count 214 i) := by
  intro σ ρ H
  obtain ⟨r, ht, _, ⟨hr6, hr1, hr2, _⟩, ⟨w1, w2, w3, w4, w5, w6, w7, w8⟩, ⟨a1, a2, _⟩, _⟩ := id H
  have z : ∀ k, k < 121 → ρ.1 224 k = 0 := fun k hk => by have := w6 k hk; rw [Nat.zero_add] at this; exact this
  have e2 : ρ.1 224 3 = Int32.ofNat 0 := z 3 (by omega)
  have hn : (0 : Nat) ≤ 6 := by omega
  unfold f_X9_count f_X10_count
  rcases in_cases 0 13 (by omega) (by omega) i with ⟨w, _, hw, rfl⟩ | c
  · rcases (by omega : w = 0 ∨ w = 1 ∨ w = 2 ∨ w = 3 ∨ w = 4 ∨ w = 5 ∨ w = 6 ∨ w = 7 ∨ w = 8 ∨ w = 9 ∨ w = 10 ∨ w = 11 ∨ w = 12 ∨ w = 13) with rfl | rfl | rfl | rfl | rfl | rfl | rfl | rfl | rfl | rfl | rfl | rfl | rfl | rfl
    · simp (disch := omega) only [n_lit, gd_n, n_idx, n_mul, n_add, n_addI, n_lt, n_le, n_eq, n_sub, lt_eq, bd_s, bv_s, wp_some, if_true, if_false, reduceIte, Nat.reduceEqDiff, Nat.reduceLeDiff, Nat.reduceAdd, Nat.reduceMul, Nat.reduceSub, reduceCtorEq, not_false_eq_true, not_true_eq_false]; exact ⟨(w1 1 (by omega)).trans (z 1 (by omega)).symm, H⟩
    · simp (disch := omega) only [n_lit, gd_n, n_idx, n_mul, n_add, n_addI, n_lt, n_le, n_eq, n_sub, lt_eq, bd_s, bv_s, wp_some, if_true, if_false, reduceIte, Nat.reduceEqDiff, Nat.reduceLeDiff, Nat.reduceAdd, Nat.reduceMul, Nat.reduceSub, reduceCtorEq, not_false_eq_true, not_true_eq_false]; exact ⟨(w1 2 (by omega)).trans (z 2 (by omega)).symm, H⟩
    · simp (disch := omega) only [n_lit, gd_n, n_idx, n_mul, n_add, n_addI, n_lt, n_le, n_eq, n_sub, lt_eq, bd_s, bv_s, wp_some, if_true, if_false, reduceIte, Nat.reduceEqDiff, Nat.reduceLeDiff, Nat.reduceAdd, Nat.reduceMul, Nat.reduceSub, reduceCtorEq, not_false_eq_true, not_true_eq_false]; exact ⟨(w1 3 (by omega)).trans (z 3 (by omega)).symm, H⟩
    · simp (disch := omega) only [n_lit, gd_n, n_idx, n_mul, n_add, n_addI, n_lt, n_le, n_eq, n_sub, lt_eq, bd_s, bv_s, wp_some, if_true, if_false, reduceIte, Nat.reduceEqDiff, Nat.reduceLeDiff, Nat.reduceAdd, Nat.reduceMul, Nat.reduceSub, reduceCtorEq, not_false_eq_true, not_true_eq_false]; exact ⟨hr1.trans hr2.symm, H⟩
    · simp (disch := omega) only [n_lit, gd_n, n_idx, n_mul, n_add, n_addI, n_lt, n_le, n_eq, n_sub, lt_eq, bd_s, bv_s, wp_some, if_true, if_false, reduceIte, Nat.reduceEqDiff, Nat.reduceLeDiff, Nat.reduceAdd, Nat.reduceMul, Nat.reduceSub, reduceCtorEq, not_false_eq_true, not_true_eq_false]; exact ⟨w7.1.symm, H⟩
    · simp (disch := omega) only [n_lit, gd_n, n_idx, n_mul, n_add, n_addI, n_lt, n_le, n_eq, n_sub, lt_eq, bd_s, bv_s, wp_some, if_true, if_false, reduceIte, Nat.reduceEqDiff, Nat.reduceLeDiff, Nat.reduceAdd, Nat.reduceMul, Nat.reduceSub, reduceCtorEq, not_false_eq_true, not_true_eq_false]; exact ⟨w4.1.trans (z 10 (by omega)).symm, H⟩
    · rw [r_inside (n := 0) (i := 0) ρ e2 hn (by omega) (fun l hl => by omega)]
      simp (disch := omega) only [n_lit, gd_n, n_idx, n_mul, n_add, n_addI, n_lt, n_le, n_eq, n_sub, lt_eq, bd_s, bv_s, wp_some, if_true, if_false, reduceIte, Nat.reduceEqDiff, Nat.reduceLeDiff, Nat.reduceAdd, Nat.reduceMul, Nat.reduceSub, reduceCtorEq, not_false_eq_true, not_true_eq_false]; exact ⟨w4.2.1, H⟩
    · rw [x_ct, r_isCounted]
      have : ct (ρ.1 224 89) (ρ.1 224 10) = ct (σ.1 (26 + 1) 4) (σ.1 (26 + 5) 0) := by rw [z 89 (by omega), z 10 (by omega), w1 4 (by omega), w4.1]
      simp (disch := omega) only [n_lit, gd_n, n_idx, n_mul, n_add, n_addI, n_lt, n_le, n_eq, n_sub, lt_eq, bd_s, bv_s, wp_some, if_true, if_false, reduceIte, Nat.reduceEqDiff, Nat.reduceLeDiff, Nat.reduceAdd, Nat.reduceMul, Nat.reduceSub, reduceCtorEq, not_false_eq_true, not_true_eq_false, this]
      rcases ct_01 (σ.1 (26 + 1) 4) (σ.1 (26 + 5) 0) with b | b
      · rw [b, if_pos (show (0 : Int32) = Int32.ofNat 0 from rfl), wp_some, if_pos (show (0 : Int32) = Int32.ofNat 0 from rfl), wp_some]; exact ⟨rfl, H⟩
      · rw [b, if_neg (by decide), wp_some, if_neg (by decide), wp_some]; exact ⟨rfl, H⟩
    · rw [x_sum σ (show (mm_K (26 + 5 + 1)).2 = 6 by decide +kernel), r_tiredAll ρ e2 hn]
      simp (disch := omega) only [n_lit, gd_n, n_idx, n_mul, n_add, n_addI, n_lt, n_le, n_eq, n_sub, lt_eq, bd_s, bv_s, wp_some, if_true, if_false, reduceIte, Nat.reduceEqDiff, Nat.reduceLeDiff, Nat.reduceAdd, Nat.reduceMul, Nat.reduceSub, reduceCtorEq, not_false_eq_true, not_true_eq_false]
      refine ⟨?_, H⟩
      rw [show (6 : Nat) = 0 + 6 by omega, sm_zero (n := 0) 6 (fun l h1 h2 => (w5 l (by omega)).1)]
      rfl
    · rw [x_sum σ (show (mm_K (26 + 5 + 4)).2 = 6 by decide +kernel), r_sleptAll ρ e2 hn]
      simp (disch := omega) only [n_lit, gd_n, n_idx, n_mul, n_add, n_addI, n_lt, n_le, n_eq, n_sub, lt_eq, bd_s, bv_s, wp_some, if_true, if_false, reduceIte, Nat.reduceEqDiff, Nat.reduceLeDiff, Nat.reduceAdd, Nat.reduceMul, Nat.reduceSub, reduceCtorEq, not_false_eq_true, not_true_eq_false]
      refine ⟨?_, H⟩
      rw [show (6 : Nat) = 0 + 6 by omega, sm_zero (n := 0) 6 (fun l h1 h2 => (w5 l (by omega)).2.2.2)]
      rfl
    · simp (disch := omega) only [n_lit, gd_n, n_idx, n_mul, n_add, n_addI, n_lt, n_le, n_eq, n_sub, lt_eq, bd_s, bv_s, wp_some, if_true, if_false, reduceIte, Nat.reduceEqDiff, Nat.reduceLeDiff, Nat.reduceAdd, Nat.reduceMul, Nat.reduceSub, reduceCtorEq, not_false_eq_true, not_true_eq_false]; exact ⟨w4.2.2.trans (z 120 (by omega)).symm, H⟩
    · simp (disch := omega) only [n_lit, gd_n, n_idx, n_mul, n_add, n_addI, n_lt, n_le, n_eq, n_sub, lt_eq, bd_s, bv_s, wp_some, if_true, if_false, reduceIte, Nat.reduceEqDiff, Nat.reduceLeDiff, Nat.reduceAdd, Nat.reduceMul, Nat.reduceSub, reduceCtorEq, not_false_eq_true, not_true_eq_false]; exact ⟨a1.trans a2.symm, H⟩
    · simp (disch := omega) only [n_lit, gd_n, n_idx, n_mul, n_add, n_addI, n_lt, n_le, n_eq, n_sub, lt_eq, bd_s, bv_s, wp_some, if_true, if_false, reduceIte, Nat.reduceEqDiff, Nat.reduceLeDiff, Nat.reduceAdd, Nat.reduceMul, Nat.reduceSub, reduceCtorEq, not_false_eq_true, not_true_eq_false]; exact ⟨w8.1.symm, H⟩
    · simp (disch := omega) only [n_lit, gd_n, n_idx, n_mul, n_add, n_addI, n_lt, n_le, n_eq, n_sub, lt_eq, bd_s, bv_s, wp_some, if_true, if_false, reduceIte, Nat.reduceEqDiff, Nat.reduceLeDiff, Nat.reduceAdd, Nat.reduceMul, Nat.reduceSub, reduceCtorEq, not_false_eq_true, not_true_eq_false]; exact ⟨ht.1.symm, H⟩
  · have d : ∀ k, k ≤ 13 → (i = Int32.ofNat k) = False := fun k hk => in_ne (by omega) (by omega) c (by omega) hk
    simp (disch := omega) only [n_lit, gd_n, n_idx, n_mul, n_add, n_addI, n_lt, n_le, n_eq, n_sub, lt_eq, bd_s, bv_s, wp_some, if_true, if_false, reduceIte, Nat.reduceEqDiff, Nat.reduceLeDiff, Nat.reduceAdd, Nat.reduceMul, Nat.reduceSub, reduceCtorEq, not_false_eq_true, not_true_eq_false, d 0 (by omega), d 1 (by omega), d 2 (by omega), d 3 (by omega), d 4 (by omega), d 5 (by omega), d 6 (by omega), d 7 (by omega), d 8 (by omega), d 9 (by omega), d 10 (by omega), d 11 (by omega), d 12 (by omega), d 13 (by omega)]
    exact ⟨trivial, H⟩
