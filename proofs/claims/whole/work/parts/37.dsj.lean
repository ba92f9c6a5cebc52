/-! the calls ahead of the first HOUSE -/
def RMP (x : mm_S → Option (Int32 × mm_S)) (y : mm_S → Option (Int32 × mm_S)) : Prop := ∀ σ ρ, RP σ ρ → wp (x σ) (fun r => wp (y ρ) (fun r' => r.1 = r'.1 ∧ (RZ r.2 r'.2 ∨ RP r.2 r'.2)))
def RMQ (x : mm_S → Option (Int32 × mm_S)) (y : mm_S → Option (Int32 × mm_S)) : Prop := ∀ σ ρ, RP σ ρ → wp (x σ) (fun r => wp (y ρ) (fun r' => r.1 = r'.1 ∧ RP r.2 r'.2))
theorem RMQ_P {x y : mm_S → Option (Int32 × mm_S)} (h : RMQ x y) : RMP x y := fun σ ρ H => wp_mono (h σ ρ H) (fun _ q => wp_mono q (fun _ q => ⟨q.1, Or.inr q.2⟩))
theorem PA_keep {σ τ ρ υ : mm_S} (H : PA σ ρ) (g : ag (fun c k => (c = 98 ∧ (k = 1 ∨ k = 2)) ∨ (100 ≤ c ∧ c ≤ 199)) σ τ) (g' : ag (fun c k => (c = 214 ∧ k = 31) ∨ c = 228) ρ υ) : PA τ υ := by
  obtain ⟨h1, h2, q, hq, h3⟩ := H
  exact ⟨(g _ _ (by omega)).trans h1, (g' _ _ (by omega)).trans h2, q, hq, (g _ _ (by omega)).trans h3⟩
theorem no_l (i : Int32) : i < 0 ∨ Int32.ofNat 0 ≤ i := by
  rw [Int32.lt_iff_toInt_lt, Int32.le_iff_toInt_le, show (Int32.ofNat 0).toInt = 0 by decide, show (0 : Int32).toInt = 0 by decide]; omega
theorem pre_f {σ ρ : mm_S} (H : RP σ ρ) : σ.1 (26 + 1) 0 = 0 ∧ (∀ i, f_X9_isLodger 0 i σ = some (0, σ)) ∧ (∀ i j, f_X9_areUnlike 0 i j σ = some (0, σ)) ∧ f_X10_isHouse 214 ρ = some (0, ρ) ∧ (∀ i, f_X10_isLodger 214 i ρ = some (0, ρ)) ∧ (∀ i j, f_X10_areTwo 214 i j ρ = some (0, ρ)) := by
  obtain ⟨r, -, -, -, ⟨w1, -, -, -, -, w6, -, -⟩, -, -⟩ := H
  have s3 : σ.1 27 3 = Int32.ofNat 0 := w1 3 (by omega)
  have r3 : ρ.1 224 3 = Int32.ofNat 0 := by have := w6 3 (by omega); rw [Nat.zero_add] at this; exact this
  have r0 : ρ.1 224 0 = 0 := w6 0 (by omega)
  exact ⟨w1 0 (by omega), fun i => x_isl0 s3 (no_l i), fun i j => x_two0 s3 (by omega) (Or.inl (no_l i)), r_isHouse0 r0, fun i => r_isl0 r3 (no_l i), fun i j => r_two0 r3 (by omega) (Or.inl (no_l i))⟩
theorem p_hour : RMQ (f_X9_hour 0) (f_X10_hour 214) := by
  intro σ ρ H
  obtain ⟨s0, xl, xt, ih, rl, rt⟩ := pre_f H
  unfold f_X9_hour f_X10_hour
  rw [if_pos s0, wp_some, ih, bd_s, if_pos rfl, wp_some]; exact ⟨rfl, H⟩
theorem p_lonely : RMQ (f_X9_lonely 0) (f_X10_lonely 214) := by
  intro σ ρ H
  obtain ⟨s0, xl, xt, ih, rl, rt⟩ := pre_f H
  unfold f_X9_lonely f_X10_lonely
  rw [if_pos s0, wp_some, ih, bd_s, if_pos rfl, wp_some]; exact ⟨rfl, H⟩
theorem p_bestRow (i : Int32) : RMQ (f_X9_bestRow 0 i) (f_X10_bestRow 214 i) := by
  intro σ ρ H
  obtain ⟨s0, xl, xt, ih, rl, rt⟩ := pre_f H
  unfold f_X9_bestRow f_X10_bestRow
  rw [if_pos s0, wp_some, ih, bd_s, if_pos rfl, wp_some]; exact ⟨rfl, H⟩
theorem p_torches (i : Int32) : RMQ (f_X9_torches 0 i) (f_X10_torches 214 i) := by
  intro σ ρ H
  obtain ⟨s0, xl, xt, ih, rl, rt⟩ := pre_f H
  unfold f_X9_torches f_X10_torches
  rw [if_pos s0, wp_some, ih, bd_s, if_pos rfl, wp_some]; exact ⟨rfl, H⟩
theorem p_out (i j : Int32) : RMQ (f_X9_out 0 i j) (f_X10_out 214 i j) := by
  intro σ ρ H
  obtain ⟨s0, xl, xt, ih, rl, rt⟩ := pre_f H
  unfold f_X9_out f_X10_out
  rw [if_pos s0, wp_some, ih, bd_s, if_pos rfl, wp_some]; exact ⟨rfl, H⟩
theorem p_sleeps (i j : Int32) : RMQ (f_X9_sleeps 0 i j) (f_X10_sleeps 214 i j) := by
  intro σ ρ H
  obtain ⟨s0, xl, xt, ih, rl, rt⟩ := pre_f H
  unfold f_X9_sleeps f_X10_sleeps
  rw [if_pos s0, wp_some, ih, bd_s, if_pos rfl, wp_some]; exact ⟨rfl, H⟩
theorem p_ring (i : Int32) : RMQ (f_X9_ring 0 i) (f_X10_ring 214 i) := by
  intro σ ρ H
  obtain ⟨s0, xl, xt, ih, rl, rt⟩ := pre_f H
  unfold f_X9_ring f_X10_ring
  rw [if_pos s0, wp_some, ih, bd_s, if_pos rfl, wp_some]; exact ⟨rfl, H⟩
theorem p_stays (i : Int32) : RMQ (f_X9_stays 0 i) (f_X10_stays 214 i) := by
  intro σ ρ H
  obtain ⟨s0, xl, xt, ih, rl, rt⟩ := pre_f H
  unfold f_X9_stays f_X10_stays
  rw [if_pos s0, wp_some, ih, bd_s, if_pos rfl, wp_some]; exact ⟨rfl, H⟩
theorem p_ruled (i : Int32) : RMQ (f_X9_ruled 0 i) (f_X10_ruled 214 i) := by
  intro σ ρ H
  obtain ⟨s0, xl, xt, ih, rl, rt⟩ := pre_f H
  unfold f_X9_ruled f_X10_ruled
  rw [if_pos s0, wp_some, ih, bd_s, if_pos rfl, wp_some]; exact ⟨rfl, H⟩
theorem p_look (i : Int32) : RMQ (f_X9_look 0 i) (f_X10_look 214 i) := by
  intro σ ρ H
  obtain ⟨s0, xl, xt, ih, rl, rt⟩ := pre_f H
  unfold f_X9_look f_X10_look
  rw [if_pos s0, wp_some, ih, bd_s, if_pos rfl, wp_some]; exact ⟨rfl, H⟩
theorem p_strangers (i j k z : Int32) : RMQ (f_X9_strangers 0 i j k z) (f_X10_strangers 214 i j k z) := by
  intro σ ρ H
  obtain ⟨s0, xl, xt, ih, rl, rt⟩ := pre_f H
  unfold f_X9_strangers f_X10_strangers
  rw [if_pos s0, wp_some, ih, bd_s, if_pos rfl, wp_some]; exact ⟨rfl, H⟩
theorem p_lodger (i j : Int32) : RMQ (f_X9_lodger 0 i j) (f_X10_lodger 214 i j) := by
  intro σ ρ H
  obtain ⟨s0, xl, xt, ih, rl, rt⟩ := pre_f H
  unfold f_X9_lodger f_X10_lodger
  rw [xl, bd_s, if_pos rfl, wp_some, rl, bd_s, if_pos rfl, wp_some]; exact ⟨rfl, H⟩
theorem p_dear (i j : Int32) : RMQ (f_X9_dear 0 i j) (f_X10_dear 214 i j) := by
  intro σ ρ H
  obtain ⟨s0, xl, xt, ih, rl, rt⟩ := pre_f H
  unfold f_X9_dear f_X10_dear
  rw [xt, bd_s, if_pos rfl, wp_some, rt, bd_s, if_pos rfl, wp_some]; exact ⟨rfl, H⟩
theorem p_bid (i j : Int32) : RMQ (f_X9_bid 0 i j) (f_X10_bid 214 i j) := by
  intro σ ρ H
  obtain ⟨s0, xl, xt, ih, rl, rt⟩ := pre_f H
  unfold f_X9_bid f_X10_bid
  rw [xl, bd_s, if_pos rfl, wp_some, rl, bd_s, if_pos rfl, wp_some]; exact ⟨rfl, H⟩
theorem p_call (i : Int32) : RMQ (f_X9_call 0 i) (f_X10_call 214 i) := by
  intro σ ρ H
  obtain ⟨s0, xl, xt, ih, rl, rt⟩ := pre_f H
  unfold f_X9_call f_X10_call
  rw [xl, bd_s, if_pos rfl, wp_some, rl, bd_s, if_pos rfl, wp_some]; exact ⟨rfl, H⟩
theorem p_pay (i j k : Int32) : RMQ (f_X9_pay 0 i j k) (f_X10_pay 214 i j k) := by
  intro σ ρ H
  obtain ⟨s0, xl, xt, ih, rl, rt⟩ := pre_f H
  unfold f_X9_pay f_X10_pay
  rw [xt, bd_s, if_pos rfl, wp_some, rt, bd_s, if_pos rfl, wp_some]; exact ⟨rfl, H⟩
theorem p_tire (i j : Int32) : RMQ (f_X9_tire 0 i j) (f_X10_tire 214 i j) := by
  intro σ ρ H
  obtain ⟨s0, xl, xt, ih, rl, rt⟩ := pre_f H
  unfold f_X9_tire f_X10_tire
  rw [xl, bd_s, if_pos rfl, wp_some, rl, bd_s, if_pos rfl, wp_some]; exact ⟨rfl, H⟩
theorem p_ahead (i j k : Int32) : RMQ (f_X9_ahead 0 i j k) (f_X10_ahead 214 i j k) := by
  intro σ ρ H
  obtain ⟨s0, xl, xt, ih, rl, rt⟩ := pre_f H
  unfold f_X9_ahead f_X10_ahead
  rw [xl, bd_s, if_pos rfl, wp_some, rl, bd_s, if_pos rfl, wp_some]; exact ⟨rfl, H⟩
theorem p_rested (i : Int32) : RMQ (f_X9_rested 0 i) (f_X10_rested 214 i) := by
  intro σ ρ H
  obtain ⟨s0, xl, xt, ih, rl, rt⟩ := pre_f H
  unfold f_X9_rested f_X10_rested
  rw [xl, bd_s, if_pos rfl, wp_some, rl, bd_s, if_pos rfl, wp_some]; exact ⟨rfl, H⟩
theorem p_chain (i j : Int32) : RMQ (f_X9_chain 0 i j) (f_X10_chain 214 i j) := by
  intro σ ρ H
  obtain ⟨s0, xl, xt, ih, rl, rt⟩ := pre_f H
  unfold f_X9_chain f_X10_chain
  rw [xl, bd_s, if_pos rfl, wp_some, rl, bd_s, if_pos rfl, wp_some]; exact ⟨rfl, H⟩
theorem p_forOne (i j k z : Int32) : RMQ (f_X9_forOne 0 i j k z) (f_X10_forOne 214 i j k z) := by
  intro σ ρ H
  obtain ⟨s0, xl, xt, ih, rl, rt⟩ := pre_f H
  unfold f_X9_forOne f_X10_forOne
  rw [xt, bd_s, if_pos rfl, wp_some, rt, bd_s, if_pos rfl, wp_some]; exact ⟨rfl, H⟩
theorem p_pennies (i j : Int32) : RMQ (f_X9_pennies 0 i j) (f_X10_pennies 214 i j) := by
  intro σ ρ H
  obtain ⟨s0, xl, xt, ih, rl, rt⟩ := pre_f H
  unfold f_X9_pennies f_X10_pennies
  rw [xl, bd_s, if_pos rfl, wp_some, rl, bd_s, if_pos rfl, wp_some]; exact ⟨rfl, H⟩
theorem p_rests (i j k z : Int32) : RMQ (f_X9_rests 0 i j k z) (f_X10_rests 214 i j k z) := by
  intro σ ρ H
  obtain ⟨s0, xl, xt, ih, rl, rt⟩ := pre_f H
  unfold f_X9_rests f_X10_rests
  rw [xt, bd_s, if_pos rfl, wp_some, rt, bd_s, if_pos rfl, wp_some]; exact ⟨rfl, H⟩
theorem p_undo : RMQ (f_X9_undo 0) (f_X10_undo 214) := by
  intro σ ρ H
  obtain ⟨r, -, -, -, -, ⟨h1, h2, -⟩, -⟩ := id H
  unfold f_X9_undo f_X10_undo
  rw [h1, if_neg (by decide), wp_some, h2, if_pos rfl, wp_some]; exact ⟨rfl, H⟩
theorem p_note (i j k : Int32) : RMQ (f_X9_note 0 i j k) (f_X10_note 214 i j k) := by
  intro σ ρ H
  obtain ⟨s0, xl, xt, ih, rl, rt⟩ := pre_f H
  obtain ⟨r, ht, hq, hr, ⟨w1, w2, w3, w4, w5, w6, w7, w8⟩, ha, hi⟩ := id H
  unfold f_X9_note f_X10_note
  by_cases c : i = -1
  · have e1 : su_i σ (26 + 10) 0 0 = σ := su_self w4.2.2
    have e2 : su_i ρ 224 120 0 = ρ := su_self (by have := w6 120 (by omega); rw [Nat.zero_add] at this; exact this)
    rw [if_pos c, if_pos c, lt_eq, e1, wp_some, show (120 : Int32) = Int32.ofNat 120 from rfl, gd_n (by omega) (by omega), n_idx (by omega), lt_eq, e2, wp_some]; exact ⟨rfl, H⟩
  · rw [if_neg c, if_neg c]
    rw [xl, bd_s, if_pos rfl, ite_self, ite_self, wp_some]
    rcases in_cases 0 60 (by omega) (by omega) i with ⟨w, h1, h2, rfl⟩ | c2
    · rw [r_in1 (a := 0) (b := 60) (by omega) h1 h2, bd_s, if_neg (show ¬ ((1 : Int32) = 0) by decide), rl, bd_s, if_pos rfl, wp_some]; exact ⟨rfl, H⟩
    · rw [r_in0 (a := 0) (b := 60) (by omega) (by omega) c2, bd_s, if_pos rfl, wp_some]; exact ⟨rfl, H⟩
theorem p_end (i : Int32) : RMQ (f_X9_end 0 i) (f_X10_end 214 i) := by
  intro σ ρ H
  obtain ⟨r, ⟨t1, ⟨n, t2, t3⟩, t4, t5⟩, hq, hr, hw, ha, hi⟩ := id H
  unfold f_X9_end f_X10_end
  by_cases c1 : i < 0
  · simp only [c1, if_true, wp_some, true_and]; exact H
  · by_cases c2 : i ≤ σ.1 1 1
    · simp only [c1, c2, t1, if_true, if_false, wp_some, wp_lt, true_and]
      refine ⟨r, ⟨?_, ?_, fun k => t4 k, fun k => t5 k⟩, RQ_keep hq (ag_i (by intro a k; omega)), RR_keep hr (ag_i (by intro a k; omega)) (ag_i (by intro a k; omega)), PW_keep hw (ag_i (by intro a k; omega)) (ag_i (by intro a k; omega)), PA_keep ha (ag_i (by intro a k; omega)) (ag_i (by intro a k; omega)), RI_keep hi (ag_i (by intro a k; omega)) (ag_i (by intro a k; omega))⟩
      · rw [rd_is, rd_is]
      · rw [t3, Int32.le_iff_toInt_le, n_int (by omega)] at c2
        rw [show (0 : Int32) = Int32.ofNat 0 from rfl, Int32.lt_iff_toInt_lt, n_int (by omega)] at c1
        refine ⟨i.toInt.toNat, by omega, ?_⟩
        rw [rd_is, ← Int32.toInt_inj, n_int (by omega)]; omega
    · simp only [c1, c2, t1, if_false, wp_some, true_and]; exact H
theorem RP_fx {σ ρ : mm_S} {r : Nat} {y z : Int32} (H : RT σ ρ ∧ RQ ρ ∧ RR r σ ρ ∧ PW r σ 26 ρ 224 0 214 21 214 22 ∧ PA σ ρ ∧ RI r σ ρ) (hf : y = -1 ∨ ∃ f, f < r ∧ y = Int32.ofNat f) (hz : ¬ z < 0) : RP (su_i (su_i σ 26 3 y) 26 4 z) (su_i (su_i ρ 214 21 y) 214 22 z) := by
  obtain ⟨ht, hq, hr, ⟨w1, w2, w3, w4, w5, w6, w7, w8⟩, ha, hi⟩ := H
  have g : ag (fun c k => c ≠ 26) σ (su_i (su_i σ 26 3 y) 26 4 z) := fun c k q => by rw [rd_ia _ _ _ _ _ _ q, rd_ia _ _ _ _ _ _ q]
  have g' : ag (fun c k => ¬ (c = 214 ∧ (k = 21 ∨ k = 22))) ρ (su_i (su_i ρ 214 21 y) 214 22 z) := fun c k q => by rw [rd_ii, if_neg (by omega), rd_ii, if_neg (by omega)]
  refine ⟨r, RT_keep ht (ag_mono g (by intro c k; omega)) (ag_mono g' (by intro c k; omega)), RQ_keep hq (ag_mono g' (by intro c k; omega)), RR_keep hr (ag_mono g (by intro c k; omega)) (ag_mono g' (by intro c k; omega)), ⟨fun k hk => (g _ _ (by omega)).trans (w1 k hk), fun l hl => ⟨(g _ _ (by omega)).trans (w2 l hl).1, (g _ _ (by omega)).trans (w2 l hl).2⟩, fun l hl => (g _ _ (by omega)).trans (w3 l hl), ⟨(g _ _ (by omega)).trans w4.1, (g _ _ (by omega)).trans w4.2.1, (g _ _ (by omega)).trans w4.2.2⟩,
    fun l hl => ⟨(g _ _ (by omega)).trans (w5 l hl).1, (g _ _ (by omega)).trans (w5 l hl).2.1, (g _ _ (by omega)).trans (w5 l hl).2.2.1, (g _ _ (by omega)).trans (w5 l hl).2.2.2⟩, fun k hk => (g' _ _ (by omega)).trans (w6 k hk), ⟨?_, ?_⟩, ?_, ?_⟩, PA_keep ha (ag_mono g (by intro c k; omega)) (ag_mono g' (by intro c k; omega)), RI_keep hi (ag_mono g (by intro c k; omega)) (ag_mono g' (by intro c k; omega))⟩
  · rw [rd_ik _ _ _ _ _ _ (by decide), rd_is, rd_ik _ _ _ _ _ _ (by decide), rd_is]
  · rw [rd_ik _ _ _ _ _ _ (by decide), rd_is]; exact hf
  · rw [rd_is, rd_is]
  · rw [rd_is]; exact hz
theorem p_seed (i : Int32) : RMQ (f_X9_seed 0 i) (f_X10_seed 214 i) := by
  intro σ ρ H
  obtain ⟨r, Y⟩ := id H
  obtain ⟨-, -, -, ⟨-, -, -, -, -, -, w7, w8⟩, -, -⟩ := id Y
  unfold f_X9_seed f_X10_seed
  by_cases c1 : 0 ≤ i
  · simp only [c1, if_true, wp_some, wp_lt]
    have h := RP_fx (y := σ.1 26 3) (z := i) Y w7.2 (by rw [Int32.not_lt]; exact c1)
    rw [su_self (show σ.1 26 3 = σ.1 26 3 from rfl), su_self (show ρ.1 214 21 = σ.1 26 3 from w7.1)] at h
    exact ⟨w8.1.symm, h⟩
  · simp only [c1, if_false, wp_some, true_and]; exact H
theorem RP_force {σ ρ : mm_S} {r : Nat} {i : Int32} (Y : RT σ ρ ∧ RQ ρ ∧ RR r σ ρ ∧ PW r σ 26 ρ 224 0 214 21 214 22 ∧ PA σ ρ ∧ RI r σ ρ) (hf : i = -1 ∨ ∃ f, f < r ∧ i = Int32.ofNat f) : RP (su_i σ 26 3 i) (su_i ρ 214 21 i) := by
  obtain ⟨-, -, -, ⟨-, -, -, -, -, -, -, w8⟩, -, -⟩ := id Y
  have h := RP_fx (y := i) (z := σ.1 26 4) Y hf w8.2
  rw [su_self (σ := su_i σ 26 3 i) (rd_ik _ _ _ _ _ _ (by decide)), su_self (σ := su_i ρ 214 21 i) ((rd_ik _ _ _ _ _ _ (by decide)).trans w8.1)] at h
  exact h
theorem p_force (i : Int32) : RMQ (f_X9_force 0 i) (f_X10_force 214 i) := by
  intro σ ρ H
  obtain ⟨r, Y⟩ := id H
  obtain ⟨_, _, ⟨hr6, hr1, hr2, _⟩, ⟨_, _, _, _, _, _, w4, _⟩, _⟩ := id Y
  unfold f_X9_force f_X10_force f_X10_isRule f_X10_force_16
  rw [hr1, hr2]
  by_cases c : i = -1
  · subst c
    rw [if_neg (by decide), if_pos (show (-1 : Int32) < Int32.ofNat r by rw [Int32.lt_iff_toInt_lt, n_int (by omega)]; exact Int.lt_of_lt_of_le (by decide) (Int.natCast_nonneg r)), if_pos rfl]
    simp (disch := omega) only [n_lit, gd_n, n_idx, n_mul, n_add, n_addI, n_lt, n_le, n_eq, n_sub, lt_eq, bd_s, bv_s, wp_some, if_true, if_false, reduceIte, Nat.reduceEqDiff, Nat.reduceLeDiff, Nat.reduceAdd, Nat.reduceMul, Nat.reduceSub, reduceCtorEq, not_false_eq_true, not_true_eq_false]
    exact ⟨w4.1.symm, RP_force Y (Or.inl rfl)⟩
  · rcases isl_cases (n := r) (by omega) i with ⟨f, hf, rfl⟩ | c2
    · rw [if_neg (by rw [n_lt1 (by omega)]; exact id), if_pos (by rw [n_lt (by omega) (by omega)]; exact hf), if_neg (by rw [n_ne1 (by omega)]; exact id), if_neg (n_neg (by omega)), if_neg (by rw [n_le (by omega) (by omega)]; omega)]
      simp (disch := omega) only [n_lit, gd_n, n_idx, n_mul, n_add, n_addI, n_lt, n_le, n_eq, n_sub, lt_eq, bd_s, bv_s, wp_some, if_true, if_false, reduceIte, Nat.reduceEqDiff, Nat.reduceLeDiff, Nat.reduceAdd, Nat.reduceMul, Nat.reduceSub, reduceCtorEq, not_false_eq_true, not_true_eq_false]
      exact ⟨w4.1.symm, RP_force Y (Or.inr ⟨f, hf, rfl⟩)⟩
    · have e1 : ¬ i < -1 → ¬ i < Int32.ofNat r := by
        intro q1 q2
        rw [Int32.lt_iff_toInt_lt] at q1 q2; rw [← Int32.toInt_inj] at c
        rw [n_int (by omega)] at q2
        rw [Int32.lt_iff_toInt_lt, Int32.le_iff_toInt_le, n_int (by omega)] at c2
        rw [show (-1 : Int32).toInt = -1 from by decide] at q1 c
        rw [show (0 : Int32).toInt = 0 from by decide] at c2
        omega
      have e2 : (if i < 0 then some ((0 : Int32), ρ) else if Int32.ofNat r ≤ i then some (0, ρ) else some (1, ρ)) = some (0, ρ) := by
        by_cases d : i < 0
        · rw [if_pos d]
        · rw [if_neg d, if_pos (c2.resolve_left d)]
      rw [e2, if_neg c, bd_s, if_pos rfl]
      by_cases d : i < -1
      · rw [if_pos d, wp_some, wp_some]; exact ⟨rfl, H⟩
      · rw [if_neg d, if_neg (e1 d), wp_some, wp_some]; exact ⟨rfl, H⟩
theorem p_feed (a b c d e : Int32) : RMQ (f_X9_feed 0 a b c d e) (f_X10_feed 214 a b c d e) := by
  intro σ ρ H
  obtain ⟨r, Y⟩ := id H
  obtain ⟨t1, ⟨n, t2, t3⟩, t4, t5⟩ := id Y.1
  have c0 : (Int32.ofNat n + (20 : Int32) ≤ (400 : Int32)) = (n + 20 ≤ 400) := by
    rw [show (20 : Int32) = Int32.ofNat 20 from rfl, show (400 : Int32) = Int32.ofNat 400 from rfl, n_add]; exact propext (n_le (by omega) (by omega))
  have cF := fun q => fr_X9_feed (P := fun a k => a ≠ 1 ∧ a ≠ 2) (a0 := 0) (i1 := a) (i2 := b) (i3 := c) (i4 := d) (i5 := e) (fun a k q => by omega) (ko_refl (σ := σ)) q
  have rF := fun q => fr_X10_feed (P := fun a k => a ≠ 215 ∧ ¬ (a = 214 ∧ k = 1)) (a0 := 214) (i1 := a) (i2 := b) (i3 := c) (i4 := d) (i5 := e) (fun a k q => by omega) (ko_refl (σ := ρ)) q
  by_cases cc : n + 20 ≤ 400
  · obtain ⟨σ1, e1, ρ1, g1, H1⟩ := h_four (n := n) a ⟨Y.1, t3⟩ (by omega)
    obtain ⟨σ2, e2, ρ2, g2, H2⟩ := h_four b H1 (by omega)
    obtain ⟨σ3, e3, ρ3, g3, H3⟩ := h_four c H2 (by omega)
    obtain ⟨σ4, e4, ρ4, g4, H4⟩ := h_four d H3 (by omega)
    obtain ⟨σ5, e5, ρ5, g5, H5⟩ := h_four e H4 (by omega)
    have X : f_X9_feed 0 a b c d e σ = some (σ5.1 1 1, σ5) := by
      unfold f_X9_feed; rw [t3]; simp only [c0, cc, if_true, e1, e2, e3, e4, e5, bv_s]
    have R : f_X10_feed 214 a b c d e ρ = some (ρ5.1 214 1, ρ5) := by
      unfold f_X10_feed; rw [t1, t3]; simp only [c0, cc, if_true, g1, g2, g3, g4, g5, bv_s]
    have F := cF _ X
    have G := rF _ R
    rw [X, R, wp_some, wp_some]
    obtain ⟨y1, y2, y3, y4, y5, y6⟩ := Y
    exact ⟨H5.1.1.symm, r, H5.1, RQ_keep y2 (ag_of G (by intro c k; omega)), RR_keep y3 (ag_of F (by intro c k; omega)) (ag_of G (by intro c k; omega)), PW_keep y4 (ag_of F (by intro c k; omega)) (ag_of G (by intro c k; omega)), PA_keep y5 (ag_of F (by intro c k; omega)) (ag_of G (by intro c k; omega)), RI_keep y6 (ag_of F (by intro c k; omega)) (ag_of G (by intro c k; omega))⟩
  · unfold f_X9_feed f_X10_feed
    rw [t1, t3]; simp only [c0, cc, if_false, wp_some]; exact ⟨trivial, H⟩
theorem p_rule : RMQ (f_X9_rule 0) (f_X10_rule 214) := by
  intro σ ρ H
  obtain ⟨r, ⟨t1, ⟨L, hL, t3⟩, t4, t5⟩, hq, ⟨r1, r2, r3, r4, r5⟩, hw, ha, hi⟩ := id H
  unfold f_X9_rule f_X10_rule
  rw [r2, r3]
  by_cases c6 : r = 6
  · subst c6
    rw [if_neg (by decide), if_pos (show Int32.ofNat 6 = 6 from rfl), wp_some, wp_some]; exact ⟨rfl, H⟩
  · have hr : r < 6 := by omega
    rw [if_pos (by rw [show (6 : Int32) = Int32.ofNat 6 from rfl, n_lt (by omega) (by omega)]; exact hr), if_neg (by rw [show (6 : Int32) = Int32.ofNat 6 from rfl, n_eq (by omega) (by omega)]; omega), show Int32.ofNat r + 1 = Int32.ofNat (r + 1) from n_add r 1, gd_n (by omega) (by omega), n_idx (by omega), show 12 + 2 * (r + 1) = 14 + 2 * r by omega]
    -- the class begins
    have CB0 : CB (fun k => σ.1 2 k) L (su_i σ (14 + 2 * r) 1 0) := ⟨hL, (rd_ia _ _ _ _ _ _ (by omega)).trans t3, fun k => rd_ia _ _ _ _ _ _ (by omega)⟩
    obtain ⟨τ, eτ, ⟨kd, vl, e, cp⟩, f0, f1⟩ := x_begin4 CB0
    have frb := fr_X4_begin (P := fun a k => a = 14 + 2 * r) (a0 := 3) (σ0 := su_i σ (14 + 2 * r) 1 0) (by intro a k q; omega) ko_refl _ eτ
    have J0 : JC (fun k => σ.1 2 k) L (14 + 2 * r) 0 [] τ (sk (fun k => σ.1 2 k) L 0) kd vl e := ⟨cp, f0, f1, by rw [show τ.1 (14 + 2 * r) 1 = _ from frb.1 _ _ rfl, rd_is]; rfl, fun i hi => absurd hi (by simp)⟩
    -- the reference begins
    rw [lt_eq, rd_is, gd_n (by omega) (by omega), n_idx (by omega), lt_eq]
    have eRA : f_X10_readsAll 214 (su_i (su_i ρ 214 11 (Int32.ofNat r)) 219 r 0) = bd (f_X10_clauseHere 214 (su_i (su_i (su_i (su_i (su_i (su_i (su_i ρ 214 11 (Int32.ofNat r)) 219 r 0) 217 r 0) 214 14 0) 214 8 0) 214 9 0) 214 12 0)) fun r s => f_X10_readsAll_35 214 r s := by
      unfold f_X10_readsAll
      rw [rd_ia _ _ _ _ _ _ (by omega), rd_is, gd_n (by omega) (by omega), n_idx (by omega)]
      simp only [lt_eq]
    have frR : ∀ s, f_X10_readsAll 214 (su_i (su_i ρ 214 11 (Int32.ofNat r)) 219 r 0) = some s → ∀ a k, (a ≠ 216 ∧ a ≠ 217 ∧ a ≠ 218 ∧ a ≠ 219 ∧ a ≠ 220 ∧ a ≠ 221 ∧ ¬ (a = 214 ∧ (k = 1 ∨ 8 ≤ k ∧ k ≤ 14 ∨ k = 16))) → s.2.1 a k = ρ.1 a k := by
      intro s es a k q
      have := fr_X10_readsAll (P := fun a k => a ≠ 216 ∧ a ≠ 217 ∧ a ≠ 218 ∧ a ≠ 219 ∧ a ≠ 220 ∧ a ≠ 221 ∧ ¬ (a = 214 ∧ (k = 1 ∨ 8 ≤ k ∧ k ≤ 14 ∨ k = 16))) (a0 := 214) (σ0 := su_i (su_i ρ 214 11 (Int32.ofNat r)) 219 r 0) (by intro a k q; omega) ko_refl _ es
      rw [this.1 a k q, rd_ii, if_neg (by omega), rd_ii, if_neg (by omega)]
    generalize f_X10_readsAll 214 (su_i (su_i ρ 214 11 (Int32.ofNat r)) 219 r 0) = Y at eRA frR ⊢
    have ρo : ∀ a k, ¬ (a = 214 ∧ (k = 11 ∨ k = 14 ∨ k = 8 ∨ k = 9 ∨ k = 12)) → ¬ (a = 219 ∧ k = r) → ¬ (a = 217 ∧ k = r) → (su_i (su_i (su_i (su_i (su_i (su_i (su_i ρ 214 11 (Int32.ofNat r)) 219 r 0) 217 r 0) 214 14 0) 214 8 0) 214 9 0) 214 12 0).1 a k = ρ.1 a k := fun a k q1 q2 q3 => by
      rw [rd_ii, if_neg (by omega), rd_ii, if_neg (by omega), rd_ii, if_neg (by omega), rd_ii, if_neg (by omega), rd_ii, if_neg (by omega), rd_ii, if_neg (by omega), rd_ii, if_neg (by omega)]
    have ρ11 : (su_i (su_i (su_i (su_i (su_i (su_i (su_i ρ 214 11 (Int32.ofNat r)) 219 r 0) 217 r 0) 214 14 0) 214 8 0) 214 9 0) 214 12 0).1 214 11 = Int32.ofNat r := by
      rw [rd_ik _ _ _ _ _ _ (by omega), rd_ik _ _ _ _ _ _ (by omega), rd_ik _ _ _ _ _ _ (by omega), rd_ik _ _ _ _ _ _ (by omega), rd_ia _ _ _ _ _ _ (by omega), rd_ia _ _ _ _ _ _ (by omega), rd_is]
    have ρ12 : (su_i (su_i (su_i (su_i (su_i (su_i (su_i ρ 214 11 (Int32.ofNat r)) 219 r 0) 217 r 0) 214 14 0) 214 8 0) 214 9 0) 214 12 0).1 214 12 = 0 := rd_is _ _ _ _
    have ρ9 : (su_i (su_i (su_i (su_i (su_i (su_i (su_i ρ 214 11 (Int32.ofNat r)) 219 r 0) 217 r 0) 214 14 0) 214 8 0) 214 9 0) 214 12 0).1 214 9 = 0 := by rw [rd_ik _ _ _ _ _ _ (by omega), rd_is]
    have ρ8 : (su_i (su_i (su_i (su_i (su_i (su_i (su_i ρ 214 11 (Int32.ofNat r)) 219 r 0) 217 r 0) 214 14 0) 214 8 0) 214 9 0) 214 12 0).1 214 8 = 0 := by rw [rd_ik _ _ _ _ _ _ (by omega), rd_ik _ _ _ _ _ _ (by omega), rd_is]
    have ρ14 : (su_i (su_i (su_i (su_i (su_i (su_i (su_i ρ 214 11 (Int32.ofNat r)) 219 r 0) 217 r 0) 214 14 0) 214 8 0) 214 9 0) 214 12 0).1 214 14 = 0 := by rw [rd_ik _ _ _ _ _ _ (by omega), rd_ik _ _ _ _ _ _ (by omega), rd_ik _ _ _ _ _ _ (by omega), rd_is]
    have ρ217 : (su_i (su_i (su_i (su_i (su_i (su_i (su_i ρ 214 11 (Int32.ofNat r)) 219 r 0) 217 r 0) 214 14 0) 214 8 0) 214 9 0) 214 12 0).1 217 r = 0 := by rw [rd_ia _ _ _ _ _ _ (by omega), rd_ia _ _ _ _ _ _ (by omega), rd_ia _ _ _ _ _ _ (by omega), rd_ia _ _ _ _ _ _ (by omega), rd_is]
    have ρ219 : (su_i (su_i (su_i (su_i (su_i (su_i (su_i ρ 214 11 (Int32.ofNat r)) 219 r 0) 217 r 0) 214 14 0) 214 8 0) 214 9 0) 214 12 0).1 219 r = 0 := by rw [rd_ia _ _ _ _ _ _ (by omega), rd_ia _ _ _ _ _ _ (by omega), rd_ia _ _ _ _ _ _ (by omega), rd_ia _ _ _ _ _ _ (by omega), rd_ia _ _ _ _ _ _ (by omega), rd_is]
    generalize su_i (su_i (su_i (su_i (su_i (su_i (su_i ρ 214 11 (Int32.ofNat r)) 219 r 0) 217 r 0) 214 14 0) 214 8 0) 214 9 0) 214 12 0 = ρ1 at eRA ρo ρ11 ρ12 ρ9 ρ8 ρ14 ρ217 ρ219
    have K0 : JR (fun k => σ.1 2 k) L r (ρ.1 216) 0 [] ρ1 0 := ⟨⟨hL, by rw [ρo _ _ (by omega) (by omega) (by omega), t1, t3], fun k => by rw [ρo _ _ (by omega) (by omega) (by omega), t4]⟩, by omega, ρ8, ρ9, ρ12, ρ11, ρ217, fun i hi => absurd hi (by simp), fun j hj => ρo _ _ (by omega) (by omega) (by omega)⟩
    have k0 : JK r (ρ.1 218) (ρ.1 219) [] ρ1 := ⟨ρ14, ρ219, trivial, fun j hj => ρo _ _ (by omega) (by omega) (by omega), fun j hj => ρo _ _ (by omega) (by omega) (by omega), fun x hx => absurd hx (by simp)⟩
    obtain ⟨σ1, e1, O⟩ := J_rule (by omega) hr t5 J0 K0 rfl k0
    rw [← eRA] at O
    have eRR : f_X4_readRule 3 (14 + 2 * r) σ = some σ1 := by unfold f_X4_readRule; rw [lt_eq, eτ, bv_s, e1]
    have frC := fr_X4_readRule (P := fun a k => ¬ (a = 14 + 2 * r ∧ k = 1) ∧ a ≠ 4 ∧ a ≠ 5 ∧ a ≠ 6 ∧ a ≠ 14 + 2 * r + 1 ∧ a ≠ 3) (a0 := 3) (a1 := 14 + 2 * r) (σ0 := σ) (by intro a k q; omega) ko_refl _ eRR
    rw [eRR, bv_s, lt_eq, rd_ia _ _ _ _ _ _ (by omega)]
    -- what lasts
    have last : ∀ (r' : Nat) (τ υ : mm_S), (r' = r ∨ r' = r + 1) → (∀ a k, ¬ (a = 14 + 2 * r ∧ k = 1) → a ≠ 4 → a ≠ 5 → a ≠ 6 → a ≠ 14 + 2 * r + 1 → a ≠ 3 → ¬ (a = 1 ∧ k = 1) → ¬ (a = 0 ∧ k = 4) → τ.1 a k = σ.1 a k) → τ.1 1 1 = 0 → τ.1 0 4 = Int32.ofNat r' →
        (∀ a k, a ≠ 216 → a ≠ 217 → a ≠ 218 → a ≠ 219 → a ≠ 220 → a ≠ 221 → ¬ (a = 214 ∧ (k = 1 ∨ k = 2 ∨ 8 ≤ k ∧ k ≤ 14 ∨ k = 16)) → υ.1 a k = ρ.1 a k) → υ.1 214 1 = 0 → υ.1 214 2 = Int32.ofNat r' → (∀ j, j < 400 * r → υ.1 216 j = ρ.1 216 j) → (∀ j, j < 48 * r → υ.1 218 j = ρ.1 218 j) → (∀ j, j < r → υ.1 219 j = ρ.1 219 j) → (r' = r + 1 → EV r τ υ) → RP τ υ := by
      intro r' τ υ hr' gx x1 x4 gy y1 y2 y216 y218 y219 ev
      refine ⟨r', ⟨y1.trans x1.symm, ⟨0, by omega, x1⟩, fun k => ?_, fun k => ?_⟩, RQ_keep hq (fun a k q => gy a k (by omega) (by omega) (by omega) (by omega) (by omega) (by omega) (by omega)), ⟨by omega, x4, y2, ⟨?_, ?_, ?_⟩, fun k hk => ?_⟩,
        PW_keep (PW_more hw (by omega)) (fun a k q => gx a k (by omega) (by omega) (by omega) (by omega) (by omega) (by omega) (by omega) (by omega)) (fun a k q => gy a k (by omega) (by omega) (by omega) (by omega) (by omega) (by omega) (by omega)),
        PA_keep ha (fun a k q => gx a k (by omega) (by omega) (by omega) (by omega) (by omega) (by omega) (by omega) (by omega)) (fun a k q => gy a k (by omega) (by omega) (by omega) (by omega) (by omega) (by omega) (by omega)),
        RI_keep (RI_more hi (by omega)) (fun a k q => gx a k (by omega) (by omega) (by omega) (by omega) (by omega) (by omega) (by omega) (by omega)) (fun a k q => gy a k (by omega) (by omega) (by omega) (by omega) (by omega) (by omega) (by omega))⟩
      · rw [gy 215 k (by omega) (by omega) (by omega) (by omega) (by omega) (by omega) (by omega), gx 2 k (by omega) (by omega) (by omega) (by omega) (by omega) (by omega) (by omega) (by omega)]; exact t4 k
      · rw [gx 2 k (by omega) (by omega) (by omega) (by omega) (by omega) (by omega) (by omega) (by omega)]; exact t5 k
      · rw [gx _ _ (by omega) (by omega) (by omega) (by omega) (by omega) (by omega) (by omega) (by omega)]; exact r4.1
      · rw [gx _ _ (by omega) (by omega) (by omega) (by omega) (by omega) (by omega) (by omega) (by omega)]; exact r4.2.1
      · rw [gx _ _ (by omega) (by omega) (by omega) (by omega) (by omega) (by omega) (by omega) (by omega)]; exact r4.2.2
      · by_cases ck : k = r
        · rw [ck]; exact ev (by omega)
        · have kr : k < r := by omega
          exact EV_keep2 (r5 k kr) (fun j => gx _ _ (by omega) (by omega) (by omega) (by omega) (by omega) (by omega) (by omega) (by omega)) (fun j => gx _ _ (by omega) (by omega) (by omega) (by omega) (by omega) (by omega) (by omega) (by omega)) (fun j hj => y216 _ (by omega)) (fun j hj => y218 _ (by omega)) (y219 k kr)
    have gx1 : ∀ a k, ¬ (a = 14 + 2 * r ∧ k = 1) → a ≠ 4 → a ≠ 5 → a ≠ 6 → a ≠ 14 + 2 * r + 1 → a ≠ 3 → ¬ (a = 1 ∧ k = 1) → (su_i σ1 1 1 0).1 a k = σ.1 a k := fun a k q1 q2 q3 q4 q5 q6 q7 => by
      rw [rd_ii, if_neg q7]; exact frC.1 a k ⟨q1, q2, q3, q4, q5, q6⟩
    have x04 : (su_i σ1 1 1 0).1 0 4 = Int32.ofNat r := (gx1 _ _ (by omega) (by omega) (by omega) (by omega) (by omega) (by omega) (by omega)).trans r2
    rcases O with ⟨f, F, ⟨⟨z, s⟩, ey, z0, rg, y218, y219, y1⟩⟩ | ⟨cls, ρ2, ey, f9, c1, c2, c3, c4, c5, c6', c7, c8, c9⟩
    · dsimp only at z0 rg y218 y219 y1
      rw [F.2.1, if_neg F.2.2.1, wp_some, ey, bd_s, z0, if_pos rfl, wp_some, rg.1]
      refine ⟨rfl, last r _ _ (Or.inl rfl) (fun a k q1 q2 q3 q4 q5 q6 q7 _ => gx1 a k q1 q2 q3 q4 q5 q6 q7) (rd_is _ _ _ _) x04 (fun a k q1 q2 q3 q4 q5 q6 q7 => frR _ ey a k ⟨q1, q2, q3, q4, q5, q6, by omega⟩) y1 ?_ rg.2 y218 y219 (fun q => by omega)⟩
      exact (frR _ ey 214 2 (by omega)).trans r3
    · have y2 : ρ2.1 214 2 = Int32.ofNat r := (frR _ ey 214 2 (by omega)).trans r3
      rw [f9, if_pos rfl, lt_eq, x04, show Int32.ofNat r + 1 = Int32.ofNat (r + 1) from n_add r 1, rd_is, wp_some, ey, bd_s, if_neg (show ¬ ((1 : Int32) = 0) by decide), lt_eq, y2, show Int32.ofNat r + 1 = Int32.ofNat (r + 1) from n_add r 1, rd_is, wp_some]
      refine ⟨rfl, last (r + 1) _ _ (Or.inr rfl) (fun a k q1 q2 q3 q4 q5 q6 q7 q8 => by rw [rd_ii, if_neg q8]; exact gx1 a k q1 q2 q3 q4 q5 q6 q7) ((rd_ia _ _ _ _ _ _ (by omega)).trans (rd_is _ _ _ _)) (rd_is _ _ _ _) (fun a k q1 q2 q3 q4 q5 q6 q7 => by rw [rd_ii, if_neg (by omega)]; exact frR _ ey a k ⟨q1, q2, q3, q4, q5, q6, by omega⟩) ((rd_ik _ _ _ _ _ _ (by omega)).trans c9) (rd_is _ _ _ _) (fun j hj => (rd_ia _ _ _ _ _ _ (by omega)).trans (c6' j hj)) (fun j hj => (rd_ia _ _ _ _ _ _ (by omega)).trans (c7.2.2.2.1 j hj)) (fun j hj => (rd_ia _ _ _ _ _ _ (by omega)).trans (c7.2.2.2.2.1 j hj)) (fun _ => ?_)⟩
      refine EV_keep2 (σ := σ1) (ρ := ρ2) (EV_new hr c1 c2 c3 c4 c5 c7 c8) (fun j => ?_) (fun j => ?_) (fun j hj => rd_ia _ _ _ _ _ _ (by omega)) (fun j hj => rd_ia _ _ _ _ _ _ (by omega)) (rd_ia _ _ _ _ _ _ (by omega))
      · rw [rd_ia _ _ _ _ _ _ (by omega), rd_ia _ _ _ _ _ _ (by omega)]
      · rw [rd_ia _ _ _ _ _ _ (by omega), rd_ia _ _ _ _ _ _ (by omega)]
theorem p_house : RMP (f_X9_house 0) (f_X10_house 214) := by
  intro σ ρ H
  obtain ⟨r, ⟨t1, ⟨L, hL, t3⟩, t4, t5⟩, hq, hr, hw, ha, hi'⟩ := id H
  unfold f_X9_house f_X10_house
  rw [lt_eq]
  obtain ⟨ρ1, e8, z0, o8⟩ := r_h8 (su_i ρ 214 11 6)
  rw [e8]
  unfold EX8
  have ρ1o : ∀ a k, a ≠ 220 → ¬ (a = 214 ∧ k = 11) → ρ1.1 a k = ρ.1 a k := fun a k q1 q2 => by rw [o8 _ _ q1, rd_ii, if_neg q2]
  have ρ111 : ρ1.1 214 11 = 6 := by rw [o8 _ _ (by omega), rd_is]
  have eRA : f_X10_readsAll 214 ρ1 = bd (f_X10_clauseHere 214 (su_i (su_i (su_i (su_i (su_i ρ1 217 6 0) 214 14 0) 214 8 0) 214 9 0) 214 12 0)) fun r s => f_X10_readsAll_35 214 r s := by
    unfold f_X10_readsAll
    rw [ρ111, show gd (6 : Int32) 7 = fun (y : Option (Int32 × mm_S)) => y from funext fun y => gd_n (k := 6) (by omega) (by omega), show (6 : Int32).toNatClampNeg = 6 from n_idx (k := 6) (by omega)]
    simp only [lt_eq]
  have ρ2o : ∀ a k, ¬ (a = 217 ∧ k = 6) → ¬ (a = 214 ∧ (k = 14 ∨ k = 8 ∨ k = 9 ∨ k = 12)) → (su_i (su_i (su_i (su_i (su_i ρ1 217 6 0) 214 14 0) 214 8 0) 214 9 0) 214 12 0).1 a k = ρ1.1 a k := fun a k q1 q2 => by
    rw [rd_ii, if_neg (by omega), rd_ii, if_neg (by omega), rd_ii, if_neg (by omega), rd_ii, if_neg (by omega), rd_ii, if_neg (by omega)]
  have ρ29 : (su_i (su_i (su_i (su_i (su_i ρ1 217 6 0) 214 14 0) 214 8 0) 214 9 0) 214 12 0).1 214 9 = 0 := by rw [rd_ik _ _ _ _ _ _ (by omega), rd_is]
  have ρ28 : (su_i (su_i (su_i (su_i (su_i ρ1 217 6 0) 214 14 0) 214 8 0) 214 9 0) 214 12 0).1 214 8 = 0 := by rw [rd_ik _ _ _ _ _ _ (by omega), rd_ik _ _ _ _ _ _ (by omega), rd_is]
  have ρ214 : (su_i (su_i (su_i (su_i (su_i ρ1 217 6 0) 214 14 0) 214 8 0) 214 9 0) 214 12 0).1 214 14 = 0 := by rw [rd_ik _ _ _ _ _ _ (by omega), rd_ik _ _ _ _ _ _ (by omega), rd_ik _ _ _ _ _ _ (by omega), rd_is]
  have frR : ∀ s, f_X10_readsAll 214 ρ1 = some s → ∀ a k, (a ≠ 216 ∧ a ≠ 217 ∧ a ≠ 218 ∧ a ≠ 219 ∧ a ≠ 220 ∧ a ≠ 221 ∧ ¬ (a = 214 ∧ (k = 1 ∨ 8 ≤ k ∧ k ≤ 14 ∨ k = 16))) → s.2.1 a k = ρ.1 a k := by
    intro s es a k q
    have := fr_X10_readsAll (P := fun a k => a ≠ 216 ∧ a ≠ 217 ∧ a ≠ 218 ∧ a ≠ 219 ∧ a ≠ 220 ∧ a ≠ 221 ∧ ¬ (a = 214 ∧ (k = 1 ∨ 8 ≤ k ∧ k ≤ 14 ∨ k = 16))) (a0 := 214) (σ0 := ρ1) (by intro a k q; omega) ko_refl _ es
    rw [this.1 a k q, ρ1o _ _ (by omega) (by omega)]
  have fr6 : ∀ s, f_X10_readsAll 214 ρ1 = some s → ∀ a k, (a = 216 ∨ a = 218 ∨ a = 219) → s.2.1 a k = ρ.1 a k := by
    intro s es a k q
    rw [eRA] at es
    have := fr6_all (ρ0 := su_i (su_i (su_i (su_i (su_i ρ1 217 6 0) 214 14 0) 214 8 0) 214 9 0) 214 12 0) ((ρ2o _ _ (by omega) (by omega)).trans ρ111) ko_refl _ es
    rw [this.1 a k (by unfold P6; omega), ρ2o _ _ (by omega) (by omega), ρ1o _ _ (by omega) (by omega)]
  generalize f_X10_readsAll 214 ρ1 = Y at eRA frR fr6 ⊢
  generalize su_i (su_i (su_i (su_i (su_i ρ1 217 6 0) 214 14 0) 214 8 0) 214 9 0) 214 12 0 = ρ2 at eRA ρ2o ρ29 ρ28 ρ214
  -- the class begins
  obtain ⟨σ0, e0, em1, em2, em3, em4⟩ := x_empty σ
  have CB0 : CB (fun k => σ.1 2 k) L σ0 := ⟨hL, (em4 _ _ (by omega)).trans t3, fun k => em4 _ _ (by omega)⟩
  obtain ⟨τ, eτ, ⟨kd, vl, e, cp⟩, f0, -⟩ := x_begin4 CB0
  have frb := fr_X4_begin (P := fun a k => 7 ≤ a ∧ a ≤ 10) (a0 := 3) (σ0 := σ0) (by intro a k q; omega) ko_refl _ eτ
  have frb' : ∀ a k, 7 ≤ a → a ≤ 10 → τ.1 a k = σ0.1 a k := fun a k q1 q2 => frb.1 a k ⟨q1, q2⟩
  have X0 : HXr 0 τ ρ2 := by
    have z : ∀ k, k < 90 → ρ2.1 220 k = 0 := fun k hk => by rw [ρ2o _ _ (by omega) (by omega)]; exact z0 k hk
    have y7 : ∀ k, k ≤ 4 → τ.1 7 k = 0 := fun k hk => by rw [frb' _ _ (by omega) (by omega)]; exact em1 k hk
    have y8 : ∀ k, k < 6 → τ.1 8 k = 0 := fun k hk => by rw [frb' _ _ (by omega) (by omega)]; exact (em2 k hk).1
    have y9 : ∀ k, k < 6 → τ.1 9 k = 0 := fun k hk => by rw [frb' _ _ (by omega) (by omega)]; exact (em2 k hk).2
    have y10 : ∀ k, k < 36 → τ.1 10 k = 0 := fun k hk => by rw [frb' _ _ (by omega) (by omega)]; exact em3 k hk
    refine ⟨⟨?_, ?_, ?_, ?_, ?_⟩, fun l hl => ⟨?_, ?_⟩, fun l hl => ?_, ⟨0, by omega, y7 1 (by omega)⟩, ⟨0, by omega, y7 2 (by omega)⟩, fun l hl => ⟨0, by omega, y8 l hl⟩, fun l hl => ⟨0, by omega, y9 l hl⟩, fun l _ hl => y8 l hl⟩
    · rw [z 1 (by omega), y7 1 (by omega)]
    · rw [z 2 (by omega), y7 2 (by omega)]
    · exact z 3 (by omega)
    · exact y7 3 (by omega)
    · rw [z 89 (by omega), y7 4 (by omega)]
    · rw [z _ (by omega), y8 l hl]
    · rw [z _ (by omega), y9 l hl]
    · rw [z _ (by omega), y10 l hl]
  have ns0 : NZ (fun k => σ.1 2 k) L ρ2 0 := ⟨⟨hL, by rw [ρ2o _ _ (by omega) (by omega), ρ1o _ _ (by omega) (by omega), t1, t3], fun k => by rw [ρ2o _ _ (by omega) (by omega), ρ1o _ _ (by omega) (by omega), t4]⟩, by omega, ρ28, ρ29⟩
  obtain ⟨σ1, e1, O⟩ := J_house t5 cp f0 ((frb' _ _ (by omega) (by omega)).trans (em1 0 (by omega))) X0 ns0 rfl ((ρ2o _ _ (by omega) (by omega)).trans (z0 0 (by omega))) ((ρ2o _ _ (by omega) (by omega)).trans ρ111) ρ214
  rw [← eRA] at O
  have eRH : f_X4_readHouse 3 7 σ = some σ1 := by unfold f_X4_readHouse; rw [e0, bv_s, eτ, bv_s, e1]
  have frC := fr_X4_readHouse (P := fun a k => ¬ (3 ≤ a ∧ a ≤ 10)) (a0 := 3) (a1 := 7) (σ0 := σ) (by intro a k q; omega) ko_refl _ eRH
  rw [eRH, bv_s, lt_eq, rd_ia _ _ _ _ _ _ (show 3 ≠ 1 by omega)]
  have σ2o : ∀ a k, ¬ (3 ≤ a ∧ a ≤ 10) → ¬ (a = 1 ∧ k = 1) → (su_i σ1 1 1 0).1 a k = σ.1 a k := fun a k q1 q2 => by rw [rd_ii, if_neg q2]; exact frC.1 a k q1
  rcases O with ⟨f, F, ⟨⟨z, s⟩, ey, z0', y9, y1⟩⟩ | ⟨ρ3, n3, ey, k9, k70, hn3, X3, z3, y1⟩
  · dsimp only at z0' y9 y1
    rw [F.2.1, if_neg F.2.2.1, wp_some, ey, bd_s, z0', if_pos rfl, wp_some, y9]
    refine ⟨rfl, Or.inr ⟨r, ⟨y1.trans (rd_is _ _ _ _).symm, ⟨0, by omega, rd_is _ _ _ _⟩, fun k => ?_, fun k => ?_⟩, RQ_keep hq (fun a k q => frR _ ey a k (by omega)), RR_keep hr (fun a k q => σ2o a k (by omega) (by omega)) (fun a k q => ?_),
      PW_keep hw (fun a k q => σ2o a k (by omega) (by omega)) (fun a k q => frR _ ey a k (by omega)), PA_keep ha (fun a k q => σ2o a k (by omega) (by omega)) (fun a k q => frR _ ey a k (by omega)), RI_keep hi' (fun a k q => σ2o a k (by omega) (by omega)) (fun a k q => frR _ ey a k (by omega))⟩⟩
    · rw [frR _ ey 215 k (by omega), σ2o 2 k (by omega) (by omega)]; exact t4 k
    · rw [σ2o 2 k (by omega) (by omega)]; exact t5 k
    · by_cases c : a = 214
      · exact frR _ ey a k (by omega)
      · exact fr6 _ ey a k (by omega)
  · obtain ⟨ρ4, e44, w1, w2, w3⟩ := r_h44 ρ3
    rw [k9, if_pos rfl, ey, bd_s, if_neg (show ¬ ((1 : Int32) = 0) by decide), e44]
    unfold EX44
    -- the class lays it over
    have s70 : (su_i σ1 1 1 0).1 7 0 = 1 := (rd_ia _ _ _ _ _ _ (by omega)).trans k70
    obtain ⟨σ3, e3, ⟨a1, a2, a3⟩, a4, -⟩ := x_htake (a := 26 + 1) (b := 7) (su_i σ1 1 1 0) (by omega) (Or.inr s70)
    obtain ⟨σ4, e4, b1, b2, b3, b4⟩ := x_begin7 σ3
    rw [e3, bv_s, show (26 + 5 : Nat) = 31 from rfl, e4, bv_s, lt_eq]
    unfold f_X0_forget
    rw [lt_eq, bv_s, wp_some, rd_ia _ _ _ _ _ _ (show 7 ≠ 98 by omega), rd_ia _ _ _ _ _ _ (show 7 ≠ 26 + 10 by omega), b4 7 3 (by omega), a4 7 3 (by omega), rd_ia _ _ _ _ _ _ (show 7 ≠ 1 by omega), X3.1.2.2.2.1]
    -- the reference begins
    obtain ⟨ρ5, e5, c1, c2, c3, c4⟩ := r_begins ρ4
    have i3 : (3 : Int32).toNatClampNeg = 3 := n_idx (k := 3) (by omega)
    have ρ53 : ρ5.1 224 3 = Int32.ofNat n3 := by rw [c3 3 (by omega), w1 3 (by omega)]; exact X3.1.2.2.1
    rw [e5, bv_s, lt_eq, show (3 : Int32) = Int32.ofNat 3 from rfl, gd_n (by omega) (by omega), n_idx (by omega), wp_some, rd_ia _ _ _ _ _ _ (show 224 ≠ 214 by omega), ρ53]
    refine ⟨rfl, Or.inl ?_⟩
    -- cells
    have τo : ∀ a k, ¬ (3 ≤ a ∧ a ≤ 10) → ¬ (a = 1 ∧ k = 1) → ¬ (27 ≤ a ∧ a ≤ 35) → ¬ (a = 36 ∧ k = 0) → ¬ (a = 98 ∧ k = 2) → (su_i (su_i σ4 (26 + 10) 0 0) 98 2 0).1 a k = σ.1 a k := fun a k q1 q2 q3 q4 q5 => by
      rw [rd_ii, if_neg q5, rd_ii, if_neg (by omega), b4 _ _ (by omega), a4 _ _ (by omega), σ2o _ _ q1 q2]
    have τ4 : ∀ a k, (27 ≤ a ∧ a ≤ 35) → (su_i (su_i σ4 (26 + 10) 0 0) 98 2 0).1 a k = σ4.1 a k := fun a k q => by rw [rd_ia _ _ _ _ _ _ (by omega), rd_ia _ _ _ _ _ _ (by omega)]
    have τ3 : ∀ a k, (27 ≤ a ∧ a ≤ 30) → (su_i (su_i σ4 (26 + 10) 0 0) 98 2 0).1 a k = σ3.1 a k := fun a k q => by rw [τ4 _ _ (by omega), b4 _ _ (by omega)]
    have υo : ∀ a k, a ≠ 224 → ¬ (a = 214 ∧ k = 31) → (su_i ρ5 214 31 0).1 a k = ρ3.1 a k := fun a k q1 q2 => by rw [rd_ii, if_neg q2, c4 _ _ q1, w3 _ _ q1]
    have υf : ∀ a k, (a ≠ 216 ∧ a ≠ 217 ∧ a ≠ 218 ∧ a ≠ 219 ∧ a ≠ 220 ∧ a ≠ 221 ∧ a ≠ 224 ∧ ¬ (a = 214 ∧ (k = 1 ∨ 8 ≤ k ∧ k ≤ 14 ∨ k = 16 ∨ k = 31))) → (su_i ρ5 214 31 0).1 a k = ρ.1 a k := fun a k q => by rw [υo _ _ (by omega) (by omega)]; exact frR _ ey a k (by omega)
    have υ224 : ∀ k, (su_i ρ5 214 31 0).1 224 k = ρ5.1 224 k := fun k => rd_ia _ _ _ _ _ _ (by omega)
    have υs : ∀ k, k < 90 → (k < 10 ∨ 41 ≤ k) → (su_i ρ5 214 31 0).1 224 k = ρ3.1 220 k := fun k h1 h2 => by rw [υ224, c3 k h2, w1 k h1]
    obtain ⟨⟨x1, x2, x3, x3', x4⟩, x5, x6, x7, x8, x9, x10, x11⟩ := X3
    have h7 : ∀ k, k ≤ 4 → (su_i (su_i σ4 (26 + 10) 0 0) 98 2 0).1 27 k = σ1.1 7 k := fun k hk => by rw [τ3 _ _ (by omega), a1 k hk, rd_ia _ _ _ _ _ _ (by omega)]
    have h8 : ∀ k, k < 6 → (su_i (su_i σ4 (26 + 10) 0 0) 98 2 0).1 28 k = σ1.1 8 k := fun k hk => by rw [τ3 _ _ (by omega), (a2 k hk).1, rd_ia _ _ _ _ _ _ (by omega)]
    have h9 : ∀ k, k < 6 → (su_i (su_i σ4 (26 + 10) 0 0) 98 2 0).1 29 k = σ1.1 9 k := fun k hk => by rw [τ3 _ _ (by omega), (a2 k hk).2, rd_ia _ _ _ _ _ _ (by omega)]
    have h10 : ∀ k, k < 36 → (su_i (su_i σ4 (26 + 10) 0 0) 98 2 0).1 30 k = σ1.1 10 k := fun k hk => by rw [τ3 _ _ (by omega), a3 k hk, rd_ia _ _ _ _ _ _ (by omega)]
    have s8 : ∀ k, σ3.1 8 k = σ1.1 8 k := fun k => by rw [a4 _ _ (by omega), rd_ia _ _ _ _ _ _ (by omega)]
    have s9 : ∀ k, σ3.1 9 k = σ1.1 9 k := fun k => by rw [a4 _ _ (by omega), rd_ia _ _ _ _ _ _ (by omega)]
    have n32 : ∀ l, l < 6 → (su_i (su_i σ4 (26 + 10) 0 0) 98 2 0).1 32 l = σ1.1 8 l := fun l hl => by rw [τ4 _ _ (by omega), (b3 l hl).1, s8]
    have n33 : ∀ l, l < 6 → (su_i (su_i σ4 (26 + 10) 0 0) 98 2 0).1 33 l = σ1.1 9 l := fun l hl => by rw [τ4 _ _ (by omega), (b3 l hl).2.1, s9]
    have n34 : ∀ l, l < 6 → (su_i (su_i σ4 (26 + 10) 0 0) 98 2 0).1 34 l = -1 := fun l hl => by rw [τ4 _ _ (by omega), (b3 l hl).2.2.1]
    have n35 : ∀ l, l < 6 → (su_i (su_i σ4 (26 + 10) 0 0) 98 2 0).1 35 l = 0 := fun l hl => by rw [τ4 _ _ (by omega), (b3 l hl).2.2.2]
    have n310 : (su_i (su_i σ4 (26 + 10) 0 0) 98 2 0).1 31 0 = 0 := by rw [τ4 _ _ (by omega), b1]
    have n311 : (su_i (su_i σ4 (26 + 10) 0 0) 98 2 0).1 31 1 = 0 := by rw [τ4 _ _ (by omega), b2]
    have n36 : (su_i (su_i σ4 (26 + 10) 0 0) 98 2 0).1 36 0 = 0 := by rw [rd_ia _ _ _ _ _ _ (by omega), rd_is]
    have n98 : (su_i (su_i σ4 (26 + 10) 0 0) 98 2 0).1 98 2 = 0 := rd_is _ _ _ _
    have n11 : (su_i (su_i σ4 (26 + 10) 0 0) 98 2 0).1 1 1 = 0 := by rw [rd_ia _ _ _ _ _ _ (by omega), rd_ia _ _ _ _ _ _ (by omega), b4 _ _ (by omega), a4 _ _ (by omega), rd_is]
    have u11 : (su_i ρ5 214 31 0).1 214 1 = 0 := by rw [υo _ _ (by omega) (by omega)]; exact y1
    have u31 : (su_i ρ5 214 31 0).1 214 31 = 0 := rd_is _ _ _ _
    have u120 : (su_i ρ5 214 31 0).1 224 120 = 0 := by rw [υ224, c3 120 (by omega), w2 120 (by omega) (by omega)]
    have uN : ∀ l, l < 6 → (su_i ρ5 214 31 0).1 224 (11 + 5 * l) = σ1.1 8 l ∧ (su_i ρ5 214 31 0).1 224 (12 + 5 * l) = σ1.1 9 l ∧ (su_i ρ5 214 31 0).1 224 (13 + 5 * l) = 0 ∧ (su_i ρ5 214 31 0).1 224 (14 + 5 * l) = -1 ∧ (su_i ρ5 214 31 0).1 224 (15 + 5 * l) = 0 := fun l hl => by
      obtain ⟨d1, d2, d3, d4, d5⟩ := c2 l hl
      rw [υ224, υ224, υ224, υ224, υ224, show 12 + 5 * l = 11 + 5 * l + 1 by omega, show 13 + 5 * l = 11 + 5 * l + 2 by omega, show 14 + 5 * l = 11 + 5 * l + 3 by omega, show 15 + 5 * l = 11 + 5 * l + 4 by omega, d1, d2, d3, d4, d5, w1 _ (by omega), w1 _ (by omega)]
      exact ⟨(x5 l hl).1, (x5 l hl).2, rfl, rfl, rfl⟩
    have u10 : (su_i ρ5 214 31 0).1 224 10 = 0 := by rw [υ224, c1]
    have bt0 : ∀ l, l < 6 → bt 0 l = 0 := by decide +kernel
    generalize su_i (su_i σ4 (26 + 10) 0 0) 98 2 0 = σ5 at *
    generalize su_i ρ5 214 31 0 = ρ6 at *
    obtain ⟨-, -, -, -, -, -, hwf, hwx⟩ := hw
    obtain ⟨-, -, q0, hq0, aq⟩ := ha
    refine ⟨r, n3, 0, 0, ⟨u11.trans n11.symm, ⟨0, by omega, n11⟩, fun k => ?_, fun k => ?_⟩, RQ_keep hq (fun a k q => υf a k (by omega)), RR_keep hr (fun a k q => τo a k (by omega) (by omega) (by omega) (by omega) (by omega)) (fun a k q => ?_),
      ⟨⟨⟨hn3, Or.inr ?_, ?_, ?_, ?_, fun l hl => ?_, fun l hl => ?_, fun l q hl => ?_⟩, ⟨?_, ?_, ?_, ?_, ?_, fun l hl => ⟨?_, ?_⟩, fun l hl => ?_⟩⟩, ⟨by omega, ⟨n310, ⟨0, Nat.pow_pos (by omega), n311⟩, fun l hl => ?_, fun l hl => ?_, fun l hl => Or.inl (n34 l hl), fun l hl => ⟨0, by omega, n35 l hl⟩, fun l q hl => ⟨?_, n34 l hl, n35 l hl⟩⟩, ⟨?_, fun l hl => ?_⟩⟩, ⟨⟨by omega, n36, fun i hi => by omega⟩, ⟨?_, fun i hi => by omega⟩⟩, ?_, ?_⟩,
      ⟨0, q0, by omega, hq0, n98, u31, ?_, fun i hi => by omega⟩, RI_keep hi' (fun a k q => τo a k (by omega) (by omega) (by omega) (by omega) (by omega)) (fun a k q => υf a k (by omega))⟩
    · rw [υf 215 k (by omega), τo 2 k (by omega) (by omega) (by omega) (by omega) (by omega)]; exact t4 k
    · rw [τo 2 k (by omega) (by omega) (by omega) (by omega) (by omega)]; exact t5 k
    · by_cases c : a = 214
      · exact υf a k (by omega)
      · rw [υo _ _ (by omega) (by omega)]; exact fr6 _ ey a k (by omega)
    · exact (h7 0 (by omega)).trans k70
    · rw [show (26 + 1 : Nat) = 27 from rfl, h7 1 (by omega)]; exact x7
    · rw [show (26 + 1 : Nat) = 27 from rfl, h7 2 (by omega)]; exact x8
    · exact (h7 3 (by omega)).trans x3'
    · rw [show (26 + 1 + 1 : Nat) = 28 from rfl, h8 l hl]; exact x9 l hl
    · rw [show (26 + 1 + 2 : Nat) = 29 from rfl, h9 l hl]; exact x10 l hl
    · rw [show (26 + 1 + 1 : Nat) = 28 from rfl, h8 l hl]; exact x11 l q hl
    · rw [show (26 + 1 : Nat) = 27 from rfl, h7 0 (by omega), υs 0 (by omega) (by omega), z3, k70]
    · rw [show (26 + 1 : Nat) = 27 from rfl, h7 1 (by omega), υs _ (by omega) (by omega)]; exact x1
    · rw [show (26 + 1 : Nat) = 27 from rfl, h7 2 (by omega), υs _ (by omega) (by omega)]; exact x2
    · rw [show (26 + 1 : Nat) = 27 from rfl, h7 3 (by omega), υs _ (by omega) (by omega)]; exact x3.trans x3'.symm
    · rw [show (26 + 1 : Nat) = 27 from rfl, h7 4 (by omega), υs _ (by omega) (by omega)]; exact x4
    · rw [show (26 + 1 + 1 : Nat) = 28 from rfl, h8 l hl, υs _ (by omega) (by omega), show 0 + 41 + l = 41 + l by omega]; exact (x5 l hl).1
    · rw [show (26 + 1 + 2 : Nat) = 29 from rfl, h9 l hl, υs _ (by omega) (by omega), show 0 + 47 + l = 47 + l by omega]; exact (x5 l hl).2
    · rw [show (26 + 1 + 3 : Nat) = 30 from rfl, h10 l hl, υs _ (by omega) (by omega), show 0 + 53 + l = 53 + l by omega]; exact x6 l hl
    · rw [show (26 + 5 + 1 : Nat) = 32 from rfl, n32 l hl]; exact x9 l hl
    · rw [show (26 + 5 + 2 : Nat) = 33 from rfl, n33 l hl]; exact x10 l hl
    · rw [show (26 + 5 + 1 : Nat) = 32 from rfl, n32 l hl]; exact x11 l q hl
    · rw [show (26 + 5 : Nat) = 31 from rfl, n310]; exact u10
    · obtain ⟨d1, d2, d3, d4, d5⟩ := uN l hl
      rw [show (26 + 5 + 1 : Nat) = 32 from rfl, show (26 + 5 + 2 : Nat) = 33 from rfl, show (26 + 5 + 3 : Nat) = 34 from rfl, show (26 + 5 + 4 : Nat) = 35 from rfl, show (26 + 5 : Nat) = 31 from rfl, n32 l hl, n33 l hl, n34 l hl, n35 l hl, n311, bt0 l hl]
      refine ⟨?_, ?_, ?_, ?_, ?_⟩
      · rw [show 0 + 10 + 1 + 5 * l = 11 + 5 * l by omega]; exact d1
      · rw [show 0 + 10 + 2 + 5 * l = 12 + 5 * l by omega]; exact d2
      · rw [show 0 + 10 + 3 + 5 * l = 13 + 5 * l by omega]; exact d3
      · rw [show 0 + 10 + 4 + 5 * l = 14 + 5 * l by omega]; exact d4
      · rw [show 0 + 10 + 5 + 5 * l = 15 + 5 * l by omega]; exact d5
    · rw [show (26 + 10 : Nat) = 36 from rfl, n36]; exact u120
    · rw [υf 214 21 (by omega), τo 26 3 (by omega) (by omega) (by omega) (by omega) (by omega)]; exact hwf
    · rw [υf 214 22 (by omega), τo 26 4 (by omega) (by omega) (by omega) (by omega) (by omega)]; exact hwx
    · rw [τo 98 1 (by omega) (by omega) (by omega) (by omega) (by omega)]; exact aq
