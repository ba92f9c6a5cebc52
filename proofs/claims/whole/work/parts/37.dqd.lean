/-! strangers -/
theorem j_int {k : Nat} (h : k < 9223372036854775808) : (Int64.ofNat k).toInt = (k : Int) := by
  rw [Int64.toInt_ofNat_of_lt (by omega)]
theorem j_mul (k m : Nat) : Int64.ofNat k * Int64.ofNat m = Int64.ofNat (k * m) := (Int64.ofNat_mul k m).symm
theorem j_add (k m : Nat) : Int64.ofNat k + Int64.ofNat m = Int64.ofNat (k + m) := (Int64.ofNat_add k m).symm
theorem j_sub {k m : Nat} (h : m ≤ k) : Int64.ofNat k - Int64.ofNat m = Int64.ofNat (k - m) := (Int64.ofNat_sub _ _ h).symm
theorem j_div {k m : Nat} (h : k < 9223372036854775808) (h' : m < 9223372036854775808) : Int64.ofNat k / Int64.ofNat m = Int64.ofNat (k / m) := by
  rw [← Int64.toInt_inj, Int64.toInt_div, j_int h, j_int h', j_int (Nat.lt_of_le_of_lt (Nat.div_le_self _ _) h), ← Int.ofNat_tdiv, Int.bmod_eq_of_le]
  · have h0 : (0 : Int) ≤ (k : Int) / m := Int.ediv_nonneg (by omega) (by omega)
    omega
  · have h0 : ((k / m : Nat) : Int) = (k : Int) / m := Int.natCast_ediv k m
    have := Nat.div_le_self k m; omega
theorem j_rem {k m : Nat} (h : k < 9223372036854775808) (h' : m < 9223372036854775808) : Int64.ofNat k - Int64.ofNat k / Int64.ofNat m * Int64.ofNat m = Int64.ofNat (k % m) := by
  rw [j_div h h', j_mul, j_sub (by rw [Nat.mul_comm]; exact Nat.mul_div_le k m)]
  congr 1
  have := Nat.div_add_mod k m; rw [Nat.mul_comm] at this; omega
theorem j_and (m : Nat) : Int64.ofNat m &&& 2147483647 = Int64.ofNat (m % 2147483648) := by
  rw [← Int64.toBitVec_inj, Int64.toBitVec_and]
  apply BitVec.eq_of_toNat_eq
  show (BitVec.ofNat 64 m &&& BitVec.ofNat 64 2147483647).toNat = (BitVec.ofNat 64 (m % 2147483648)).toNat
  rw [BitVec.toNat_and, BitVec.toNat_ofNat, BitVec.toNat_ofNat, BitVec.toNat_ofNat, show 2147483647 % 2 ^ 64 = 2 ^ 31 - 1 from rfl, Nat.and_two_pow_sub_one_eq_mod]
  omega
theorem j_to {k : Nat} (h : k < 2147483648) : (Int64.ofNat k).toInt32 = Int32.ofNat k := by
  rw [← Int32.toInt_inj, Int64.toInt_toInt32, j_int (by omega), n_int h, Int.bmod_eq_of_le] <;> omega
theorem j_of {k : Nat} (h : k < 2147483648) : (Int32.ofNat k).toInt64 = Int64.ofNat k := by
  rw [← Int64.toInt_inj, Int32.toInt_toInt64, n_int h, j_int (by omega)]
def dx (x : Nat) : Nat := (x * 1103515245 + 12345) % 2147483648
theorem dx_lt (x : Nat) : dx x < 2147483648 := Nat.mod_lt _ (by decide)
theorem x_draw {x : Nat} {σ : mm_S} (hx : x < 2147483648) (e : σ.1 200 7 = Int32.ofNat x) : f_X7_nextDraw 200 σ = some (Int32.ofNat (dx x / 65536), su_i σ 200 7 (Int32.ofNat (dx x))) := by
  unfold f_X7_nextDraw
  rw [e, j_of hx, show (1103515245 : Int64) = Int64.ofNat 1103515245 from rfl, show (12345 : Int64) = Int64.ofNat 12345 from rfl, j_mul, j_add, j_and, show (x * 1103515245 + 12345) % 2147483648 = dx x from rfl, j_to (dx_lt x), lt_eq, rd_is,
    show (65536 : Int32) = Int32.ofNat 65536 from rfl, n_div (dx_lt x) (by omega)]
theorem r_draw {x L : Nat} {ρ : mm_S} (hx : x < 2147483648) (h0 : 0 < L) (hL : L < 2147483648) (e : ρ.2.1 214 41 = Int64.ofNat x) : f_X10_draw 214 (Int32.ofNat L) ρ = some (Int32.ofNat (dx x / 65536 % L), su_j ρ 214 41 (Int64.ofNat (dx x))) := by
  unfold f_X10_draw
  have d1 := dx_lt x
  have d2 : dx x / 65536 < 2147483648 := by omega
  have d3 : dx x / 65536 % L < 2147483648 := Nat.lt_of_le_of_lt (Nat.mod_le _ _) d2
  rw [e, j_of hL, show (1103515245 : Int64) = Int64.ofNat 1103515245 from rfl, show (12345 : Int64) = Int64.ofNat 12345 from rfl, show (2147483648 : Int64) = Int64.ofNat 2147483648 from rfl, show (65536 : Int64) = Int64.ofNat 65536 from rfl, j_mul, j_add, j_rem (by omega) (by omega), lt_eq, lt_eq,
    show (x * 1103515245 + 12345) % 2147483648 = dx x from rfl, rd_jj, if_pos ⟨rfl, rfl⟩, j_div (by omega) (by omega), j_rem (by omega) (by omega), j_to d3]
  unfold gl
  rw [if_neg]
  rw [← Int64.toInt_inj, j_int (by omega)]
  show ¬ ((L : Int) = 0)
  omega
theorem sum5 {n h q : Nat} {τ υ : mm_S} (hp : HP n τ υ) (hj : nj n h q τ 201) (hX : nx τ 201 υ 224 10) : f_X10_sleptAll 214 υ = some (sm (τ.1 205) 6, υ) := by
  have hn := hp.1.1
  rw [r_sleptAll υ hp.1.2.2 hn, show (6 : Nat) = n + (6 - n) by omega, sm_zero (f := τ.1 205) (n := n) (6 - n) (fun l h1 h2 => (hj.2.2.2.2.2.2 l h1 (by omega)).2.2)]
  rw [sm_congr (g := τ.1 205) n (fun l hl => by rw [show 11 + 5 * l + 4 = 10 + 5 + 5 * l by omega]; exact (hX.2 l (by omega)).2.2.2.2)]
theorem sum2 {n h q : Nat} {τ υ : mm_S} (hp : HP n τ υ) (hj : nj n h q τ 201) (hX : nx τ 201 υ 224 10) : f_X10_tiredAll 214 υ = some (sm (τ.1 202) 6, υ) := by
  have hn := hp.1.1
  rw [r_tiredAll υ hp.1.2.2 hn, show (6 : Nat) = n + (6 - n) by omega, sm_zero (f := τ.1 202) (n := n) (6 - n) (fun l h1 h2 => (hj.2.2.2.2.2.2 l h1 (by omega)).1)]
  rw [sm_congr (g := τ.1 202) n (fun l hl => by rw [show 11 + 5 * l = 10 + 1 + 5 * l by omega]; exact (hX.2 l (by omega)).1)]
def ST (n h x : Nat) (σ ρ τ υ : mm_S) : Prop := HP n τ υ ∧ ni n h τ 201 ∧ nx τ 201 υ 224 10 ∧ υ.1 214 24 = -1 ∧ UK ρ υ ∧ UB υ ∧ ag cS σ τ ∧ τ.1 200 7 = Int32.ofNat x ∧ υ.2.1 214 41 = Int64.ofNat x ∧ x < 2147483648
theorem ST_pass {n h x x' : Nat} {σ ρ τ υ τ' υ' : mm_S} (S : ST n h x σ ρ τ υ) (g : ∀ a k, ¬ (a = 200 ∧ (k = 5 ∨ k = 7)) → τ'.1 a k = τ.1 a k) (gw : τ'.2.2 = τ.2.2) (g' : ∀ a k, ¬ (a = 214 ∧ k = 24) → υ'.1 a k = υ.1 a k) (hs : HS n τ' υ')
    (e7 : τ'.1 200 7 = Int32.ofNat x') (e41 : υ'.2.1 214 41 = Int64.ofNat x') (hx : x' < 2147483648) : wp (f_X7_passHours 200 1 τ') (fun τ2 => wp (f_X10_passes 214 υ') (fun r => ST n (h + 1) x' σ ρ τ2 r.2)) := by
  obtain ⟨hp, hj, hX, h24, uk, ub, gc, -, -, -⟩ := S
  have H : HH n h τ' υ' := ⟨HP_keep hp (fun a k q => g a k (by unfold HPc at q; omega)) gw (fun a k q => g' a k (by unfold HPr at q; omega)), hs, nj_keep hj (fun a k q => g a k (by omega)), nx_keep hX (fun a k q => g a k (by omega)) (fun a k q => g' a k (by omega))⟩
  obtain ⟨τ2, e1, r, e2, p1, p2, p3, p4, p5, p6, p7, p8⟩ := h_pass1 H
  refine ⟨τ2, e1, r, e2, ?_⟩
  have uk' : UK ρ υ' := ⟨fun k hk => (g' _ _ (by omega)).trans (uk.1 k hk), fun k hk => (g' _ _ (by omega)).trans (uk.2.1 k hk), fun a k q => (g' _ _ (by unfold rT at q; omega)).trans (uk.2.2 a k q)⟩
  have ub' : UB υ' := ⟨(g' _ _ (by omega)).trans ub.1, (g' _ _ (by omega)).trans ub.2⟩
  have F1 : ko_K _ _ τ2 := fr_X7_passHours (P := fun a k => a = 200 ∧ k = 7) (a0 := 200) (fun a k q => by omega) (ko_refl (σ := τ')) τ2 e1
  have F2 : ko_K _ _ r.2 := fr_X10_passes (P := fun a k => a = 214 ∧ k = 41) (a0 := 214) (fun a k q => by omega) (ko_refl (σ := υ')) r e2
  exact ⟨p1, p2, p3, p6, UK_pass uk' e2 p4, UB_pass ub' e2, cS_pass (fun a k q => (g a k (by unfold cS at q; omega)).trans (gc a k q)) e1, (F1.1 _ _ ⟨rfl, rfl⟩).trans e7, (F2.2.1 _ _ ⟨rfl, rfl⟩).trans e41, hx⟩
theorem m_strangers (i j k z : Int32) : RM (f_X9_strangers 0 i j k z) (f_X10_strangers 214 i j k z) := by
  intro σ ρ H
  obtain ⟨r, n, h, m, Y⟩ := id H
  obtain ⟨hn, y1, y2⟩ := RY_n Y
  unfold f_X9_strangers f_X10_strangers
  rcases RY_hs Y with ⟨s1, s2⟩ | ⟨s1, s2⟩
  · rw [show σ.1 (26 + 1) 0 = 0 from s1, if_pos rfl, r_isHouse0 s2, bd_s, if_pos rfl, wp_some, wp_some]; exact ⟨rfl, H⟩
  rw [show σ.1 (26 + 1) 0 = 1 from s1, if_neg (show ¬ ((1 : Int32) = 0) by decide), r_isHouse1 s2, bd_s, if_neg (show ¬ ((1 : Int32) = 0) by decide)]
  rw [show (0 : Int32) = Int32.ofNat 0 from rfl, show (1 : Int32) = Int32.ofNat 1 from rfl, show (10 : Int32) = Int32.ofNat 10 from rfl, show (60 : Int32) = Int32.ofNat 60 from rfl, show (100 : Int32) = Int32.ofNat 100 from rfl]
  rcases (in_cases 1 10 (by omega) (by omega) i).symm with c | ⟨N, hN0, hN, rfl⟩
  · rw [r_in0 (a := 1) (b := 10) (by omega) (by omega) c, bd_s, rng_a c, if_pos (by decide), wp_some, wp_some]; exact ⟨rfl, H⟩
  rw [r_in1 (a := 1) (b := 10) (by omega) hN0 hN, bd_s, rng_c (by omega) hN0 hN, if_neg (show ¬ ((1 : Int32) = Int32.ofNat 0) by decide)]
  rcases (in_cases 1 60 (by omega) (by omega) j).symm with c | ⟨M, hM0, hM, rfl⟩
  · rw [r_in0 (a := 1) (b := 60) (by omega) (by omega) c, bd_s, rng_a c, if_pos (by decide), wp_some, wp_some]; exact ⟨rfl, H⟩
  rw [r_in1 (a := 1) (b := 60) (by omega) hM0 hM, bd_s, rng_c (by omega) hM0 hM, if_neg (show ¬ ((1 : Int32) = Int32.ofNat 0) by decide)]
  rcases (in_cases 0 100 (by omega) (by omega) k).symm with c | ⟨P, hP0, hP, rfl⟩
  · rw [r_in0 (a := 0) (b := 100) (by omega) (by omega) c, bd_s, rng_a c, if_pos (by decide), wp_some, wp_some]; exact ⟨rfl, H⟩
  rw [r_in1 (a := 0) (b := 100) (by omega) hP0 hP, bd_s, rng_c (by omega) hP0 hP, if_neg (show ¬ ((1 : Int32) = Int32.ofNat 0) by decide)]
  rcases (in_cases 0 1 (by omega) (by omega) z).symm with c | ⟨w, hw0, hw, rfl⟩
  · rw [r_in0 (a := 0) (b := 1) (by omega) (by omega) c, bd_s, rng_b c, if_pos (by decide), wp_some, wp_some]; exact ⟨rfl, H⟩
  rw [r_in1 (a := 0) (b := 1) (by omega) hw0 hw, bd_s, rng_d (by omega) hw0 hw, if_neg (show ¬ ((1 : Int32) = Int32.ofNat 0) by decide)]
  have hx0 : ∃ x, x < 2147483648 ∧ σ.1 26 4 = Int32.ofNat x ∧ ρ.1 214 22 = Int32.ofNat x := by
    obtain ⟨w5, w6⟩ := Y.2.2.2.1.2.2.2.2
    refine ⟨(σ.1 26 4).toInt.toNat, ?_, ?_, ?_⟩
    · have := Int32.toInt_lt (σ.1 26 4); omega
    · rw [show (0 : Int32) = Int32.ofNat 0 from rfl, Int32.lt_iff_toInt_lt, n_int (by omega)] at w6
      have := Int32.toInt_lt (σ.1 26 4)
      rw [← Int32.toInt_inj, n_int (by omega)]; omega
    · rw [w5]
      rw [show (0 : Int32) = Int32.ofNat 0 from rfl, Int32.lt_iff_toInt_lt, n_int (by omega)] at w6
      have := Int32.toInt_lt (σ.1 26 4)
      rw [← Int32.toInt_inj, n_int (by omega)]; omega
  obtain ⟨x0, hx0, ex1, ex2⟩ := hx0
  rw [lt_eq, lt_eq, ex1, ex2, j_of hx0]
  have Y1 : RY r n h m σ (su_j ρ 214 41 (Int64.ofNat x0)) := RY_keep Y ag_refl (fun _ _ _ => rfl)
  obtain ⟨υ, eυ, uk, us⟩ := UK_keeps Y1.2.1
  have nj0 := (RY_nj Y).1
  have sl : f_X10_sleptAll 214 (su_j ρ 214 41 (Int64.ofNat x0)) = some (sm (σ.1 35) 6, su_j ρ 214 41 (Int64.ofNat x0)) := by
    rw [r_sleptAll _ (RY_n Y1).2.2 hn, show (6 : Nat) = n + (6 - n) by omega, sm_zero (f := σ.1 35) (n := n) (6 - n) (fun l h1 h2 => (nj0.2.2.2.2.2.2 l h1 (by omega)).2.2)]
    rw [sm_congr (g := σ.1 35) n (fun l hl => (RY_nx Y1 l (by omega)).2.2.2.2)]
  rw [sl, bd_s, eυ, bv_s]
  have F0 : ko_K _ _ υ := fr_X10_keeps (P := fun a k => a = 214 ∧ k = 41) (a0 := 214) (fun a k q => by omega) (ko_refl (σ := su_j ρ 214 41 (Int64.ofNat x0))) υ eυ
  have e41 : υ.2.1 214 41 = Int64.ofNat x0 := by rw [F0.2.1 _ _ ⟨rfl, rfl⟩, rd_jj, if_pos ⟨rfl, rfl⟩]
  generalize hρ : su_j ρ 214 41 (Int64.ofNat x0) = ρ1 at *
  unfold f_X9_strangers_81 f_X10_strangers_84
  refine wp_lp2 (fun m v σ' w ρ' => w = v ∧ ag cS σ σ' ∧ US ρ1 ρ' ∧ UK ρ1 ρ' ∧ (∃ x, x < 2147483648 ∧ σ'.1 200 7 = Int32.ofNat x ∧ ρ'.2.1 214 41 = Int64.ofNat x) ∧ ∃ a, a ≤ N ∧ m = N - a ∧ v.2.2 = Int32.ofNat a) ?_ lpN N _ _ _ _ (Nat.lt_of_le_of_lt hN (by decide)) ⟨rfl, ag_i (by intro a k q; unfold cS at q; omega), us, uk, ⟨x0, hx0, rd_is _ _ _ _, e41⟩, 0, by omega, by omega, rfl⟩
  clear us uk eυ sl F0 e41
  rintro m' rec rec' ⟨v1, v2, v3⟩ σ' w' ρ' ⟨rfl, g, us, uk, ⟨x, hx, e7, e41⟩, a, ha, rfl, e3⟩ hrec
  replace e3 : v3 = Int32.ofNat a := e3
  subst e3
  simp (disch := omega) only [n_le]
  by_cases ca : a = N
  · subst ca
    simp only [Nat.le_refl, if_true]
    have fin : RZ σ' ρ' := ⟨r, n, h, m, RY_back Y1 g us⟩
    by_cases cw : Int32.ofNat w = 0
    · rw [if_pos cw, if_pos cw, wp_some, wp_some]; exact ⟨rfl, fin⟩
    · rw [if_neg cw, if_neg cw, wp_some, wp_some]; exact ⟨rfl, fin⟩
  · simp only [show ¬ (N ≤ a) by omega, if_false]
    obtain ⟨τ, eτ, H1, g1, h5⟩ := HH_5 Y1 g us
    have F1 : ko_K _ _ τ := fr_X9_walkFromNow (P := fun a k => a = 200 ∧ k = 7) (a0 := 0) (fun a k q => by omega) (ko_refl (σ := σ')) τ eτ
    rw [eτ, bv_s]
    have S0 : ST n h x σ ρ1 τ ρ' := ⟨H1.1, H1.2.2.1, H1.2.2.2, us.2.2.2.1, uk, US_UB us, g1, (F1.1 _ _ ⟨rfl, rfl⟩).trans e7, e41, hx⟩
    unfold f_X9_strangers_94 f_X10_strangers_93
    refine wp_lp2 (fun m v σ' w ρ' => w = v ∧ ∃ b x, b ≤ M ∧ m = M - b ∧ v = Int32.ofNat b ∧ ST n (h + b) x σ ρ1 σ' ρ') ?_ lpN M _ _ _ _ (Nat.lt_of_le_of_lt hM (by decide)) ⟨rfl, 0, x, by omega, by omega, rfl, S0⟩
    clear S0 F1 eτ H1 g1 h5 e7 e41 hx us uk g
    rintro m' rec2 rec2' v σ2 w' ρ2 ⟨rfl, b, x, hb, rfl, rfl, S⟩ hrec2
    simp (disch := omega) only [n_le]
    obtain ⟨hp, hj, hX, h24, uk, ub, g, e7, e41, hx⟩ := id S
    by_cases cb : b = M
    · subst cb
      simp only [Nat.le_refl, if_true]
      rw [show (201 + 4 : Nat) = 205 from rfl, show (26 + 5 + 4 : Nat) = 35 from rfl, show (201 + 1 : Nat) = 202 from rfl, x_sum _ (show (mm_K 205).2 = 6 by decide +kernel), bd_s, x_sum _ (show (mm_K 35).2 = 6 by decide +kernel), bd_s, lt_eq, x_sum _ (show (mm_K 202).2 = 6 by decide +kernel), bd_s, lt_eq, lt_eq, sum5 hp hj hX, bd_s, lt_eq, sum2 hp hj hX, bd_s, lt_eq]
      obtain ⟨ω, eω, us', uk'⟩ := US_back uk ub h24
      rw [eω, bv_s, lt_eq, n_addI]
      have F2 : ko_K _ _ ω := fr_X10_laysBack (P := fun a k => a = 214 ∧ k = 41) (a0 := 214) (fun a k q => by omega) (ko_refl (σ := ρ2)) ω eω
      have s35 : sm (σ2.1 35) 6 = sm (σ.1 35) 6 := sm_congr 6 (fun l hl => g _ _ (by unfold cS; omega))
      exact hrec (N - (a + 1)) _ _ _ _ (by omega) ⟨by rw [s35], g, us', uk', ⟨x, hx, e7, (F2.2.1 _ _ ⟨rfl, rfl⟩).trans e41⟩, a + 1, by omega, rfl, rfl⟩
    · simp only [show ¬ (M ≤ b) by omega, if_false]
      have d1 := dx_lt x
      have d2 := dx_lt (dx x)
      have n1 : σ2.1 27 3 = Int32.ofNat n := hp.1.2.1
      have n2 : ρ2.1 224 3 = Int32.ofNat n := hp.1.2.2
      have z7 : (su_i σ2 200 5 (-1)).1 200 7 = Int32.ofNat x := by rw [rd_ik _ _ _ _ _ _ (by decide)]; exact e7
      unfold f_X7_drawStranger f_X10_strangers_132
      rw [show (100 : Int32) = Int32.ofNat 100 from rfl, lt_eq, x_draw hx z7, bd_s, r_draw hx (by omega : 0 < 100) (by omega) e41, bd_s, n_rem (by omega) (by omega), show (3 : Int32) = Int32.ofNat 3 from rfl]
      simp (disch := omega) only [n_le, gd_n, n_idx, rd_ji, n2, rd_ia _ 27 3 200 _ _ (by decide), n1]
      have fin : ∀ τ' υ' x', (∀ a k, ¬ (a = 200 ∧ (k = 5 ∨ k = 7)) → τ'.1 a k = σ2.1 a k) → τ'.2.2 = σ2.2.2 → (∀ a k, ¬ (a = 214 ∧ k = 24) → υ'.1 a k = ρ2.1 a k) → HS n τ' υ' → τ'.1 200 7 = Int32.ofNat x' → υ'.2.1 214 41 = Int64.ofNat x' → x' < 2147483648 →
          wp (bv (f_X7_passHours 200 (1 : Int32) τ') fun σ20 => lt (Int32.ofNat b + Int32.ofInt (1)) fun x21 => rec2 x21 σ20) (fun r => wp (bd (f_X10_passes 214 υ') fun r3 σ2 => lt (Int32.ofNat b + Int32.ofInt (1)) fun x4 => rec2' x4 σ2) (fun r' => r.1 = r'.1 ∧ RZ r.2 r'.2)) := by
        intro τ' υ' x' q1 q2 q3 q4 q5 q6 q7
        obtain ⟨τ3, e1, r3, e2, S3⟩ := ST_pass S q1 q2 q3 q4 q5 q6 q7
        rw [e1, bv_s, e2, show r3 = (r3.1, r3.2) from rfl, bd_s, lt_eq, lt_eq, n_addI]
        exact hrec2 (M - (b + 1)) _ _ _ _ (by omega) ⟨rfl, b + 1, x', by omega, rfl, rfl, S3⟩
      by_cases c1 : P ≤ dx x / 65536 % 100
      · rw [if_pos c1, if_pos c1, bv_s]
        refine fin _ _ (dx x) (fun a k q => ?_) rfl (fun a k q => ?_) ⟨?_, Or.inl ?_⟩ (rd_is _ _ _ _) ?_ d1
        · rw [rd_ii, if_neg (by omega), rd_ii, if_neg (by omega)]
        · rw [rd_ji]
        · rw [rd_ji, rd_ik _ _ _ _ _ _ (by decide), rd_is]; exact h24
        · rw [rd_ik _ _ _ _ _ _ (by decide), rd_is]
        · rw [rd_jj, if_pos ⟨rfl, rfl⟩]
      · rw [if_neg c1, if_neg c1]
        have e0 : (Int32.ofNat n ≤ 0) ↔ n = 0 := by rw [show (0 : Int32) = Int32.ofNat 0 from rfl, n_le (by omega) (by omega)]; omega
        by_cases c2 : n = 0
        · rw [if_pos (e0.mpr c2), if_pos (e0.mpr c2), bv_s]
          refine fin _ _ (dx x) (fun a k q => ?_) rfl (fun a k q => ?_) ⟨?_, Or.inl ?_⟩ (rd_is _ _ _ _) ?_ d1
          · rw [rd_ii, if_neg (by omega), rd_ii, if_neg (by omega)]
          · rw [rd_ji]
          · rw [rd_ji, rd_ik _ _ _ _ _ _ (by decide), rd_is]; exact h24
          · rw [rd_ik _ _ _ _ _ _ (by decide), rd_is]
          · rw [rd_jj, if_pos ⟨rfl, rfl⟩]
        · rw [if_neg (fun q => c2 (e0.mp q)), if_neg (fun q => c2 (e0.mp q))]
          rw [x_draw (x := dx x) d1 (rd_is _ _ _ _), bd_s, r_draw (x := dx x) d1 (by omega : 0 < n) (by omega) (by rw [rd_jj, if_pos ⟨rfl, rfl⟩]), bd_s, rd_ia _ 27 3 200 _ _ (by decide), rd_ia _ 27 3 200 _ _ (by decide), rd_ia _ 27 3 200 _ _ (by decide), n1, n_rem (by omega) (by omega), lt_eq, lt_eq]
          have q0 : Int32.ofNat n ≠ 0 := fun q => c2 ((n_zero (by omega)).mp q)
          rw [gq_n q0, bv_s]
          have dm : dx (dx x) / 65536 % n < n := Nat.mod_lt _ (by omega)
          refine fin _ _ (dx (dx x)) (fun a k q => ?_) rfl (fun a k q => ?_) ⟨?_, Or.inr ⟨dx (dx x) / 65536 % n, dm, ?_⟩⟩ ?_ ?_ d2
          · rw [rd_ii, if_neg (by omega), rd_ii, if_neg (by omega), rd_ii, if_neg (by omega), rd_ii, if_neg (by omega)]
          · rw [rd_ii, if_neg q, rd_ji, rd_ji]
          · rw [rd_is, rd_is]
          · rw [rd_is]
          · rw [rd_ik _ _ _ _ _ _ (by decide), rd_is]
          · rw [rd_ij, rd_jj, if_pos ⟨rfl, rfl⟩]
