/-! forOne, out, torches -/
/-- -1, 0, 1, .. -/
def vz (k : Nat) : Int32 := Int32.ofNat k - 1
theorem vz_0 : vz 0 = -1 := by decide
theorem vz_s (k : Nat) : vz (k + 1) = Int32.ofNat k := by unfold vz; exact n_sub (k := k + 1) (m := 1) (by omega)
theorem vz_1 (k : Nat) : vz k + Int32.ofInt 1 = vz (k + 1) := by
  rw [vz_s]; unfold vz; rw [show Int32.ofInt 1 = (1 : Int32) from rfl, Int32.sub_add_cancel]
theorem vz_le {n k : Nat} (hn : n < 1000) (hk : k < 1000) : (Int32.ofNat n ≤ vz k) = (n + 1 ≤ k) := by
  cases k with
  | zero => rw [vz_0]; refine propext ⟨fun a => ?_, fun a => by omega⟩; rw [Int32.le_iff_toInt_le, n_int (by omega), show (-1 : Int32).toInt = -1 from by decide] at a; omega
  | succ k => rw [vz_s, n_le (by omega) (by omega)]; exact propext ⟨fun a => by omega, fun a => by omega⟩
theorem vz_eq {o k : Nat} (hn : o < 1000) (hk : k < 1000) : (vz k = Int32.ofNat o) = (k = o + 1) := by
  cases k with
  | zero => rw [vz_0]; refine propext ⟨fun a => ?_, fun a => by omega⟩; exact ((n_ne1 (by omega)).mp a.symm).elim
  | succ k => rw [vz_s, n_eq (by omega) (by omega)]; exact propext ⟨fun a => by omega, fun a => by omega⟩
theorem vz_c {n k : Nat} (hk : k ≤ n) : vz k = -1 ∨ ∃ t, t < n ∧ vz k = Int32.ofNat t := by
  cases k with
  | zero => exact Or.inl vz_0
  | succ k => exact Or.inr ⟨k, by omega, vz_s k⟩
/-- a walk begins again while a night is kept -/
theorem HC_again {r n h m : Nat} {σ ρ σ' ρ' : mm_S} (Y : RY r n h m σ ρ) (g : ag cS σ σ') (us : US ρ ρ') (uk : UK ρ ρ') : ∃ τ, f_X9_walkFromNow 0 σ' = some τ ∧ HC n h σ ρ τ ρ' := by
  obtain ⟨τ, eτ, H1, g1, h5⟩ := HH_5 Y g us
  exact ⟨τ, eτ, H1, h5, uk, US_UB us, g1⟩
theorem HC_seek {n h o : Nat} {σ ρ τ υ : mm_S} {x : Int32} (C : HC n h σ ρ τ υ) (ho : o < n) (hx : x = -1 ∨ ∃ t, t < n ∧ x = Int32.ofNat t) : HC n h σ ρ (su_i τ 204 o x) (su_i υ 224 (11 + 5 * o + 3) x) := by
  obtain ⟨⟨hp, hs, hj, hX⟩, h5, ⟨k1, k2, k3⟩, ⟨b1, b2⟩, g⟩ := C
  have hn := hp.1.1
  refine ⟨⟨HP_keep hp (ag_i (by intro a k; unfold HPc; omega)) rfl (ag_i (by intro a k; unfold HPr; omega)), ?_, nj_seek hj ho hx, nx_seek hX (by omega)⟩, ?_, ⟨fun k hk => ?_, fun k hk => ?_, fun a k q => ?_⟩, ⟨?_, ?_⟩, fun a k q => ?_⟩
  · unfold HS; rw [rd_ia _ _ _ _ _ _ (by decide), rd_ia _ _ _ _ _ _ (by decide)]; exact hs
  · rw [rd_ia _ _ _ _ _ _ (by decide)]; exact h5
  · rw [rd_ia _ _ _ _ _ _ (by decide)]; exact k1 k hk
  · rw [rd_ik _ _ _ _ _ _ (by omega)]; exact k2 k hk
  · rw [rd_ia _ _ _ _ _ _ (by unfold rT at q; omega)]; exact k3 a k q
  · rw [rd_ia _ _ _ _ _ _ (by decide)]; exact b1
  · rw [rd_ia _ _ _ _ _ _ (by decide)]; exact b2
  · rw [rd_ia _ _ _ _ _ _ (by unfold cS at q; omega)]; exact g a k q
theorem m_forOne (i j k z : Int32) : RM (f_X9_forOne 0 i j k z) (f_X10_forOne 214 i j k z) := by
  intro σ ρ H
  obtain ⟨r, n, h, m, Y⟩ := id H
  obtain ⟨hn, y1, y2⟩ := RY_n Y
  have nX := Y.2.2.2.1.2.1.2.2
  unfold f_X9_forOne f_X10_forOne
  rcases two_cases hn i j with ⟨l, o, hl, ho, q, rfl, rfl⟩ | c
  · rw [x_two1 y1 hn hl ho q, r_two1 y2 hn hl ho q, bd_s, bd_s, if_neg (show ¬ ((1 : Int32) = 0) by decide), if_neg (show ¬ ((1 : Int32) = 0) by decide), x_isIn, bd_s, r_isIn _ (by omega), bd_s]
    have efl : ρ.1 224 (11 + 5 * o + 2) = bt (σ.1 31 1) o := by rw [show 11 + 5 * o + 2 = 0 + 10 + 3 + 5 * o by omega]; exact (nX.2 o (by omega)).2.2.1
    rw [efl, show (26 + 5 : Nat) = 31 from rfl]
    rcases bt_01 (σ.1 31 1) o with b | b
    · rw [b, if_pos rfl, if_neg (show ¬ ((0 : Int32) = 1) by decide), if_pos rfl]
      rcases in_cases 1 30 (by omega) (by omega) k with ⟨N, hN0, hN, rfl⟩ | c
      · rw [r_in1 (a := 1) (b := 30) (by omega) (by omega) hN, bd_s, if_neg (show ¬ ((1 : Int32) = 0) by decide)]
        rw [show (1 : Int32) = Int32.ofNat 1 from rfl, show (30 : Int32) = Int32.ofNat 30 from rfl, show (0 : Int32) = Int32.ofNat 0 from rfl, rng_c (by omega) hN0 hN]
        rcases in_cases 0 1 (by omega) (by omega) z with ⟨w, _, hw, rfl⟩ | c
        · rw [r_in1 (a := 0) (b := 1) (by omega) (by omega) hw, bd_s, rng_d (by omega) (by omega) hw, if_neg (show ¬ ((1 : Int32) = Int32.ofNat 0) by decide), r_sleptBy _ (by omega), bd_s]
          obtain ⟨υ, eυ, uk, us⟩ := UK_keeps Y.2.1
          rw [eυ, bv_s]
          have s0 : ρ.1 224 (11 + 5 * l + 4) = σ.1 35 l := by rw [show 11 + 5 * l + 4 = 0 + 10 + 5 + 5 * l by omega]; exact (nX.2 l (by omega)).2.2.2.2
          rw [s0]
          unfold f_X9_forOne_57 f_X10_forOne_63
          refine wp_lp2 (fun m v σ' w ρ' => w = v ∧ ag cS σ σ' ∧ US ρ ρ' ∧ UK ρ ρ' ∧ ∃ k, k ≤ n + 1 ∧ m = n + 1 - k ∧ v.2.2 = vz k) ?_ lpN (n + 1) _ _ _ _ (Nat.lt_of_le_of_lt (show n + 1 ≤ 7 by omega) (by decide)) ⟨rfl, ag_refl, us, uk, 0, by omega, by omega, vz_0.symm⟩
          clear us uk eυ
          rintro m' rec rec' ⟨v1, v2, v3⟩ σ' w' ρ' ⟨rfl, g, us, uk, k, hk, rfl, e3⟩ hrec
          replace e3 : v3 = vz k := e3
          subst e3
          have n1 : σ'.1 27 3 = Int32.ofNat n := (g _ _ (by unfold cS; omega)).trans y1
          have n2 : ρ'.1 224 3 = Int32.ofNat n := (us.1 3).trans y2
          simp (disch := omega) only [show (3 : Int32) = Int32.ofNat 3 from rfl, show (26 + 1 : Nat) = 27 from rfl, n1, n2, gd_n, n_idx, vz_le, vz_eq]
          by_cases cn : k = n + 1
          · subst cn
            simp only [Nat.le_refl, if_true]
            have w0 : (Int32.ofNat 0 = (0 : Int32)) = True := eq_true rfl
            have w1 : (Int32.ofNat 1 = (0 : Int32)) = False := eq_false (by decide)
            rcases (by omega : w = 0 ∨ w = 1) with rfl | rfl
            · simp only [w0, if_true, wp_some]; exact ⟨trivial, r, n, h, m, RY_back Y g us⟩
            · simp only [w1, if_false, wp_some]; exact ⟨trivial, r, n, h, m, RY_back Y g us⟩
          · simp only [show ¬ (n + 1 ≤ k) by omega, if_false]
            by_cases co : k = o + 1
            · simp only [co, if_true, lt_eq, vz_1]
              exact hrec (n + 1 - (o + 1 + 1)) _ _ _ _ (by omega) ⟨rfl, g, us, uk, o + 1 + 1, by omega, rfl, rfl⟩
            · simp only [co, if_false]
              obtain ⟨τ, eτ, C0⟩ := HC_again Y g us uk
              have C1 := HC_seek (x := vz k) C0 ho (vz_c (by omega))
              obtain ⟨τ2, υ2, f1, f2, C2, -⟩ := HC_many (N := N) C1 (by omega)
              obtain ⟨ω, eω, -, us2, uk2⟩ := HC_back Y C2
              rw [eτ, bv_s, show (11 : Int32) = Int32.ofNat 11 from rfl, show (5 : Int32) = Int32.ofNat 5 from rfl]
              simp (disch := omega) only [n_mul, n_add, gd_n, n_idx, lt_eq, show (201 + 3 : Nat) = 204 from rfl, f1, f2, bv_s, r_sleptBy, bd_s, eω, vz_1]
              have sa : υ2.1 224 (11 + 5 * l + 4) = τ2.1 205 l := by rw [show 11 + 5 * l + 4 = 10 + 5 + 5 * l by omega]; exact (C2.1.2.2.2.2 l (by omega)).2.2.2.2
              have sb : τ2.1 35 l = σ.1 35 l := C2.2.2.2.2 _ _ (by unfold cS; omega)
              simp only [sa, show (201 + 4 : Nat) = 205 from rfl, show (31 + 4 : Nat) = 35 from rfl, sb, le_not]
              by_cases c1 : v2 < τ2.1 205 l - σ.1 35 l
              · simp only [c1, not_true_eq_false, if_true, if_false]
                exact hrec (n + 1 - (k + 1)) _ _ _ _ (by omega) ⟨rfl, C2.2.2.2.2, us2, uk2, k + 1, by omega, rfl, rfl⟩
              · simp only [c1, not_false_eq_true, if_true, if_false]
                exact hrec (n + 1 - (k + 1)) _ _ _ _ (by omega) ⟨rfl, C2.2.2.2.2, us2, uk2, k + 1, by omega, rfl, rfl⟩
        · rw [r_in0 (a := 0) (b := 1) (by omega) (by omega) c, bd_s, rng_b c, wp_some, if_pos (by decide), wp_some]; exact ⟨rfl, H⟩
      · rw [r_in0 (a := 1) (b := 30) (by omega) (by omega) c, bd_s, if_pos rfl]
        rw [show (1 : Int32) = Int32.ofNat 1 from rfl, show (30 : Int32) = Int32.ofNat 30 from rfl, rng_a c, wp_some, wp_some]; exact ⟨rfl, H⟩
    · rw [b, if_neg (show ¬ ((1 : Int32) = 0) by decide), if_pos rfl, if_neg (show ¬ ((1 : Int32) = 0) by decide), wp_some, wp_some]; exact ⟨rfl, H⟩
  · rw [x_two0 y1 hn c, r_two0 y2 hn c, bd_s, bd_s, if_pos rfl, if_pos rfl, wp_some, wp_some]; exact ⟨rfl, H⟩
/-- nobody but one may be in -/
theorem HC_never {n h b : Nat} {σ ρ τ υ : mm_S} (C : HC n h σ ρ τ υ) (hb : b < n) : HH n h (su_i τ 200 4 (Int32.ofNat b)) (su_i υ 214 23 (Int32.ofNat b)) := by
  obtain ⟨⟨⟨p1, p2, p3, p4, p5, p6, p7, p8⟩, hs, hj, hX⟩, -⟩ := C
  have za : ∀ a k, ¬ (a = 200 ∧ k = 4) → (su_i τ 200 4 (Int32.ofNat b)).1 a k = τ.1 a k := fun a k q => by rw [rd_ii, if_neg q]
  have zb : ∀ a k, ¬ (a = 214 ∧ k = 23) → (su_i υ 214 23 (Int32.ofNat b)).1 a k = υ.1 a k := fun a k q => by rw [rd_ii, if_neg q]
  refine ⟨⟨?_, ?_, ?_, ?_, fun k hk => ?_, ⟨Or.inr ⟨b, hb, rd_is _ _ _ _⟩, by rw [rd_is, rd_is]⟩, fun l hl => ?_, ?_⟩, ?_, nj_keep hj (ag_i (by intro a k; omega)), nx_keep hX (ag_i (by intro a k; omega)) (ag_i (by intro a k; omega))⟩
  · rw [za _ _ (by omega), zb _ _ (by omega)]; exact p1
  · rw [za _ _ (by omega), zb _ _ (by omega)]; exact p2
  · rw [za _ _ (by omega), zb _ _ (by omega)]; exact p3
  · rw [za _ _ (by omega), zb _ _ (by omega)]; exact p4
  · rw [za _ _ (by omega), zb _ _ (by omega)]; exact p5 k hk
  · rw [za _ _ (by omega), zb _ _ (by omega), zb _ _ (by omega)]; exact p7 l hl
  · rw [za _ _ (by omega), za _ _ (by omega), za _ _ (by omega), zb _ _ (by omega)]
    rcases p8 with p8 | ⟨k, q1, q2, q3, q4⟩
    · exact Or.inl p8
    · exact Or.inr ⟨k, q1, q2, q3, EV_keep (by omega) q4 (ag_i (by intro a k; omega)) (ag_i (by intro a k; omega))⟩
  · unfold HS; rw [za _ _ (by omega), zb _ _ (by omega)]; exact hs
theorem r_sum5 {n h : Nat} {τ υ : mm_S} (H : HH n h τ υ) : f_X10_sleptAll 214 υ = some (sm (τ.1 205) 6, υ) := by
  obtain ⟨hp, -, hj, hX⟩ := H
  have hn := hp.1.1
  rw [r_sleptAll υ hp.1.2.2 hn, show (6 : Nat) = n + (6 - n) by omega, sm_zero (f := τ.1 205) (n := n) (6 - n) (fun l h1 h2 => (hj.2.2.2.2.2.2 l h1 (by omega)).2.2)]
  rw [sm_congr (g := τ.1 205) n (fun l hl => by rw [show 11 + 5 * l + 4 = 10 + 5 + 5 * l by omega]; exact (hX.2 l (by omega)).2.2.2.2)]
theorem sm_ms {f g : Nat → Int32} {N : Nat} : ∀ k, k ≤ 6 → (∀ j, j < 6 → ∃ a, a ≤ N ∧ g j = f j + Int32.ofNat a) → ∃ a, a ≤ k * N ∧ sm g k = sm f k + Int32.ofNat a
  | 0, _, _ => ⟨0, by omega, rfl⟩
  | k + 1, hk, h => by
    obtain ⟨a, ha, e⟩ := sm_ms k (by omega) h
    obtain ⟨b, hb, e'⟩ := h k (by omega)
    refine ⟨a + b, by rw [Nat.add_mul, Nat.one_mul]; omega, ?_⟩
    show sm g k + g k = sm f k + f k + Int32.ofNat (a + b)
    rw [e, e', ← n_add]
    rw [Int32.add_assoc, Int32.add_assoc, ← Int32.add_assoc (Int32.ofNat a), Int32.add_comm (Int32.ofNat a) (f k), Int32.add_assoc]
theorem wp_lp3 {ρ ρ' V W : Type} {Q : ρ → ρ' → Prop} {F : (V → mm_S → Option ρ) → V → mm_S → Option ρ} {G : (W → mm_S → Option ρ') → W → mm_S → Option ρ'} (I : Nat → V → mm_S → W → mm_S → Prop)
    (hF : ∀ n rec rec' v σ w τ, I n v σ w τ → (∀ m v' σ' w' τ', m < n → I m v' σ' w' τ' → wp (rec v' σ') (fun r => wp (rec' w' τ') (fun r' => Q r r'))) → wp (F rec v σ) (fun r => wp (G rec' w τ) (fun r' => Q r r'))) :
    ∀ (N N' n : Nat) (v : V) (σ : mm_S) (w : W) (τ : mm_S), n < N → n < N' → I n v σ w τ → wp (lp N F v σ) (fun r => wp (lp N' G w τ) (fun r' => Q r r')) := by
  intro N
  induction N with
  | zero => intro N' n v σ w τ h; omega
  | succ N ih =>
    intro N' n v σ w τ hn hn' hi
    cases N' with
    | zero => omega
    | succ N' => exact hF n (lp N F) (lp N' G) v σ w τ hi (fun m v' σ' w' τ' hm hi' => ih N' m v' σ' w' τ' (by omega) (by omega) hi')
theorem su_ii (σ : mm_S) (a k : Nat) (x y : Int32) : su_i (su_i σ a k x) a k y = su_i σ a k y := by
  unfold su_i
  refine Prod.ext ?_ rfl
  funext i j
  show (if i = a ∧ j = k then y else if i = a ∧ j = k then x else σ.1 i j) = if i = a ∧ j = k then y else σ.1 i j
  by_cases c : i = a ∧ j = k
  · rw [if_pos c, if_pos c]
  · rw [if_neg c, if_neg c, if_neg c]
theorem K205 : (mm_K (201 + 4)).2 = 6 := by decide +kernel
theorem K35 : (mm_K (26 + 5 + 4)).2 = 6 := by decide +kernel
theorem HC_205 {r n h m : Nat} {σ ρ τ υ : mm_S} (Y : RY r n h m σ ρ) (H : HH n h τ υ) (e : ∀ k, υ.1 224 k = ρ.1 224 k) : ∀ k, k < 6 → τ.1 205 k = σ.1 35 k := fun k hk => by
  have a := (H.2.2.2.2 k hk).2.2.2.2
  have b := (Y.2.2.2.1.2.1.2.2.2 k hk).2.2.2.2
  rw [e] at a
  rw [show 0 + 10 + 5 + 5 * k = 10 + 5 + 5 * k by omega] at b
  exact a.symm.trans b
/-- N hours of a walk: how much more was slept by all -/
theorem h_out {r n h m N : Nat} {σ ρ τ υ : mm_S} (Y : RY r n h m σ ρ) (H : HH n h τ υ) (h5 : τ.1 200 5 = -1) (e : ∀ k, υ.1 224 k = ρ.1 224 k) (uk : UK ρ υ) (u25 : υ.1 214 25 = 0) (g : ag cS σ τ) (hN : N ≤ 100) :
    ∃ τ2 ω a, a ≤ 6 * N ∧ f_X7_passHours 200 (Int32.ofNat N) τ = some τ2 ∧ f_X9_sum (201 + 4) τ2 = some (sm (τ2.1 205) 6, τ2) ∧ f_X9_sum (26 + 5 + 4) τ2 = some (sm (σ.1 35) 6, τ2) ∧ sm (τ2.1 205) 6 - sm (σ.1 35) 6 = Int32.ofNat a ∧ f_X10_sleptIn 214 (Int32.ofNat N) υ = some (Int32.ofNat a, ω) ∧ ag cS σ τ2 ∧ (∀ k, ω.1 224 k = ρ.1 224 k) ∧ UK ρ ω ∧ ω.1 214 24 = -1 ∧ ω.1 214 25 = 0 := by
  obtain ⟨τ2, e1, υ2, e2, H2, h52, so, ms⟩ := h_many (N := N) H h5 (by omega)
  have g2 := cS_pass g e1
  have uk2 := UK_passAll uk e2 so
  obtain ⟨ω, eω, b1, b2, b3⟩ := UK_back uk2
  have F := fr_X10_passesAll (P := fun a k => a = 214 ∧ k = 25) (a0 := 214) (fun a k q => by omega) (ko_refl (σ := υ)) υ2 e2
  obtain ⟨a, ha, ea⟩ := sm_ms (f := τ.1 205) (g := τ2.1 205) 6 (by omega) ms
  have c0 : sm (τ.1 205) 6 = sm (σ.1 35) 6 := sm_congr 6 (HC_205 Y H e)
  have ed : sm (τ2.1 205) 6 - sm (σ.1 35) 6 = Int32.ofNat a := by rw [ea, c0, Int32.add_comm, Int32.add_sub_cancel]
  refine ⟨τ2, ω, a, ha, e1, x_sum τ2 K205, ?_, ed, ?_, g2, b1, b2, (b3 _ _ (by decide)).trans (HH_24 H2 h52), (b3 _ _ (by decide)).trans ((F.1 _ _ ⟨rfl, rfl⟩).trans u25)⟩
  · rw [x_sum τ2 K35, sm_congr (f := τ2.1 (26 + 5 + 4)) (g := σ.1 35) 6 (fun l _ => g2 _ _ (by unfold cS; omega))]
  · unfold f_X10_sleptIn
    rw [r_sum5 H, bd_s, e2, bv_s, r_sum5 H2, bd_s, lt_eq, eω, bv_s, c0, ed]
theorem m_out (i j : Int32) : RM (f_X9_out 0 i j) (f_X10_out 214 i j) := by
  intro σ ρ H
  obtain ⟨r, n, h, m, Y⟩ := id H
  obtain ⟨hn, y1, y2⟩ := RY_n Y
  unfold f_X9_out f_X10_out
  rcases RY_hs Y with ⟨s1, s2⟩ | ⟨s1, s2⟩
  · rw [show σ.1 (26 + 1) 0 = 0 from s1, if_pos rfl, r_isHouse0 s2, bd_s, if_pos rfl, wp_some, wp_some]; exact ⟨rfl, H⟩
  · rw [show σ.1 (26 + 1) 0 = 1 from s1, if_neg (show ¬ ((1 : Int32) = 0) by decide), r_isHouse1 s2, bd_s, if_neg (show ¬ ((1 : Int32) = 0) by decide)]
    rcases in_cases 1 30 (by omega) (by omega) i with ⟨N, hN0, hN, rfl⟩ | c
    · rw [r_in1 (a := 1) (b := 30) (by omega) (by omega) hN, bd_s, if_neg (show ¬ ((1 : Int32) = 0) by decide)]
      rw [show (0 : Int32) = Int32.ofNat 0 from rfl, show (1 : Int32) = Int32.ofNat 1 from rfl, show (30 : Int32) = Int32.ofNat 30 from rfl, rng_c (by omega) hN0 hN]
      rcases in_cases 0 1 (by omega) (by omega) j with ⟨w, _, hw, rfl⟩ | c
      · rw [r_in1 (a := 0) (b := 1) (by omega) (by omega) hw, bd_s, rng_d (by omega) (by omega) hw, if_neg (show ¬ ((1 : Int32) = Int32.ofNat 0) by decide)]
        obtain ⟨τ, υ, eτ, eυ, C0, us⟩ := HC_start Y
        have e4 : τ.1 200 4 = -1 := C0.1.1.2.2.2.2.2.1.2.symm.trans us.2.2.1
        have H0 : HH n h (su_i τ 200 4 (-1)) υ := by
          obtain ⟨⟨hp, hs, hj, hX⟩, -⟩ := C0
          refine ⟨HP_keep hp (fun a k q => ?_) rfl ag_refl, ?_, nj_keep hj (ag_i (by intro a k; omega)), nx_keep hX (ag_i (by intro a k; omega)) ag_refl⟩
          · rw [rd_ii]; by_cases c : a = 200 ∧ k = 4
            · rw [if_pos c, c.1, c.2, e4]
            · rw [if_neg c]
          · unfold HS; rw [rd_ik _ _ _ _ _ _ (by decide)]; exact hs
        obtain ⟨τ2, ω, a, ha, f1, f2, f3, f4, f5, f6, f7, f8, f9, f10⟩ := h_out (N := N) Y H0 (by rw [rd_ik _ _ _ _ _ _ (by decide)]; exact C0.2.1) us.1 C0.2.2.1 us.2.2.2.2 (fun a k q => by rw [rd_ia _ _ _ _ _ _ (by unfold cS at q; omega)]; exact C0.2.2.2.2 a k q) (by omega)
        rw [eυ, bv_s, f5, bd_s]
        unfold f_X9_out_44 f_X10_out_48
        rw [show lpN = 999999 + 1 from rfl, lp_s]
        simp only [show -Int32.ofNat 1 = (-1 : Int32) from rfl]
        rw [show σ.1 (26 + 1) 3 = Int32.ofNat n from y1, if_neg (show ¬ (Int32.ofNat n ≤ (-1 : Int32)) by rw [Int32.le_iff_toInt_le, n_int (by omega), show (-1 : Int32).toInt = -1 from by decide]; omega), eτ, bv_s, lt_eq, f1, bv_s, f2, bd_s, f3, bd_s, lt_eq, f4]
        rw [if_neg (show ¬ (Int32.ofNat a ≤ (-1 : Int32)) by rw [Int32.le_iff_toInt_le, n_int (by omega), show (-1 : Int32).toInt = -1 from by decide]; omega), lt_eq, show (-1 : Int32) + Int32.ofInt 1 = Int32.ofNat 0 from by decide]
        refine wp_lp3 (fun m v σ' w ρ' => w = v ∧ ag cS σ σ' ∧ (∀ k, ρ'.1 224 k = ρ.1 224 k) ∧ UK ρ ρ' ∧ ρ'.1 214 24 = -1 ∧ ρ'.1 214 25 = 0 ∧ ∃ k, k ≤ n ∧ m = n - k ∧ v.2.2 = Int32.ofNat k) ?_ 999999 (999999 + 1) n _ _ _ _ (Nat.lt_of_le_of_lt hn (by decide)) (Nat.lt_of_le_of_lt hn (by decide)) ⟨rfl, f6, f7, f8, f9, f10, 0, by omega, by omega, rfl⟩
        clear f1 f2 f3 f4 f5 f6 f7 f8 f9 f10 ha H0 e4 C0 us eτ eυ
        rintro m' rec rec' ⟨v1, v2, v3⟩ σ' w' ρ' ⟨rfl, g, u1, uk, u24, u25, k, hk, rfl, e3⟩ hrec
        replace e3 : v3 = Int32.ofNat k := e3
        subst e3
        have us : US ρ (su_i ρ' 214 23 (-1)) := by
          refine ⟨fun k => by rw [rd_ia _ _ _ _ _ _ (by decide)]; exact u1 k, fun a k q => by rw [rd_ii, if_neg (by unfold rT at q; omega)]; exact uk.2.2 a k q, rd_is _ _ _ _, by rw [rd_ik _ _ _ _ _ _ (by decide)]; exact u24, by rw [rd_ik _ _ _ _ _ _ (by decide)]; exact u25⟩
        have ukq : ∀ x, UK ρ (su_i ρ' 214 23 x) := fun x => ⟨fun k hk => by rw [rd_ia _ _ _ _ _ _ (by decide)]; exact uk.1 k hk, fun k hk => by rw [rd_ia _ _ _ _ _ _ (by decide)]; exact uk.2.1 k hk, fun a k q => by rw [rd_ii, if_neg (by unfold rT at q; omega)]; exact uk.2.2 a k q⟩
        have n1 : σ'.1 27 3 = Int32.ofNat n := (g _ _ (by unfold cS; omega)).trans y1
        have n2 : ρ'.1 224 3 = Int32.ofNat n := (u1 3).trans y2
        simp (disch := omega) only [show (3 : Int32) = Int32.ofNat 3 from rfl, show (26 + 1 : Nat) = 27 from rfl, n1, n2, gd_n, n_idx, n_le]
        by_cases cn : k = n
        · subst cn
          simp only [Nat.le_refl, if_true, lt_eq]
          have w0 : (Int32.ofNat 0 = (0 : Int32)) = True := eq_true rfl
          have w1 : (Int32.ofNat 1 = (0 : Int32)) = False := eq_false (by decide)
          rcases (by omega : w = 0 ∨ w = 1) with rfl | rfl
          · simp only [w0, if_true, wp_some]; exact ⟨trivial, r, k, h, m, RY_back Y g us⟩
          · simp only [w1, if_false, wp_some]; exact ⟨trivial, r, k, h, m, RY_back Y g us⟩
        · simp only [show ¬ (n ≤ k) by omega, if_false]
          obtain ⟨τ, eτ, C0⟩ := HC_again Y g us (ukq _)
          have H0 := HC_never C0 (show k < n by omega)
          rw [su_ii] at H0
          obtain ⟨τ2, ω, a, ha, f1, f2, f3, f4, f5, f6, f7, f8, f9, f10⟩ := h_out (N := N) Y H0 (by rw [rd_ik _ _ _ _ _ _ (by decide)]; exact C0.2.1) (fun k => by rw [rd_ia _ _ _ _ _ _ (by decide)]; exact u1 k) (ukq _) (by rw [rd_ik _ _ _ _ _ _ (by decide)]; exact u25) (fun a k q => by rw [rd_ia _ _ _ _ _ _ (by unfold cS at q; omega)]; exact C0.2.2.2.2 a k q) (by omega)
          simp only [eτ, bv_s, lt_eq, f1, f2, f3, f4, f5, bd_s, le_not, n_addI]
          by_cases c1 : v2 < Int32.ofNat a
          · simp only [c1, not_true_eq_false, if_true, if_false]
            exact hrec (n - (k + 1)) _ _ _ _ (by omega) ⟨rfl, f6, f7, f8, f9, f10, k + 1, by omega, rfl, rfl⟩
          · simp only [c1, not_false_eq_true, if_true, if_false]
            exact hrec (n - (k + 1)) _ _ _ _ (by omega) ⟨rfl, f6, f7, f8, f9, f10, k + 1, by omega, rfl, rfl⟩
      · rw [r_in0 (a := 0) (b := 1) (by omega) (by omega) c, bd_s, rng_b c, wp_some, if_pos (by decide), wp_some]; exact ⟨rfl, H⟩
    · rw [r_in0 (a := 1) (b := 30) (by omega) (by omega) c, bd_s, if_pos rfl]
      rw [show (1 : Int32) = Int32.ofNat 1 from rfl, show (30 : Int32) = Int32.ofNat 30 from rfl, rng_a c, wp_some, wp_some]; exact ⟨rfl, H⟩
/-- two loops in step, of which the second may go on alone -/
theorem wp_lp4 {ρ ρ' V W : Type} {Q : ρ → ρ' → Prop} {F : (V → mm_S → Option ρ) → V → mm_S → Option ρ} {G : (W → mm_S → Option ρ') → W → mm_S → Option ρ'} (I : Nat → V → mm_S → W → mm_S → Prop) (J : Nat → ρ → W → mm_S → Prop)
    (hG : ∀ n rec' r w τ, J n r w τ → (∀ m w' τ', m < n → J m r w' τ' → wp (rec' w' τ') (fun r' => Q r r')) → wp (G rec' w τ) (fun r' => Q r r'))
    (hF : ∀ n rec rec' v σ w τ, I n v σ w τ → (∀ m v' σ' w' τ', m < n → I m v' σ' w' τ' → wp (rec v' σ') (fun r => wp (rec' w' τ') (fun r' => Q r r'))) → (∀ m r w' τ', m < n → J m r w' τ' → wp (rec' w' τ') (fun r' => Q r r')) → wp (F rec v σ) (fun r => wp (G rec' w τ) (fun r' => Q r r'))) :
    ∀ (N N' n : Nat) (v : V) (σ : mm_S) (w : W) (τ : mm_S), n < N → n < N' → I n v σ w τ → wp (lp N F v σ) (fun r => wp (lp N' G w τ) (fun r' => Q r r')) := by
  intro N
  induction N with
  | zero => intro N' n v σ w τ h; omega
  | succ N ih =>
    intro N' n v σ w τ hn hn' hi
    cases N' with
    | zero => omega
    | succ N' => exact hF n (lp N F) (lp N' G) v σ w τ hi (fun m v' σ' w' τ' hm hi' => ih N' m v' σ' w' τ' (by omega) (by omega) hi') (fun m r w' τ' hm hj => wp_lp (fun m w τ => J m r w τ) (fun n rec w τ hj' hr => hG n rec r w τ hj' hr) N' m w' τ' (by omega) hj)
theorem r_weary {n L : Nat} {υ : mm_S} (e : υ.1 224 3 = Int32.ofNat n) (hn : n ≤ 6) (hL : L ≤ n) (h1 : ∀ j, j < L → ¬ ¬ (υ.1 224 (11 + 5 * j) ≤ 40)) (h2 : L = n ∨ ¬ (υ.1 224 (11 + 5 * L) ≤ 40)) : f_X10_isNobodyWeary 214 υ = some (if L = n then 1 else 0, υ) := by
  unfold f_X10_isNobodyWeary f_X10_isNobodyWeary_2
  refine wp_eq (wp_lp (fun m v τ => τ = υ ∧ ∃ k, k ≤ L ∧ m = L - k ∧ v = Int32.ofNat k) ?_ lpN L _ _ (Nat.lt_of_le_of_lt (Nat.le_trans hL hn) (by decide)) ⟨rfl, 0, by omega, by omega, rfl⟩)
  rintro m rec v τ ⟨rfl, k, hk, rfl, rfl⟩ hrec
  rw [show (3 : Int32) = Int32.ofNat 3 from rfl]
  simp (disch := omega) only [gd_n, n_idx, e, n_le, lt_eq, n_addI]
  by_cases c : k = L
  · subst c
    by_cases d : k = n
    · rw [if_pos (by omega), wp_some, if_pos d]
    · rw [if_neg (by omega), r_tiredOf _ (by omega), bd_s, if_neg (h2.resolve_left d), wp_some, if_neg d]
  · rw [if_neg (by omega), r_tiredOf _ (by omega), bd_s, if_pos (Classical.not_not.mp (h1 k (by omega)))]
    exact hrec (L - (k + 1)) _ _ (by omega) ⟨rfl, k + 1, by omega, rfl, rfl⟩
theorem x_weary {n L : Nat} {k14 : Int32 → mm_S → Option (Int32 × mm_S)} {i2 i3 : Int32} {τ : mm_S} {Q : Int32 × mm_S → Prop} (e : τ.1 27 3 = Int32.ofNat n) (hn : n ≤ 6) (hL : L ≤ n) (h1 : ∀ j, j < L → ¬ ¬ (τ.1 202 j ≤ 40)) (h2 : L = n ∨ ¬ (τ.1 202 L ≤ 40))
    (H : wp (if L = n then k14 (i3 + Int32.ofInt 1) τ else some (0, τ)) Q) : wp (f_X9_suffice_30 k14 0 i2 i3 0 τ) Q := by
  unfold f_X9_suffice_30
  refine wp_lp (fun m v σ => σ = τ ∧ ∃ k, k ≤ L ∧ m = L - k ∧ v = Int32.ofNat k) ?_ lpN L _ _ (Nat.lt_of_le_of_lt (Nat.le_trans hL hn) (by decide)) ⟨rfl, 0, by omega, by omega, rfl⟩
  rintro m rec v σ ⟨rfl, k, hk, rfl, rfl⟩ hrec
  simp (disch := omega) only [show (26 + 1 : Nat) = 27 from rfl, show (201 + 1 : Nat) = 202 from rfl, gd_n, n_idx, e, n_le, lt_eq, n_addI]
  by_cases c : k = L
  · subst c
    by_cases d : k = n
    · rw [if_pos (by omega)]; rw [if_pos d] at H; exact H
    · rw [if_neg (by omega), if_neg (h2.resolve_left d)]; rw [if_neg d] at H; exact H
  · rw [if_neg (by omega), if_pos (Classical.not_not.mp (h1 k (by omega)))]
    exact hrec (L - (k + 1)) _ _ (by omega) ⟨rfl, k + 1, by omega, rfl, rfl⟩
/-- another number of torches -/
theorem HC_torch {n h t : Nat} {σ ρ τ υ : mm_S} (C : HC n h σ ρ τ υ) (ht : t ≤ 7) : HC n h σ (su_i ρ 224 2 (Int32.ofNat t)) (su_i τ 200 3 (Int32.ofNat t)) (su_i υ 224 2 (Int32.ofNat t)) := by
  obtain ⟨⟨⟨p1, p2, p3, p4, p5, p6, p7, p8⟩, hs, hj, hX⟩, h5, ⟨k1, k2, k3⟩, ⟨b1, b2⟩, g⟩ := C
  have za : ∀ a k, ¬ (a = 200 ∧ k = 3) → (su_i τ 200 3 (Int32.ofNat t)).1 a k = τ.1 a k := fun a k q => by rw [rd_ii, if_neg q]
  have zb : ∀ a k, ¬ (a = 224 ∧ k = 2) → (su_i υ 224 2 (Int32.ofNat t)).1 a k = υ.1 a k := fun a k q => by rw [rd_ii, if_neg q]
  refine ⟨⟨⟨?_, ?_, ⟨⟨t, ht, rd_is _ _ _ _⟩, by rw [rd_is, rd_is]⟩, ?_, fun k hk => ?_, ?_, fun l hl => ?_, ?_⟩, ?_, nj_keep hj (ag_i (by intro a k; omega)), nx_keep hX (ag_i (by intro a k; omega)) (ag_i (by intro a k; omega))⟩, ?_, ⟨fun k hk => ?_, fun k hk => ?_, fun a k q => ?_⟩, ⟨?_, ?_⟩, fun a k q => ?_⟩
  · rw [za _ _ (by omega), zb _ _ (by omega)]; exact p1
  · rw [za _ _ (by omega), zb _ _ (by omega)]; exact p2
  · rw [za _ _ (by omega), zb _ _ (by omega)]; exact p4
  · rw [za _ _ (by omega), zb _ _ (by omega)]; exact p5 k hk
  · rw [za _ _ (by omega), zb _ _ (by omega)]; exact p6
  · rw [za _ _ (by omega), zb _ _ (by omega), zb _ _ (by omega)]; exact p7 l hl
  · rw [za _ _ (by omega), za _ _ (by omega), za _ _ (by omega), zb _ _ (by omega)]
    rcases p8 with p8 | ⟨k, q1, q2, q3, q4⟩
    · exact Or.inl p8
    · exact Or.inr ⟨k, q1, q2, q3, EV_keep (by omega) q4 (ag_i (by intro a k; omega)) (ag_i (by intro a k; omega))⟩
  · unfold HS; rw [za _ _ (by omega), zb _ _ (by omega)]; exact hs
  · rw [za _ _ (by omega)]; exact h5
  · rw [zb _ _ (by omega), rd_ii, if_neg (by omega)]; exact k1 k hk
  · rw [rd_ii, rd_ii]; by_cases c : k = 2
    · rw [if_pos ⟨rfl, c⟩, if_pos ⟨rfl, c⟩]
    · rw [if_neg (by omega), if_neg (by omega)]; exact k2 k hk
  · rw [zb _ _ (by unfold rT at q; omega), rd_ii, if_neg (by unfold rT at q; omega)]; exact k3 a k q
  · rw [zb _ _ (by omega)]; exact b1
  · rw [zb _ _ (by omega)]; exact b2
  · rw [za _ _ (by unfold cS at q; omega)]; exact g a k q
theorem m_torches (i : Int32) : RM (f_X9_torches 0 i) (f_X10_torches 214 i) := by
  intro σ ρ H
  obtain ⟨r, n, h, m, Y⟩ := id H
  obtain ⟨hn, y1, y2⟩ := RY_n Y
  unfold f_X9_torches f_X10_torches
  rcases RY_hs Y with ⟨s1, s2⟩ | ⟨s1, s2⟩
  · rw [show σ.1 (26 + 1) 0 = 0 from s1, if_pos rfl, r_isHouse0 s2, bd_s, if_pos rfl, wp_some, wp_some]; exact ⟨rfl, H⟩
  · rw [show σ.1 (26 + 1) 0 = 1 from s1, if_neg (show ¬ ((1 : Int32) = 0) by decide), r_isHouse1 s2, bd_s, if_neg (show ¬ ((1 : Int32) = 0) by decide)]
    rcases in_cases 1 60 (by omega) (by omega) i with ⟨N, hN0, hN, rfl⟩ | c
    · rw [r_in1 (a := 1) (b := 60) (by omega) (by omega) hN, bd_s, if_neg (show ¬ ((1 : Int32) = 0) by decide)]
      rw [show (1 : Int32) = Int32.ofNat 1 from rfl, show (60 : Int32) = Int32.ofNat 60 from rfl, rng_d (by omega) hN0 hN, show (2 : Int32) = Int32.ofNat 2 from rfl, gd_n (by omega) (by omega), n_idx (by omega), lt_eq]
      obtain ⟨υ, eυ, uk, us⟩ := UK_keeps Y.2.1
      rw [eυ, bv_s]
      unfold f_X9_torches_28 f_X10_torches_38
      have fin : ∀ (x : Int32) (σ' ρ' : mm_S), ag cS σ σ' → US ρ (su_i ρ' 224 2 (ρ.1 224 2)) → wp (f_X10_torches_117 214 (ρ.1 224 2) x ρ') (fun r' => x = r'.1 ∧ RZ σ' r'.2) := by
        intro x σ' ρ' g us'
        unfold f_X10_torches_117
        rw [show (2 : Int32) = Int32.ofNat 2 from rfl, gd_n (by omega) (by omega), n_idx (by omega), lt_eq, wp_some]
        exact ⟨rfl, r, n, h, m, RY_back Y g us'⟩
      refine wp_lp4 (fun m v σ' w ρ' => ag cS σ σ' ∧ US ρ (su_i ρ' 224 2 (ρ.1 224 2)) ∧ UK ρ (su_i ρ' 224 2 (ρ.1 224 2)) ∧ ∃ t, t ≤ 8 ∧ m = 9 - t ∧ v = Int32.ofNat t ∧ w = (-2, Int32.ofNat t))
        (fun m r w ρ' => ∃ t, t ≤ 7 ∧ r.1 = Int32.ofNat t ∧ w = (Int32.ofNat t, Int32.ofNat (t + 1)) ∧ ag cS σ r.2 ∧ US ρ (su_i ρ' 224 2 (ρ.1 224 2))) ?_ ?_ lpN lpN 9 _ _ _ _ (by decide) (by decide) ⟨ag_refl, ?_, ?_, 0, by omega, by omega, rfl, rfl⟩
      · rintro m' rec' rr w ρ' ⟨t, ht, er, rfl, g, us'⟩ _
        have c0 : (0 : Int32) ≤ Int32.ofNat t := by rw [show (0 : Int32) = Int32.ofNat 0 from rfl, n_le (by omega) (by omega)]; omega
        simp only [c0, if_true]
        rw [er]
        by_cases d : (7 : Int32) < Int32.ofNat (t + 1)
        · rw [if_pos d]; exact fin _ _ _ g us'
        · rw [if_neg d]; exact fin _ _ _ g us'
      · clear us uk eυ
        rintro m' rec rec' v σ' w ρ' ⟨g, us, uk, t, ht, rfl, rfl, rfl⟩ hrec hJ
        rw [show (7 : Int32) = Int32.ofNat 7 from rfl]
        simp (disch := omega) only [n_lt, show ¬ ((0 : Int32) ≤ -2) by decide, if_false]
        by_cases c8 : t = 8
        · subst c8; simp only [show 7 < 8 by omega, if_true, wp_some]; exact fin _ _ _ g us
        · have ht7 : t ≤ 7 := by omega
          simp only [show ¬ (7 < t) by omega, if_false]
          rw [show (2 : Int32) = Int32.ofNat 2 from rfl, gd_n (by omega) (by omega), n_idx (by omega), lt_eq]
          obtain ⟨τ, eτ, C0⟩ := HC_again Y g us uk
          have C1 := HC_torch C0 ht7
          rw [su_ii] at C1
          obtain ⟨T, U, t0, u0, D1, D2⟩ := h_chain C1 N
          have td : ∀ k l, k ≤ N → l < n → (U k).1 224 (11 + 5 * l) = (T k).1 202 l := fun k l hk hl => by
            rw [show 11 + 5 * l = 10 + 1 + 5 * l by omega]; exact ((D1 k hk).1.2.2.2.2 l (by omega)).1
          obtain ⟨K, hK, k1, k2⟩ := first_cases (fun k => ¬ ∀ l, l < n → (T (k + 1)).1 202 l ≤ 40) N
          have X : wp (f_X9_suffice 0 (Int32.ofNat t) (Int32.ofNat N) σ') (fun q => q = (if K = N then 1 else 0, T (if K = N then N else K + 1))) := by
            unfold f_X9_suffice
            rw [eτ, bv_s, lt_eq, ← t0]
            unfold f_X9_suffice_14
            refine wp_lp (fun m v τ => ∃ k, k ≤ K ∧ m = K - k ∧ v = Int32.ofNat k ∧ τ = T k) ?_ lpN K _ _ (Nat.lt_of_le_of_lt (Nat.le_trans hK hN) (by decide)) ⟨0, by omega, by omega, rfl, rfl⟩
            rintro m' rec v τ ⟨k, hk, rfl, rfl, rfl⟩ hrec
            simp (disch := omega) only [n_le]
            by_cases cN : k = N
            · have : K = N := by omega
              subst cN; simp only [this, Nat.le_refl, if_true, wp_some]
            · rw [if_neg (by omega), (D2 k (by omega)).1, bv_s]
              obtain ⟨L, hL, l1, l2⟩ := first_cases (fun l => ¬ ((T (k + 1)).1 202 l ≤ 40)) n
              refine x_weary (L := L) ((D1 (k + 1) (by omega)).1.1.1.2.1) hn hL l1 l2 ?_
              by_cases c : k = K
              · subst c
                have nn := k2.resolve_left cN
                have : ¬ (L = n) := fun e => nn (fun l hl => Classical.not_not.mp (l1 l (by omega)))
                rw [if_neg this, wp_some, if_neg cN, if_neg cN]
              · have gd' := Classical.not_not.mp (k1 k (by omega))
                have : L = n := l2.elim id (fun e => Classical.byContradiction (fun d => e (gd' L (by omega))))
                rw [if_pos this, n_addI]
                exact hrec (K - (k + 1)) _ _ (by omega) ⟨k + 1, by omega, rfl, rfl, rfl⟩
          rw [wp_eq X, bd_s]
          have gT : ∀ k, k ≤ N → ag cS σ (T k) := fun k hk => (D1 k hk).2.2.2.2
          have Z : wp (f_X10_laysBack 214 (U N)) (fun ω => US ρ (su_i ω 224 2 (ρ.1 224 2)) ∧ UK ρ (su_i ω 224 2 (ρ.1 224 2))) := by
            obtain ⟨c1, c2, c3, c4, c5⟩ := D1 N (by omega)
            refine wp_mono (UK_back c3) ?_
            rintro ω ⟨b1, b2, b3⟩
            have e224 : ∀ k, (su_i ω 224 2 (ρ.1 224 2)).1 224 k = ρ.1 224 k := fun k => by
              rw [rd_ii]; by_cases c : k = 2
              · rw [if_pos ⟨rfl, c⟩, c]
              · rw [if_neg (by omega), b1 k, rd_ik _ _ _ _ _ _ c]
            have eT : ag rT ρ (su_i ω 224 2 (ρ.1 224 2)) := fun a k q => by
              rw [rd_ii, if_neg (by unfold rT at q; omega), b2.2.2 a k q, rd_ii, if_neg (by unfold rT at q; omega)]
            refine ⟨⟨e224, eT, ?_, ?_, ?_⟩, fun k hk => ?_, fun k _ => e224 k, eT⟩
            · rw [rd_ia _ _ _ _ _ _ (by decide), b3 _ _ (by decide)]; exact c4.1
            · rw [rd_ia _ _ _ _ _ _ (by decide), b3 _ _ (by decide)]; exact HH_24 c1 c2
            · rw [rd_ia _ _ _ _ _ _ (by decide), b3 _ _ (by decide)]; exact c4.2
            · rw [rd_ia _ _ _ _ _ _ (by decide), b2.1 k hk, rd_ik _ _ _ _ _ _ (by omega)]
          obtain ⟨ω, eω, z1, z2⟩ := Z
          have R : ∀ Q' : Int32 × mm_S → Prop, wp (rec' (if K = N then Int32.ofNat t else -2, Int32.ofNat (t + 1)) ω) Q' → wp (f_X10_torches_63 rec' 214 (Int32.ofNat N) (ρ.1 224 2) (-2) (Int32.ofNat t) 1 0 (su_i ρ' 224 2 (Int32.ofNat t))) Q' := by
            intro Q' HQ
            rw [← u0]
            unfold f_X10_torches_63
            refine wp_lp (fun m v υ => ∃ k, k ≤ N ∧ m = N - k ∧ v = (if K < k then 0 else 1, Int32.ofNat k) ∧ υ = U k) ?_ lpN N _ _ (Nat.lt_of_le_of_lt hN (by decide)) ⟨0, by omega, by omega, by rw [if_neg (by omega)]; rfl, rfl⟩
            rintro m' rec v υ ⟨k, hk, rfl, rfl, rfl⟩ hrec
            simp (disch := omega) only [n_le]
            by_cases cN : k = N
            · subst cN
              simp only [Nat.le_refl, if_true, eω, bv_s, lt_eq, n_addI]
              by_cases c : K < k
              · simp only [c, if_true]; rw [if_neg (by omega)] at HQ; exact HQ
              · simp only [c, if_false]; rw [if_neg (show ¬ ((1 : Int32) = 0) by decide)]; rw [if_pos (by omega)] at HQ; exact HQ
            · rw [if_neg (by omega), (D2 k (by omega)).2, bd_s]
              simp only [lt_eq, n_addI]
              by_cases c : K < k
              · simp only [c, if_true]
                exact hrec (N - (k + 1)) _ _ (by omega) ⟨k + 1, by omega, rfl, by rw [if_pos (by omega)], rfl⟩
              · simp only [c, if_false]
                rw [if_neg (show ¬ ((1 : Int32) = 0) by decide)]
                obtain ⟨L, hL, l1, l2⟩ := first_cases (fun l => ¬ ((T (k + 1)).1 202 l ≤ 40)) n
                rw [r_weary (n := n) (L := L) ((D1 (k + 1) (by omega)).1.1.1.2.2) hn hL (fun j hj => by rw [td _ _ (by omega) (by omega)]; exact l1 j hj) (l2.elim Or.inl (fun e => by
                  by_cases d : L = n
                  · exact Or.inl d
                  · exact Or.inr (by rw [td _ _ (by omega) (by omega)]; exact e))), bd_s]
                by_cases d : k = K
                · subst d
                  have nn := k2.resolve_left cN
                  have : ¬ (L = n) := fun e => nn (fun l hl => Classical.not_not.mp (l1 l (by omega)))
                  rw [if_neg this, if_pos rfl]
                  exact hrec (N - (k + 1)) _ _ (by omega) ⟨k + 1, by omega, rfl, by rw [if_pos (by omega)], rfl⟩
                · have gd' := Classical.not_not.mp (k1 k (by omega))
                  have : L = n := l2.elim id (fun e => Classical.byContradiction (fun d => e (gd' L (by omega))))
                  rw [if_pos this, if_neg (show ¬ ((1 : Int32) = 0) by decide)]
                  exact hrec (N - (k + 1)) _ _ (by omega) ⟨k + 1, by omega, rfl, by rw [if_neg (by omega)], rfl⟩
          by_cases cK : K = N
          · simp only [cK, if_true]
            rw [if_neg (show ¬ ((1 : Int32) = 0) by decide), wp_some]
            refine R _ ?_
            rw [if_pos cK]
            exact hJ 0 (Int32.ofNat t, T N) _ _ (by omega) ⟨t, ht7, rfl, rfl, gT N (by omega), z1⟩
          · simp only [cK, if_false, if_true, lt_eq, n_addI]
            obtain ⟨q, eq, q', eq', pq⟩ := hrec (9 - (t + 1)) (Int32.ofNat (t + 1)) (T (K + 1)) (-2, Int32.ofNat (t + 1)) ω (by omega) ⟨gT _ (by omega), z1, z2, t + 1, by omega, rfl, rfl, rfl⟩
            exact ⟨q, eq, R _ (by rw [if_neg cK]; exact ⟨q', eq', pq⟩)⟩
      · have : su_i υ 224 2 (ρ.1 224 2) = υ := by
          unfold su_i; refine Prod.ext ?_ rfl; funext a k
          show (if a = 224 ∧ k = 2 then _ else _) = _
          by_cases c : a = 224 ∧ k = 2
          · rw [if_pos c, c.1, c.2]; exact (us.1 2).symm
          · rw [if_neg c]
        rw [this]; exact us
      · have : su_i υ 224 2 (ρ.1 224 2) = υ := by
          unfold su_i; refine Prod.ext ?_ rfl; funext a k
          show (if a = 224 ∧ k = 2 then _ else _) = _
          by_cases c : a = 224 ∧ k = 2
          · rw [if_pos c, c.1, c.2]; exact (us.1 2).symm
          · rw [if_neg c]
        rw [this]; exact uk
    · rw [r_in0 (a := 1) (b := 60) (by omega) (by omega) c, bd_s, if_pos rfl]
      rw [show (1 : Int32) = Int32.ofNat 1 from rfl, show (60 : Int32) = Int32.ofNat 60 from rfl, rng_b c, wp_some, wp_some]; exact ⟨rfl, H⟩
