theorem r_alikeAt {r F at' : Nat} {τ υ : mm_S} (hr : r ≤ 6) (e2 : υ.1 214 2 = Int32.ofNat r) (ha : at' < 61) (T : FT (r + 1) F τ υ) : f_X10_alikeAt 214 (Int32.ofNat at') υ = some (Int32.ofNat (AK r F (fun k => τ.1 213 (61 * k + at'))), υ) := by
  obtain ⟨t1, t2, t3⟩ := T
  have t3' : ∀ k, k ≤ r → υ.1 235 (61 * k + at') = τ.1 213 (61 * k + at') := fun k hk => t3 k at' ha (Or.inl (by omega))
  generalize hS : (fun k => τ.1 213 (61 * k + at')) = S
  have t3'' : ∀ k, k ≤ r → υ.1 235 (61 * k + at') = S k := fun k hk => by rw [← hS]; exact t3' k hk
  unfold f_X10_alikeAt f_X10_alikeAt_4
  refine wp_eq (wp_lp (fun m v τ' => τ' = υ ∧ ∃ k, k ≤ r + 1 ∧ m = r + 1 - k ∧ v = (Int32.ofNat (mx (fun k => cj (gk F S k) (r + 1)) k), Int32.ofNat k)) ?_ lpN (r + 1) _ _ (Nat.lt_of_le_of_lt (show r + 1 ≤ 7 by omega) (by decide)) ⟨rfl, 0, by omega, by omega, rfl⟩)
  rintro m rec v τ' ⟨rfl, k, hk, rfl, rfl⟩ hrec
  simp (disch := omega) only [e2, n_lt]
  by_cases ck : r < k
  · rw [if_pos ck, wp_some, show k = r + 1 by omega]; rfl
  · rw [if_neg ck]
    have b1 := mx_le (c := fun k => cj (gk F S k) (r + 1)) (B := r + 1) (fun k => cj_le _ _) k
    have h86 : ∀ c, c = cj (gk F S k) (r + 1) → wp (f_X10_alikeAt_86 rec 214 (Int32.ofNat at') (Int32.ofNat (mx (fun k => cj (gk F S k) (r + 1)) k)) (Int32.ofNat k) (Int32.ofNat c) τ') (fun r_1 => r_1 = (Int32.ofNat (AK r F S), τ')) := by
      rintro c rfl
      have b2 := cj_le (gk F S k) (r + 1)
      unfold f_X10_alikeAt_86
      simp (disch := omega) only [n_le, lt_eq, n_addI]
      by_cases q : cj (gk F S k) (r + 1) ≤ mx (fun k => cj (gk F S k) (r + 1)) k
      · rw [if_pos q]
        refine hrec (r + 1 - (k + 1)) _ _ (by omega) ⟨rfl, k + 1, by omega, rfl, ?_⟩
        show _ = (Int32.ofNat (if _ < _ then _ else _), _)
        rw [if_neg (show ¬ (mx (fun k => cj (gk F S k) (r + 1)) k < (fun k => cj (gk F S k) (r + 1)) k) by show ¬ (_ < cj (gk F S k) (r + 1)); omega)]
      · rw [if_neg q]
        refine hrec (r + 1 - (k + 1)) _ _ (by omega) ⟨rfl, k + 1, by omega, rfl, ?_⟩
        show _ = (Int32.ofNat (if _ < _ then _ else _), _)
        rw [if_pos (show (mx (fun k => cj (gk F S k) (r + 1)) k < (fun k => cj (gk F S k) (r + 1)) k) by show _ < cj (gk F S k) (r + 1); omega)]
    unfold f_X10_alikeAt_18
    by_cases c1 : bt (Int32.ofNat F) k = 1
    · refine wp_lp (fun m v τ'' => τ'' = τ' ∧ ∃ j, j ≤ r + 1 ∧ m = r + 1 - j ∧ v = (Int32.ofNat (cj (gk F S k) j), Int32.ofNat j)) ?_ lpN (r + 1) _ _ (Nat.lt_of_le_of_lt (show r + 1 ≤ 7 by omega) (by decide)) ⟨rfl, 0, by omega, by omega, rfl⟩
      rintro m rec2 v τ'' ⟨rfl, j, hj, rfl, rfl⟩ hrec2
      simp (disch := omega) only [e2, n_lt]
      by_cases cj' : r < j
      · rw [if_pos cj']
        exact h86 _ (by rw [show j = r + 1 by omega])
      · rw [if_neg cj', gd_n (by omega) (by omega), n_idx (by omega), t2 k (by omega), c1, if_neg (show ¬ ((1 : Int32) = 0) by decide), gd_n (by omega) (by omega), n_idx (by omega), t2 j (by omega)]
        have st : ∀ b, gk F S k j = b → wp (rec2 (Int32.ofNat (if b then cj (gk F S k) j + 1 else cj (gk F S k) j), Int32.ofNat (j + 1)) τ'') (fun r_1 => r_1 = (Int32.ofNat (AK r F S), τ'')) := fun b hb =>
          hrec2 (r + 1 - (j + 1)) _ _ (by omega) ⟨rfl, j + 1, by omega, rfl, by rw [← hb]; rfl⟩
        have a0 : Int32.ofNat (cj (gk F S k) j) + (0 : Int32) = Int32.ofNat (cj (gk F S k) j) := Int32.add_zero _
        have a1 : Int32.ofNat (cj (gk F S k) j) + (1 : Int32) = Int32.ofNat (cj (gk F S k) j + 1) := n_add _ 1
        unfold f_X10_alikeAt_76 f_X10_spot
        simp only [lt_eq, n_addI, bd_s, a0, a1]
        rcases bt_01 (Int32.ofNat F) j with c2 | c2
        · rw [if_pos c2]; exact st false (decide_eq_false (fun q => by rw [c2] at q; exact absurd q.2.1 (by decide)))
        · rw [c2, if_neg (show ¬ ((1 : Int32) = 0) by decide), show (61 : Int32) = Int32.ofNat 61 from rfl, n_mul, n_add, n_mul, n_add, gd_n (by omega) (by omega), gd_n (by omega) (by omega), n_idx (by omega), n_idx (by omega), t3'' k (by omega), t3'' j (by omega)]
          by_cases c3 : S k = S j
          · rw [if_pos c3]; exact st true (decide_eq_true ⟨c1, c2, c3⟩)
          · rw [if_neg c3]; exact st false (decide_eq_false (fun q => c3 q.2.2))
    · have c0 : bt (Int32.ofNat F) k = 0 := (bt_01 _ _).resolve_right c1
      refine wp_lp (fun m v τ'' => τ'' = τ' ∧ v = (0, 0)) ?_ lpN 0 _ _ (by decide) ⟨rfl, rfl⟩
      rintro m rec2 v τ'' ⟨rfl, rfl⟩ hrec2
      rw [e2, show (0 : Int32) = Int32.ofNat 0 from rfl]
      simp (disch := omega) only [n_lt]
      rw [if_neg (by omega), gd_n (by omega) (by omega), n_idx (by omega), t2 k (by omega), c0, if_pos (show (0 : Int32) = Int32.ofNat 0 from rfl)]
      exact h86 0 (cj_0 _ (fun j hj => decide_eq_false (fun q => c1 q.1))).symm
/-- where it is least, first -/
def ws (A : Nat → Nat) : Nat → Nat
  | 0 => 0
  | n + 1 => if A (ws A n) ≤ A (n + 1) then ws A n else n + 1
theorem ws_le (A : Nat → Nat) : ∀ n, ws A n ≤ n
  | 0 => Nat.le_refl _
  | n + 1 => by show (if A (ws A n) ≤ A (n + 1) then ws A n else n + 1) ≤ n + 1; have := ws_le A n; split <;> omega
theorem x_look {r F : Nat} {i1 : Int32} {τ : mm_S} (hr : r ≤ 6) (e4 : τ.1 0 4 = Int32.ofNat r) : f_X9_look_45 0 i1 (Int32.ofNat F) 0 8 0 τ = some (if i1 = 0 then Int32.ofNat (ws (fun a => AK r F (fun k => τ.1 213 (61 * k + a))) 60) else Int32.ofNat (AK r F (fun k => τ.1 213 (61 * k + ws (fun a => AK r F (fun k => τ.1 213 (61 * k + a))) 60))), τ) := by
  generalize hA : (fun a => AK r F (fun k => τ.1 213 (61 * k + a))) = A
  have eA : ∀ a, AK r F (fun k => τ.1 213 (61 * k + a)) = A a := fun a => by rw [← hA]
  have bA : ∀ a, A a ≤ 7 := fun a => by rw [← hA]; exact Nat.le_trans (AK_le _ _ _) (by omega)
  rw [eA]
  unfold f_X9_look_45
  refine wp_eq (wp_lp (fun m v τ' => τ' = τ ∧ ((m = 61 ∧ v = (0, 8, 0)) ∨ ∃ k, k ≤ 60 ∧ m = 60 - k ∧ v = (Int32.ofNat (ws A k), Int32.ofNat (A (ws A k)), Int32.ofNat (k + 1)))) ?_ lpN 61 _ _ (by decide) ⟨rfl, Or.inl ⟨rfl, rfl⟩⟩)
  rintro m rec v τ' ⟨rfl, ⟨rfl, rfl⟩ | ⟨k, hk, rfl, rfl⟩⟩ hrec
  · rw [if_neg (show ¬ ((61 : Int32) ≤ 0) by decide), show (0 : Int32) = Int32.ofNat 0 from rfl, x_alike hr e4 (by omega), bd_s, eA]
    have := bA 0
    rw [show (8 : Int32) = Int32.ofNat 8 from rfl]
    simp (disch := omega) only [n_le, lt_eq, n_addI]
    rw [if_neg (by omega)]
    exact hrec 60 _ _ (by omega) ⟨rfl, Or.inr ⟨0, by omega, rfl, rfl⟩⟩
  · have b1 := bA (ws A k)
    rw [show (61 : Int32) = Int32.ofNat 61 from rfl]
    simp (disch := omega) only [n_le]
    by_cases c : k = 60
    · subst c
      rw [if_pos (by omega)]
      by_cases c0 : i1 = 0
      · rw [if_pos c0, if_pos c0, wp_some]
      · rw [if_neg c0, if_neg c0, wp_some]
    · have b2 := bA (k + 1)
      rw [if_neg (by omega), x_alike hr e4 (by omega), bd_s, eA]
      simp (disch := omega) only [n_le, lt_eq, n_addI]
      by_cases c2 : A (ws A k) ≤ A (k + 1)
      · rw [if_pos c2]
        have w : ws A (k + 1) = ws A k := by show (if A (ws A k) ≤ A (k + 1) then ws A k else k + 1) = _; rw [if_pos c2]
        exact hrec (60 - (k + 1)) _ _ (by omega) ⟨rfl, Or.inr ⟨k + 1, by omega, rfl, by rw [w]⟩⟩
      · rw [if_neg c2]
        have w : ws A (k + 1) = k + 1 := by show (if A (ws A k) ≤ A (k + 1) then ws A k else k + 1) = _; rw [if_neg c2]
        exact hrec (60 - (k + 1)) _ _ (by omega) ⟨rfl, Or.inr ⟨k + 1, by omega, rfl, by rw [w]⟩⟩
theorem r_look {r F : Nat} {i1 : Int32} {τ υ : mm_S} (hr : r ≤ 6) (e2 : υ.1 214 2 = Int32.ofNat r) (T : FT (r + 1) F τ υ) : f_X10_look_27 214 i1 0 1 υ = some (if F = 0 then -2 else if i1 = 0 then Int32.ofNat (ws (fun a => AK r F (fun k => τ.1 213 (61 * k + a))) 60) else Int32.ofNat (AK r F (fun k => τ.1 213 (61 * k + ws (fun a => AK r F (fun k => τ.1 213 (61 * k + a))) 60))), υ) := by
  have z : ∀ a, AK r F (fun k => τ.1 213 (61 * k + a)) = 0 ↔ F = 0 := fun a => AK_0 hr T.1
  generalize hA : (fun a => AK r F (fun k => τ.1 213 (61 * k + a))) = A
  have eA : ∀ a, AK r F (fun k => τ.1 213 (61 * k + a)) = A a := fun a => by rw [← hA]
  have bA : ∀ a, A a ≤ 7 := fun a => by rw [← hA]; exact Nat.le_trans (AK_le _ _ _) (by omega)
  rw [eA]
  unfold f_X10_look_27
  refine wp_eq (wp_lp (fun m v τ' => τ' = υ ∧ ∃ k, k ≤ 60 ∧ m = 60 - k ∧ v = (Int32.ofNat (ws A k), Int32.ofNat (k + 1))) ?_ lpN 60 _ _ (by decide) ⟨rfl, 0, by omega, rfl, rfl⟩)
  rintro m rec v τ' ⟨rfl, k, hk, rfl, rfl⟩ hrec
  have b1 := bA (ws A k)
  have b0 := ws_le A k
  rw [show (60 : Int32) = Int32.ofNat 60 from rfl]
  simp (disch := omega) only [n_lt]
  have rk := r_alikeAt (at' := ws A k) hr e2 (by omega) T
  by_cases c : k = 60
  · subst c
    have zz := z (ws A 60)
    rw [eA] at zz
    rw [if_pos (by omega), rk, bd_s, eA]
    by_cases cf : F = 0
    · rw [if_pos ((n_zero (by omega)).mpr (zz.mpr cf)), if_pos cf, wp_some]
    · rw [if_neg (fun q => cf (zz.mp ((n_zero (by omega)).mp q))), if_neg cf]
      by_cases c0 : i1 = 0
      · rw [if_pos c0, if_pos c0, wp_some]
      · rw [if_neg c0, if_neg c0, rk, bd_s, eA, wp_some]
  · have b2 := bA (k + 1)
    rw [if_neg (by omega), r_alikeAt (at' := k + 1) hr e2 (by omega) T, bd_s, rk, bd_s, eA, eA]
    simp (disch := omega) only [n_le, lt_eq, n_addI]
    by_cases c2 : A (ws A k) ≤ A (k + 1)
    · rw [if_pos c2]
      have w : ws A (k + 1) = ws A k := by show (if A (ws A k) ≤ A (k + 1) then ws A k else k + 1) = _; rw [if_pos c2]
      exact hrec (60 - (k + 1)) _ _ (by omega) ⟨rfl, k + 1, by omega, rfl, by rw [w]⟩
    · rw [if_neg c2]
      have w : ws A (k + 1) = k + 1 := by show (if A (ws A k) ≤ A (k + 1) then ws A k else k + 1) = _; rw [if_neg c2]
      exact hrec (60 - (k + 1)) _ _ (by omega) ⟨rfl, k + 1, by omega, rfl, by rw [w]⟩
theorem m_look (i : Int32) : RM (f_X9_look 0 i) (f_X10_look 214 i) := by
  intro σ ρ H
  obtain ⟨r, n, h, m, Y⟩ := id H
  unfold f_X9_look f_X10_look
  rcases RY_hs Y with ⟨s1, s2⟩ | ⟨s1, s2⟩
  · rw [show σ.1 (26 + 1) 0 = 0 from s1, if_pos rfl, r_isHouse0 s2, bd_s, if_pos rfl, wp_some, wp_some]; exact ⟨rfl, H⟩
  · rw [show σ.1 (26 + 1) 0 = 1 from s1, if_neg (show ¬ ((1 : Int32) = 0) by decide), r_isHouse1 s2, bd_s, if_neg (show ¬ ((1 : Int32) = 0) by decide)]
    rcases in_cases 0 1 (by omega) (by omega) i with ⟨w, _, hw, rfl⟩ | c
    · obtain ⟨F, τ, υ, e1, e2, g, us, T⟩ := h_fits Y
      have fin : RZ τ υ := ⟨r, n, h, m, RY_back Y g us⟩
      have hr := Y.2.2.1.1
      have er : υ.1 214 2 = Int32.ofNat r := (us.2.1 _ _ (by unfold rT rS; omega)).trans Y.2.2.1.2.2.1
      have e4 : τ.1 0 4 = Int32.ofNat r := (g _ _ (by unfold cS; omega)).trans Y.2.2.1.2.1
      have F128 : F < 128 := Nat.lt_of_lt_of_le T.1 (Nat.pow_le_pow_right (by omega) (show r + 1 ≤ 7 by omega))
      rw [r_in1 (a := 0) (b := 1) (by omega) (by omega) hw, bd_s, if_neg (show ¬ ((1 : Int32) = 0) by decide), e2, bv_s, r_look hr er T]
      rw [if_neg (n_neg (by omega)), if_pos (show Int32.ofNat w ≤ 1 by rw [show (1 : Int32) = Int32.ofNat 1 from rfl, n_le (by omega) (by omega)]; exact hw), e1, bd_s, x_look hr e4]
      by_cases cf : F = 0
      · rw [if_pos ((n_zero (by omega)).mpr cf), if_pos cf, wp_some, wp_some]; exact ⟨rfl, fin⟩
      · rw [if_neg (fun q => cf ((n_zero (by omega)).mp q)), if_neg cf, wp_some, wp_some]; exact ⟨rfl, fin⟩
    · rw [r_in0 (a := 0) (b := 1) (by omega) (by omega) c, bd_s, if_pos rfl]
      rw [show (0 : Int32) = Int32.ofNat 0 from rfl, show (1 : Int32) = Int32.ofNat 1 from rfl, rng_b c, wp_some, wp_some]; exact ⟨rfl, H⟩
