theorem nx_tired {l : Nat} {σ ρ υ : mm_S} {x : Int32} (H : nx σ 201 ρ 224 10) (hl : l < 6) (e : υ.1 224 (11 + 5 * l) = x) (g : ∀ k, k ≠ 11 + 5 * l → υ.1 224 k = ρ.1 224 k) : nx (su_i σ 202 l x) 201 υ 224 10 := by
  obtain ⟨x1, x2⟩ := H
  refine ⟨by rw [g _ (by omega), rd_ia _ _ _ _ _ _ (by decide)]; exact x1, fun k hk => ?_⟩
  obtain ⟨y1, y2, y3, y4, y5⟩ := x2 k hk
  rw [rd_ia _ (201 + 2) _ _ _ _ (by decide), rd_ia _ (201 + 3) _ _ _ _ (by decide), rd_ia _ (201 + 4) _ _ _ _ (by decide), rd_ia _ 201 _ _ _ _ (by decide), g (10 + 2 + 5 * k) (by omega), g (10 + 3 + 5 * k) (by omega), g (10 + 4 + 5 * k) (by omega), g (10 + 5 + 5 * k) (by omega)]
  refine ⟨?_, y2, y3, y4, y5⟩
  rw [rd_ii]; by_cases c : k = l
  · subst c; rw [if_pos ⟨rfl, rfl⟩, show 10 + 1 + 5 * k = 11 + 5 * k by omega]; exact e
  · rw [if_neg (by omega), g _ (by omega)]; exact y1
theorem nj_tired {n h q l : Nat} {σ : mm_S} {w : Int32} (H : nj n h q σ 201) (hl : l < n) (hw : ∃ t, t ≤ 99 ∧ w = Int32.ofNat t) : nj n h q (su_i σ 202 l w) 201 := by
  obtain ⟨j1, j2, j3, j4, j5, j6, j7⟩ := H
  refine ⟨by rw [rd_ia _ _ _ _ _ _ (by decide)]; exact j1, by rw [rd_ia _ _ _ _ _ _ (by decide)]; exact j2, fun k hk => ?_, fun k hk => ?_, fun k hk => ?_, fun k hk => ?_, fun k h1 h2 => ?_⟩
  · rw [rd_ii]; by_cases c : k = l
    · rw [if_pos ⟨rfl, c⟩]; exact hw
    · rw [if_neg (by omega)]; exact j3 k hk
  · rw [rd_ia _ _ _ _ _ _ (by decide)]; exact j4 k hk
  · rw [rd_ia _ _ _ _ _ _ (by decide)]; exact j5 k hk
  · rw [rd_ia _ _ _ _ _ _ (by decide)]; exact j6 k hk
  · rw [rd_ik _ _ _ _ _ _ (by omega), rd_ia _ (201 + 3) _ _ _ _ (by decide), rd_ia _ (201 + 4) _ _ _ _ (by decide)]; exact j7 k h1 h2
theorem nx_pence {l : Nat} {σ ρ υ : mm_S} {x : Int32} (H : nx σ 201 ρ 224 10) (hl : l < 6) (e : υ.1 224 (11 + 5 * l + 1) = x) (g : ∀ k, k ≠ 11 + 5 * l + 1 → υ.1 224 k = ρ.1 224 k) : nx (su_i σ 203 l x) 201 υ 224 10 := by
  obtain ⟨x1, x2⟩ := H
  refine ⟨by rw [g _ (by omega), rd_ia _ _ _ _ _ _ (by decide)]; exact x1, fun k hk => ?_⟩
  obtain ⟨y1, y2, y3, y4, y5⟩ := x2 k hk
  rw [rd_ia _ (201 + 1) _ _ _ _ (by decide), rd_ia _ (201 + 3) _ _ _ _ (by decide), rd_ia _ (201 + 4) _ _ _ _ (by decide), rd_ia _ 201 _ _ _ _ (by decide), g (10 + 1 + 5 * k) (by omega), g (10 + 3 + 5 * k) (by omega), g (10 + 4 + 5 * k) (by omega), g (10 + 5 + 5 * k) (by omega)]
  refine ⟨y1, ?_, y3, y4, y5⟩
  rw [rd_ii]; by_cases c : k = l
  · subst c; rw [if_pos ⟨rfl, rfl⟩, show 10 + 2 + 5 * k = 11 + 5 * k + 1 by omega]; exact e
  · rw [if_neg (by omega), g _ (by omega)]; exact y2
theorem nj_pence {n h q l : Nat} {σ : mm_S} {w : Int32} (H : nj n h q σ 201) (hl : l < n) (hw : ∃ t, t ≤ 999 ∧ w = Int32.ofNat t) : nj n h q (su_i σ 203 l w) 201 := by
  obtain ⟨j1, j2, j3, j4, j5, j6, j7⟩ := H
  refine ⟨by rw [rd_ia _ _ _ _ _ _ (by decide)]; exact j1, by rw [rd_ia _ _ _ _ _ _ (by decide)]; exact j2, fun k hk => ?_, fun k hk => ?_, fun k hk => ?_, fun k hk => ?_, fun k h1 h2 => ?_⟩
  · rw [rd_ia _ _ _ _ _ _ (by decide)]; exact j3 k hk
  · rw [rd_ii]; by_cases c : k = l
    · rw [if_pos ⟨rfl, c⟩]; exact hw
    · rw [if_neg (by omega)]; exact j4 k hk
  · rw [rd_ia _ _ _ _ _ _ (by decide)]; exact j5 k hk
  · rw [rd_ia _ _ _ _ _ _ (by decide)]; exact j6 k hk
  · rw [rd_ia _ (201 + 1) _ _ _ _ (by decide), rd_ia _ (201 + 3) _ _ _ _ (by decide), rd_ia _ (201 + 4) _ _ _ _ (by decide)]; exact j7 k h1 h2
theorem nx_slept {l : Nat} {σ ρ υ : mm_S} {x : Int32} (H : nx σ 201 ρ 224 10) (hl : l < 6) (e : υ.1 224 (11 + 5 * l + 4) = x) (g : ∀ k, k ≠ 11 + 5 * l + 4 → υ.1 224 k = ρ.1 224 k) : nx (su_i σ 205 l x) 201 υ 224 10 := by
  obtain ⟨x1, x2⟩ := H
  refine ⟨by rw [g _ (by omega), rd_ia _ _ _ _ _ _ (by decide)]; exact x1, fun k hk => ?_⟩
  obtain ⟨y1, y2, y3, y4, y5⟩ := x2 k hk
  rw [rd_ia _ (201 + 1) _ _ _ _ (by decide), rd_ia _ (201 + 2) _ _ _ _ (by decide), rd_ia _ (201 + 3) _ _ _ _ (by decide), rd_ia _ 201 _ _ _ _ (by decide), g (10 + 1 + 5 * k) (by omega), g (10 + 2 + 5 * k) (by omega), g (10 + 3 + 5 * k) (by omega), g (10 + 4 + 5 * k) (by omega)]
  refine ⟨y1, y2, y3, y4, ?_⟩
  rw [rd_ii]; by_cases c : k = l
  · subst c; rw [if_pos ⟨rfl, rfl⟩, show 10 + 5 + 5 * k = 11 + 5 * k + 4 by omega]; exact e
  · rw [if_neg (by omega), g _ (by omega)]; exact y5
theorem nj_slept {n h q l : Nat} {σ : mm_S} {w : Int32} (H : nj n h q σ 201) (hl : l < n) (hw : ∃ t, t ≤ q ∧ w = Int32.ofNat t) : nj n h q (su_i σ 205 l w) 201 := by
  obtain ⟨j1, j2, j3, j4, j5, j6, j7⟩ := H
  refine ⟨by rw [rd_ia _ _ _ _ _ _ (by decide)]; exact j1, by rw [rd_ia _ _ _ _ _ _ (by decide)]; exact j2, fun k hk => ?_, fun k hk => ?_, fun k hk => ?_, fun k hk => ?_, fun k h1 h2 => ?_⟩
  · rw [rd_ia _ _ _ _ _ _ (by decide)]; exact j3 k hk
  · rw [rd_ia _ _ _ _ _ _ (by decide)]; exact j4 k hk
  · rw [rd_ia _ _ _ _ _ _ (by decide)]; exact j5 k hk
  · rw [rd_ii]; by_cases c : k = l
    · rw [if_pos ⟨rfl, c⟩]; exact hw
    · rw [if_neg (by omega)]; exact j6 k hk
  · rw [rd_ia _ (201 + 1) _ _ _ _ (by decide), rd_ia _ (201 + 3) _ _ _ _ (by decide), rd_ik _ _ _ _ _ _ (by omega)]; exact j7 k h1 h2
theorem nj_up {n h q q' a : Nat} {σ : mm_S} (H : nj n h q σ a) (hq : q ≤ q') : nj n h q' σ a := by
  obtain ⟨j1, j2, j3, j4, j5, j6, j7⟩ := H
  exact ⟨j1, j2, j3, j4, j5, fun l hl => by obtain ⟨t, ht, e⟩ := j6 l hl; exact ⟨t, by omega, e⟩, j7⟩
/-- slept by up to N hours more -/
def MS (N : Nat) (σ τ : mm_S) : Prop := ∀ k, k < 6 → ∃ a, a ≤ N ∧ τ.1 205 k = σ.1 205 k + Int32.ofNat a
/-- an hour's third step: who is in sleeps, who is out is tired -/
theorem h_sleep {n h q : Nat} {σ ρ : mm_S} (hp : HP n σ ρ) (hj : nj n h q σ 201) (hx : nx σ 201 ρ 224 10) :
    wp (f_X7_sleepOrTire 200 σ) (fun τ => wp (f_X10_sleeps1 214 ρ) (fun υ => HP n τ υ ∧ nj n h (q + 1) τ 201 ∧ nx τ 201 υ 224 10 ∧ SO ρ υ ∧ MS 1 σ τ)) := by
  unfold f_X7_sleepOrTire f_X10_sleeps1 f_X7_sleepOrTire_2 f_X10_sleeps1_2
  have hn := hp.1.1
  refine wp_lp2 (fun m v σ' w ρ' => ∃ l, l ≤ n ∧ m = n - l ∧ v = Int32.ofNat l ∧ w = Int32.ofNat l ∧ HP n σ' ρ' ∧ nj n h (q + 1) σ' 201 ∧ nx σ' 201 ρ' 224 10 ∧ SO ρ ρ' ∧ (∀ k, l ≤ k → k < 6 → σ'.1 205 k = σ.1 205 k) ∧ MS 1 σ σ') ?_ lpN n _ _ _ _ (Nat.lt_of_le_of_lt hn (by decide))
    ⟨0, by omega, by omega, rfl, rfl, hp, nj_up hj (by omega), hx, fun k hk => rfl, fun k _ hk => rfl, fun k hk => ⟨0, by omega, (Int32.add_zero _).symm⟩⟩
  rintro m rec rec' v σ' w ρ' ⟨l, hl, rfl, rfl, rfl, hp', hj', hx', so, hs, ms⟩ hrec
  obtain ⟨s, hs9, es⟩ := hp'.2.1.1
  have es' := hp'.2.1.2
  rw [show (3 : Int32) = Int32.ofNat 3 from rfl, show (11 : Int32) = Int32.ofNat 11 from rfl, show (5 : Int32) = Int32.ofNat 5 from rfl]
  simp (disch := omega) only [gd_n, n_idx, hp'.1.2.1, hp'.1.2.2, n_le]
  by_cases cn : l = n
  · subst cn; simp only [Nat.le_refl, if_true, wp_some]; exact ⟨hp', hj', hx', so, ms⟩
  · have hl' : l < n := by omega
    simp only [show ¬ (n ≤ l) by omega, if_false]
    rw [x_isIn, bd_s, r_isIn _ (by omega)]
    simp only [lt_eq, bd_s]
    have efl : ρ'.1 224 (11 + 5 * l + 2) = bt (σ'.1 201 1) l := by rw [show 11 + 5 * l + 2 = 10 + 3 + 5 * l by omega]; exact (hx'.2 l (by omega)).2.2.1
    have etd : ρ'.1 224 (11 + 5 * l) = σ'.1 202 l := by rw [show 11 + 5 * l = 10 + 1 + 5 * l by omega]; exact (hx'.2 l (by omega)).1
    have esl : ρ'.1 224 (11 + 5 * l + 4) = σ'.1 205 l := by rw [show 11 + 5 * l + 4 = 10 + 5 + 5 * l by omega]; exact (hx'.2 l (by omega)).2.2.2.2
    obtain ⟨t, ht, et⟩ := hj'.2.2.1 l (by omega)
    replace et : σ'.1 202 l = Int32.ofNat t := et
    rw [efl]
    rcases bt_01 (σ'.1 201 1) l with b | b
    · rw [b, if_pos rfl]
      simp only [show ¬ ((0 : Int32) = 1) by decide, if_false, if_true]
      unfold f_X2_tireBy
      simp (disch := omega) only [gd_n, n_idx, n_mul, n_add, lt_eq, bv_s, show (201 + 1 : Nat) = 202 from rfl, et, etd, show (99 : Int32) = Int32.ofNat 99 from rfl, show (1 : Int32) = Int32.ofNat 1 from rfl, n_lt, n_le, n_addI]
      by_cases c : 99 ≤ t
      · have t99 : t = 99 := by omega
        subst t99
        rw [if_pos (by omega), if_pos (by omega)]
        refine hrec (n - (l + 1)) _ _ _ _ (by omega) ⟨l + 1, by omega, rfl, rfl, rfl, HP_keep hp' (ag_i (by intro a k; unfold HPc; omega)) rfl ag_refl, nj_tired hj' hl' ⟨99, by omega, rfl⟩, nx_tired hx' (by omega) (etd.trans et) (fun k _ => rfl), so, fun k h1 h2 => ?_, fun k hk => ?_⟩
        · rw [rd_ia _ _ _ _ _ _ (by decide)]; exact hs k (by omega) h2
        · rw [rd_ia _ _ _ _ _ _ (by decide)]; exact ms k hk
      · rw [if_neg (by omega), if_neg (by omega)]
        refine hrec (n - (l + 1)) _ _ _ _ (by omega) ⟨l + 1, by omega, rfl, rfl, rfl, HP_keep hp' (ag_i (by intro a k; unfold HPc; omega)) rfl (ag_i (by intro a k; unfold HPr; omega)), nj_tired hj' hl' ⟨t + 1, by omega, rfl⟩, nx_tired hx' (by omega) (rd_is _ _ _ _) (fun k hk => rd_ik _ _ _ _ _ _ hk), fun k hk => ?_, fun k h1 h2 => ?_, fun k hk => ?_⟩
        · rw [rd_ik _ _ _ _ _ _ (by omega)]; exact so k hk
        · rw [rd_ia _ _ _ _ _ _ (by decide)]; exact hs k (by omega) h2
        · rw [rd_ia _ _ _ _ _ _ (by decide)]; exact ms k hk
    · rw [b, if_neg (show ¬ ((1 : Int32) = 0) by decide)]
      simp only [if_true]
      rw [if_neg (show ¬ ((1 : Int32) = 0) by decide)]
      obtain ⟨z, hz, ez0⟩ := hj.2.2.2.2.2.1 l (by omega)
      have ez : σ'.1 205 l = Int32.ofNat z := (hs l (by omega) (by omega)).trans ez0
      have fin : ∀ x : Nat, x ≤ 99 → wp (rec (Int32.ofNat (l + 1)) (su_i (su_i σ' 202 l (Int32.ofNat x)) 205 l (Int32.ofNat (z + 1)))) (fun r => wp (f_X10_sleeps1_64 rec' 214 (Int32.ofNat l) (Int32.ofNat (11 + 5 * l)) 224 (Int32.ofNat (11 + 5 * l)) (Int32.ofNat x) ρ') (fun r' => HP n r r' ∧ nj n h (q + 1) r 201 ∧ nx r 201 r' 224 10 ∧ SO ρ r' ∧ MS 1 σ r)) := by
        intro x hx99
        unfold f_X10_sleeps1_64
        have e4 : (su_i ρ' 224 (11 + 5 * l) (Int32.ofNat x)).1 224 (11 + 5 * l + 4) = Int32.ofNat z := by rw [rd_ik _ _ _ _ _ _ (by omega), esl, ez]
        simp (disch := omega) only [K224, gd_n, n_idx, lt_eq, show (4 : Int32) = Int32.ofNat 4 from rfl, n_add, e4, show (1 : Int32) = Int32.ofNat 1 from rfl, n_addI]
        have m1 : nx (su_i σ' 202 l (Int32.ofNat x)) 201 (su_i ρ' 224 (11 + 5 * l) (Int32.ofNat x)) 224 10 := nx_tired hx' (by omega) (rd_is _ _ _ _) (fun k hk => rd_ik _ _ _ _ _ _ hk)
        refine hrec (n - (l + 1)) _ _ _ _ (by omega) ⟨l + 1, by omega, rfl, rfl, rfl, HP_keep (HP_keep hp' (ag_i (by intro a k; unfold HPc; omega)) rfl (ag_i (by intro a k; unfold HPr; omega))) (ag_i (by intro a k; unfold HPc; omega)) rfl (ag_i (by intro a k; unfold HPr; omega)), nj_slept (nj_tired hj' hl' ⟨x, hx99, rfl⟩) hl' ⟨z + 1, by omega, rfl⟩, nx_slept m1 (by omega) (rd_is _ _ _ _) (fun k hk => rd_ik _ _ _ _ _ _ hk), fun k hk => ?_, fun k h1 h2 => ?_, fun k hk => ?_⟩
        · rw [rd_ik _ _ _ _ _ _ (by omega), rd_ik _ _ _ _ _ _ (by omega)]; exact so k hk
        · rw [rd_ik _ _ _ _ _ _ (by omega), rd_ia _ _ _ _ _ _ (by decide)]; exact hs k (by omega) h2
        · rw [rd_ii]; by_cases c : k = l
          · rw [if_pos ⟨rfl, c⟩]; subst c; exact ⟨1, by omega, by rw [show σ.1 205 k = Int32.ofNat z from ez0, n_add]⟩
          · rw [if_neg (by omega), rd_ia _ _ _ _ _ _ (by decide)]; exact ms k hk
      have e205 : ∀ x : Int32, (su_i σ' 202 l x).1 205 l = Int32.ofNat z := fun x => by rw [rd_ia _ _ _ _ _ _ (by decide)]; exact ez
      simp (disch := omega) only [gd_n, n_idx, n_mul, n_add, lt_eq, show (201 + 1 : Nat) = 202 from rfl, show (201 + 4 : Nat) = 205 from rfl, et, etd, es, es', show (1 : Int32) = Int32.ofNat 1 from rfl, n_le, n_addI, e205]
      by_cases c : t ≤ s
      · rw [if_pos c]
        have : (if Int32.ofNat t - Int32.ofNat s < 0 then (0 : Int32) else Int32.ofNat t - Int32.ofNat s) = Int32.ofNat 0 := by
          by_cases d : t = s
          · subst d; rw [n_sub (by omega), Nat.sub_self]; rfl
          · rw [if_pos]; · rfl
            rw [Int32.lt_iff_toInt_lt, Int32.toInt_sub, n_int (by omega), n_int (by omega), show (0 : Int32).toInt = 0 from by decide, Int.bmod_eq_of_le (by omega) (by omega)]; omega
        rw [this]
        exact fin 0 (by omega)
      · rw [if_neg c]
        have : (if Int32.ofNat t - Int32.ofNat s < 0 then (0 : Int32) else Int32.ofNat t - Int32.ofNat s) = Int32.ofNat (t - s) := by
          rw [n_sub (by omega), if_neg (n_neg (by omega))]
        rw [this, n_sub (by omega)]
        exact fin (t - s) (by omega)
theorem first_cases (P : Nat → Prop) (n : Nat) : ∃ t, t ≤ n ∧ (∀ j, j < t → ¬ P j) ∧ (t = n ∨ P t) := by
  induction n with
  | zero => exact ⟨0, by omega, fun j hj => by omega, Or.inl rfl⟩
  | succ n ih =>
    obtain ⟨t, ht, h1, h2⟩ := ih
    rcases h2 with h2 | h2
    · by_cases c : P n
      · exact ⟨n, by omega, fun j hj => h1 j (by omega), Or.inr c⟩
      · refine ⟨n + 1, by omega, fun j hj => ?_, Or.inl rfl⟩
        by_cases d : j = n
        · subst d; exact c
        · exact h1 j (by omega)
    · exact ⟨t, by omega, h1, Or.inr h2⟩
theorem x_first {n t : Nat} {x : Int32} {σ : mm_S} (e : σ.1 27 3 = Int32.ofNat n) (hn : n ≤ 6) (ht : t ≤ n) (h1 : ∀ j, j < t → ¬ σ.1 204 j = x) (h2 : t = n ∨ σ.1 204 t = x) :
    f_X7_firstSeeker 200 x σ = some (if t = n then -1 else Int32.ofNat t, σ) := by
  unfold f_X7_firstSeeker f_X7_firstSeeker_2
  refine wp_eq (wp_lp (fun m v τ => τ = σ ∧ ∃ k, k ≤ t ∧ m = t - k ∧ v = Int32.ofNat k) ?_ lpN t _ _ (Nat.lt_of_le_of_lt (Nat.le_trans ht hn) (by decide)) ⟨rfl, 0, by omega, by omega, rfl⟩)
  rintro m rec v τ ⟨rfl, k, hk, rfl, rfl⟩ hrec
  simp (disch := omega) only [e, n_le, n_idx, lt_eq, n_addI, show (201 + 3 : Nat) = 204 from rfl]
  by_cases c : k = t
  · subst c
    by_cases d : k = n
    · rw [if_pos (by omega), wp_some, if_pos d]
    · rw [if_neg (by omega), gd_n (by omega) (by omega), if_pos (h2.resolve_left d), wp_some, if_neg d]
  · rw [if_neg (by omega), gd_n (by omega) (by omega), if_neg (h1 k (by omega))]
    exact hrec (t - (k + 1)) _ _ (by omega) ⟨rfl, k + 1, by omega, rfl, rfl⟩
theorem r_pays {n t : Nat} {x : Int32} {ρ : mm_S} {Q : mm_S → Prop} (e : ρ.1 224 3 = Int32.ofNat n) (hn : n ≤ 6) (ht : t ≤ n) (h1 : ∀ j, j < t → ¬ ρ.1 224 (11 + 5 * j + 3) = x) (h2 : t = n ∨ ρ.1 224 (11 + 5 * t + 3) = x)
    (H : wp (f_X10_pays_27 214 x (Int32.ofNat t) ρ) Q) : wp (f_X10_pays 214 x ρ) Q := by
  unfold f_X10_pays f_X10_pays_2
  refine wp_lp (fun m v τ => τ = ρ ∧ ∃ k, k ≤ t ∧ m = t - k ∧ v = Int32.ofNat k) ?_ lpN t _ _ (Nat.lt_of_le_of_lt (Nat.le_trans ht hn) (by decide)) ⟨rfl, 0, by omega, by omega, rfl⟩
  rintro m rec v τ ⟨rfl, k, hk, rfl, rfl⟩ hrec
  rw [show (3 : Int32) = Int32.ofNat 3 from rfl]
  simp (disch := omega) only [gd_n, n_idx, e, n_le, lt_eq, n_addI]
  by_cases c : k = t
  · subst c
    by_cases d : k = n
    · rw [if_pos (by omega)]; exact H
    · rw [if_neg (by omega), r_soughtBy _ (by omega), bd_s, if_pos (h2.resolve_left d)]; exact H
  · rw [if_neg (by omega), r_soughtBy _ (by omega), bd_s, if_neg (h1 k (by omega))]
    exact hrec (t - (k + 1)) _ _ (by omega) ⟨rfl, k + 1, by omega, rfl, rfl⟩
/-- a penny goes from l to t -/
theorem h_give {n h q l t p : Nat} {σ ρ : mm_S} (hp : HP n σ ρ) (hj : nj n h q σ 201) (hx : nx σ 201 ρ 224 10) (hl : l < n) (ht : t < n) (ep : σ.1 203 l = Int32.ofNat p) (h1 : 1 ≤ p) (h9 : p ≤ 999) :
    wp (f_X2_give 201 (Int32.ofNat l) (Int32.ofNat t) 1 σ) (fun τ => wp (f_X10_pays_27 214 (Int32.ofNat l) (Int32.ofNat t) ρ) (fun υ => HP n τ υ ∧ nj n h q τ 201 ∧ nx τ 201 υ 224 10 ∧ SO ρ υ)) := by
  have hn := hp.1.1
  have ep' : ρ.1 224 (11 + 5 * l + 1) = Int32.ofNat p := by rw [show 11 + 5 * l + 1 = 10 + 2 + 5 * l by omega]; exact ((hx.2 l (by omega)).2.1).trans ep
  have A1 : nx (su_i σ 203 l (Int32.ofNat (p - 1))) 201 (su_i ρ 224 (11 + 5 * l + 1) (Int32.ofNat (p - 1))) 224 10 := nx_pence hx (by omega) (rd_is _ _ _ _) (fun k hk => rd_ik _ _ _ _ _ _ hk)
  have A2 : nj n h q (su_i σ 203 l (Int32.ofNat (p - 1))) 201 := nj_pence hj hl ⟨p - 1, by omega, rfl⟩
  have A3 : HP n (su_i σ 203 l (Int32.ofNat (p - 1))) (su_i ρ 224 (11 + 5 * l + 1) (Int32.ofNat (p - 1))) := HP_keep hp (ag_i (by intro a k; unfold HPc; omega)) rfl (ag_i (by intro a k; unfold HPr; omega))
  have A4 : SO ρ (su_i ρ 224 (11 + 5 * l + 1) (Int32.ofNat (p - 1))) := fun k hk => rd_ik _ _ _ _ _ _ (by omega)
  have e1 : Int32.ofNat p - (1 : Int32) = Int32.ofNat (p - 1) := n_sub (m := 1) h1
  unfold f_X2_give f_X10_pays_27
  simp (disch := omega) only [gd_n, n_idx, lt_eq, show (201 + 2 : Nat) = 203 from rfl, ep, e1]
  rw [show (3 : Int32) = Int32.ofNat 3 from rfl, show (11 : Int32) = Int32.ofNat 11 from rfl, show (5 : Int32) = Int32.ofNat 5 from rfl, show (999 : Int32) = Int32.ofNat 999 from rfl]
  simp (disch := omega) only [gd_n, n_idx, hp.1.2.2, n_eq]
  simp only [show ¬ (t = n) by omega, if_false]
  have one : ∀ x : Nat, Int32.ofNat x + (1 : Int32) = Int32.ofNat (x + 1) := fun x => n_add x 1
  simp (disch := omega) only [n_mul, n_add, one, gd_n, n_idx, lt_eq, ep', e1]
  generalize hσ1 : su_i σ 203 l (Int32.ofNat (p - 1)) = σ1 at A1 A2 A3 ⊢
  generalize hρ1 : su_i ρ 224 (11 + 5 * l + 1) (Int32.ofNat (p - 1)) = ρ1 at A1 A3 A4 ⊢
  rw [r_penceOf _ (by omega), bd_s]
  obtain ⟨p', hp9, ep2⟩ := A2.2.2.2.1 t (by omega)
  replace ep2 : σ1.1 203 t = Int32.ofNat p' := ep2
  have ep3 : ρ1.1 224 (11 + 5 * t + 1) = Int32.ofNat p' := by rw [show 11 + 5 * t + 1 = 10 + 2 + 5 * t by omega]; exact ((A1.2 t (by omega)).2.1).trans ep2
  rw [ep2, ep3, one]
  simp (disch := omega) only [n_lt, n_le, wp_some]
  by_cases c : 999 ≤ p'
  · have : p' = 999 := by omega
    subst this
    rw [if_pos (by omega), if_pos (by omega), wp_some]
    exact ⟨HP_keep A3 (ag_i (by intro a k; unfold HPc; omega)) rfl ag_refl, nj_pence A2 ht ⟨999, by omega, rfl⟩, nx_pence A1 (by omega) ep3 (fun k _ => rfl), A4⟩
  · rw [if_neg (by omega), if_neg (by omega), wp_some]
    exact ⟨HP_keep A3 (ag_i (by intro a k; unfold HPc; omega)) rfl (ag_i (by intro a k; unfold HPr; omega)), nj_pence A2 ht ⟨p' + 1, by omega, rfl⟩, nx_pence A1 (by omega) (rd_is _ _ _ _) (fun k hk => rd_ik _ _ _ _ _ _ hk), fun k hk => by rw [rd_ik _ _ _ _ _ _ (by omega)]; exact A4 k hk⟩
theorem SO_trans {ρ υ ω : mm_S} (a : SO ρ υ) (b : SO υ ω) : SO ρ ω := fun k hk => (b k hk).trans (a k hk)
/-- an hour's last step: pennies; then the hour is over -/
theorem h_pay {n h q : Nat} {σ ρ : mm_S} (hp : HP n σ ρ) (hj : nj n h q σ 201) (hx : nx σ 201 ρ 224 10) :
    wp (f_X7_payTheSeekers 200 σ) (fun τ => wp (f_X10_passes_14 214 0 ρ) (fun r => HP n (su_i τ 201 0 (τ.1 201 0 + (1 : Int32))) r.2 ∧ nj n (h + 1) q (su_i τ 201 0 (τ.1 201 0 + (1 : Int32))) 201 ∧ nx (su_i τ 201 0 (τ.1 201 0 + (1 : Int32))) 201 r.2 224 10 ∧ SO ρ r.2 ∧ r.1 = τ.1 201 1 ∧ r.2.1 214 24 = -1)) := by
  unfold f_X7_payTheSeekers f_X7_payTheSeekers_2 f_X10_passes_14
  have hn := hp.1.1
  refine wp_lp2 (fun m v σ' w ρ' => ∃ l, l ≤ n ∧ m = n - l ∧ v = Int32.ofNat l ∧ w = Int32.ofNat l ∧ HP n σ' ρ' ∧ nj n h q σ' 201 ∧ nx σ' 201 ρ' 224 10 ∧ SO ρ ρ') ?_ lpN n _ _ _ _ (Nat.lt_of_le_of_lt hn (by decide))
    ⟨0, by omega, by omega, rfl, rfl, hp, hj, hx, fun k hk => rfl⟩
  rintro m rec rec' v σ' w ρ' ⟨l, hl, rfl, rfl, rfl, hp', hj', hx', so⟩ hrec
  rw [show (3 : Int32) = Int32.ofNat 3 from rfl, show (10 : Int32) = Int32.ofNat 10 from rfl]
  simp (disch := omega) only [gd_n, n_idx, hp'.1.2.1, hp'.1.2.2, n_le]
  by_cases cn : l = n
  · subst cn
    simp only [Nat.le_refl, if_true, wp_some, lt_eq]
    obtain ⟨j1, ⟨i, hi, ei⟩, j3, j4, j5, j6, j7⟩ := id hj'
    obtain ⟨x1, x2⟩ := id hx'
    have eh : (su_i ρ' 214 24 (-1)).1 224 10 + (1 : Int32) = Int32.ofNat (h + 1) := by
      rw [rd_ia _ _ _ _ _ _ (by decide), x1, j1]; exact n_add h 1
    have eh' : σ'.1 201 0 + (1 : Int32) = Int32.ofNat (h + 1) := by rw [j1]; exact n_add h 1
    rw [eh, eh']
    rw [r_inside (n := l) (i := i) _ (by rw [rd_ik _ _ _ _ _ _ (by omega), rd_ia _ _ _ _ _ _ (by decide)]; exact hp'.1.2.2) hn hi (fun k hk => by
      rw [rd_ik _ _ _ _ _ _ (by omega), rd_ia _ _ _ _ _ _ (by decide), show 11 + 5 * k + 2 = 10 + 3 + 5 * k by omega, (x2 k (by omega)).2.2.1, ei]), bd_s, wp_some]
    refine ⟨HP_keep hp' (ag_i (by intro a k; unfold HPc; omega)) rfl (fun a k c => ?_), ?_, ⟨?_, fun k hk => ?_⟩, fun k hk => ?_, ei.symm, ?_⟩
    · show (su_i (su_i ρ' 214 24 (-1)) 224 10 (Int32.ofNat (h + 1))).1 a k = _
      rw [rd_ii, if_neg (by unfold HPr at c; omega), rd_ii, if_neg (by unfold HPr at c; omega)]
    · refine ⟨by rw [rd_is], by rw [rd_ik _ _ _ _ _ _ (by omega)]; exact ⟨i, hi, ei⟩, fun k hk => ?_, fun k hk => ?_, fun k hk => ?_, fun k hk => ?_, fun k h1 h2 => ?_⟩
      · rw [rd_ia _ _ _ _ _ _ (by decide)]; exact j3 k hk
      · rw [rd_ia _ _ _ _ _ _ (by decide)]; exact j4 k hk
      · rw [rd_ia _ _ _ _ _ _ (by decide)]; exact j5 k hk
      · rw [rd_ia _ _ _ _ _ _ (by decide)]; exact j6 k hk
      · rw [rd_ia _ (201 + 1) _ _ _ _ (by decide), rd_ia _ (201 + 3) _ _ _ _ (by decide), rd_ia _ (201 + 4) _ _ _ _ (by decide)]; exact j7 k h1 h2
    · rw [rd_is, rd_is]
    · obtain ⟨y1, y2, y3, y4, y5⟩ := x2 k hk
      rw [rd_ia _ (201 + 1) _ _ _ _ (by decide), rd_ia _ (201 + 2) _ _ _ _ (by decide), rd_ia _ (201 + 3) _ _ _ _ (by decide), rd_ia _ (201 + 4) _ _ _ _ (by decide), rd_ik _ 201 1 _ _ _ (by decide)]
      have z : ∀ j, j ≠ 10 → (su_i (su_i ρ' 214 24 (-1)) 224 10 (Int32.ofNat (h + 1))).1 224 j = ρ'.1 224 j := fun j hj => by rw [rd_ik _ _ _ _ _ _ hj, rd_ia _ _ _ _ _ _ (by decide)]
      rw [z _ (by omega), z _ (by omega), z _ (by omega), z _ (by omega), z _ (by omega)]
      exact ⟨y1, y2, y3, y4, y5⟩
    · show (su_i (su_i ρ' 214 24 (-1)) 224 10 (Int32.ofNat (h + 1))).1 224 k = _
      rw [rd_ik _ _ _ _ _ _ (by omega), rd_ia _ _ _ _ _ _ (by decide)]; exact so k hk
    · show (su_i (su_i ρ' 214 24 (-1)) 224 10 (Int32.ofNat (h + 1))).1 214 24 = _
      rw [rd_ia _ _ _ _ _ _ (by decide), rd_is]
  · have hl' : l < n := by omega
    simp only [show ¬ (n ≤ l) by omega, if_false]
    rw [x_isIn, bd_s, r_isIn _ (by omega), bd_s]
    have efl : ρ'.1 224 (11 + 5 * l + 2) = bt (σ'.1 201 1) l := by rw [show 11 + 5 * l + 2 = 10 + 3 + 5 * l by omega]; exact (hx'.2 l (by omega)).2.2.1
    rw [efl]
    rcases bt_01 (σ'.1 201 1) l with b | b
    · rw [b, if_pos rfl, if_neg (show ¬ ((0 : Int32) = 1) by decide), if_pos rfl]
      simp only [lt_eq, n_addI]
      exact hrec (n - (l + 1)) _ _ _ _ (by omega) ⟨l + 1, by omega, rfl, rfl, rfl, hp', hj', hx', so⟩
    · rw [b, if_neg (show ¬ ((1 : Int32) = 0) by decide), if_pos rfl, if_neg (show ¬ ((1 : Int32) = 0) by decide), r_penceOf _ (by omega), bd_s]
      obtain ⟨p, h9, ep⟩ := hj'.2.2.2.1 l (by omega)
      replace ep : σ'.1 203 l = Int32.ofNat p := ep
      have ep' : ρ'.1 224 (11 + 5 * l + 1) = Int32.ofNat p := by rw [show 11 + 5 * l + 1 = 10 + 2 + 5 * l by omega]; exact ((hx'.2 l (by omega)).2.1).trans ep
      rw [ep', show (201 + 2 : Nat) = 203 from rfl, ep]
      have z0 : (Int32.ofNat p ≤ 0) = (p = 0) := by
        rw [show (0 : Int32) = Int32.ofNat 0 from rfl, n_le (by omega) (by omega)]; exact propext ⟨fun a => by omega, fun a => by omega⟩
      simp only [z0]
      by_cases c0 : p = 0
      · simp only [c0, if_true, lt_eq, n_addI]
        exact hrec (n - (l + 1)) _ _ _ _ (by omega) ⟨l + 1, by omega, rfl, rfl, rfl, hp', hj', hx', so⟩
      · simp only [c0, if_false]
        obtain ⟨t, ht, t1, t2⟩ := first_cases (fun j => σ'.1 204 j = Int32.ofNat l) n
        rw [x_first hp'.1.2.1 hn ht t1 t2, bd_s]
        have sy : ∀ j, j < n → ρ'.1 224 (11 + 5 * j + 3) = σ'.1 204 j := fun j hj => by rw [show 11 + 5 * j + 3 = 10 + 4 + 5 * j by omega]; exact (hx'.2 j (by omega)).2.2.2.1
        simp only [lt_eq, n_addI, wp_bv]
        have R : ∀ Q : mm_S → Prop, wp (f_X10_pays_27 214 (Int32.ofNat l) (Int32.ofNat t) ρ') Q → wp (f_X10_pays 214 (Int32.ofNat l) ρ') Q := fun Q => r_pays hp'.1.2.2 hn ht (fun j hj => by rw [sy j (by omega)]; exact t1 j hj) (t2.elim Or.inl (fun e => by
          by_cases d : t = n
          · exact Or.inl d
          · exact Or.inr (by rw [sy t (by omega)]; exact e)))
        by_cases d : t = n
        · rw [if_pos d, if_pos neg1_lt]
          obtain ⟨r, er, r', er', post⟩ := hrec (n - (l + 1)) (Int32.ofNat (l + 1)) σ' (Int32.ofNat (l + 1)) ρ' (by omega) ⟨l + 1, by omega, rfl, rfl, rfl, hp', hj', hx', so⟩
          refine ⟨r, er, R _ ?_⟩
          unfold f_X10_pays_27
          rw [show (3 : Int32) = Int32.ofNat 3 from rfl, gd_n (by omega) (by omega), n_idx (by omega), hp'.1.2.2, d, if_pos rfl, wp_some]
          exact ⟨r', er', post⟩
        · rw [if_neg d, if_neg (n_neg (by omega)), wp_bv]
          obtain ⟨τ, eτ, υ, eυ, g1, g2, g3, g4⟩ := h_give (l := l) (t := t) (p := p) hp' hj' hx' hl' (by omega) ep (by omega) h9
          obtain ⟨r, er, r', er', post⟩ := hrec (n - (l + 1)) (Int32.ofNat (l + 1)) τ (Int32.ofNat (l + 1)) υ (by omega) ⟨l + 1, by omega, rfl, rfl, rfl, g1, g2, g3, SO_trans so g4⟩
          exact ⟨τ, eτ, r, er, R _ ⟨υ, eυ, r', er', post⟩⟩
/-! a whole hour -/
def HH (n h : Nat) (σ ρ : mm_S) : Prop := HP n σ ρ ∧ HS n σ ρ ∧ ni n h σ 201 ∧ nx σ 201 ρ 224 10
def PH (σ : mm_S) (Q : mm_S → Prop) : Prop := wp (f_X7_goIn 200 σ) (fun a => wp (f_X7_lookForOthers 200 a) (fun b => wp (f_X7_sleepOrTire 200 b) (fun c => wp (f_X7_payTheSeekers 200 c) (fun d => Q (su_i d 201 0 (d.1 201 0 + (1 : Int32)))))))
theorem h_one {n h : Nat} {σ ρ : mm_S} (H : HH n h σ ρ) : PH σ (fun τ => wp (f_X10_passes 214 ρ) (fun r => HP n τ r.2 ∧ ni n (h + 1) τ 201 ∧ nx τ 201 r.2 224 10 ∧ SO ρ r.2 ∧ r.1 = τ.1 201 1 ∧ r.2.1 214 24 = -1 ∧ τ.1 200 5 = σ.1 200 5 ∧ MS 1 σ τ)) := by
  obtain ⟨hp, hs, hi, hx⟩ := H
  obtain ⟨a, ea, u, eu, p1, p2, p3, p4, p5⟩ := h_goIn hp hs hi hx
  obtain ⟨b, eb, v, ev, q1, q2, q3, q4⟩ := h_look p1 p2 p3 p5
  obtain ⟨c, ec, w, ew, r1, r2, r3, r4, r5⟩ := h_sleep q1 q2 q3
  obtain ⟨d, ed, z, ez, s1, s2, s3, s4, s5, s6⟩ := h_pay r1 r2 r3
  have F1 := fr_X7_goIn (P := fun a k => (a = 200 ∧ k = 5) ∨ a = 205) (a0 := 200) (fun a k q => by omega) (ko_refl (σ := σ)) a ea
  have F2 := fr_X7_lookForOthers (P := fun a k => (a = 200 ∧ k = 5) ∨ a = 205) (a0 := 200) (fun a k q => by omega) (ko_refl (σ := a)) b eb
  have F3 := fr_X7_sleepOrTire (P := fun a k => a = 200 ∧ k = 5) (a0 := 200) (fun a k q => by omega) (ko_refl (σ := b)) c ec
  have F4 := fr_X7_payTheSeekers (P := fun a k => (a = 200 ∧ k = 5) ∨ a = 205) (a0 := 200) (fun a k q => by omega) (ko_refl (σ := c)) d ed
  refine ⟨a, ea, b, eb, c, ec, d, ed, z, ?_, s1, s2, s3, SO_trans (SO_trans (SO_trans p4 q4) r4) s4, ?_, s6, ?_, fun k hk => ?_⟩
  · unfold f_X10_passes; rw [eu, bv_s, ev, bv_s, ew, bv_s]; exact ez
  · rw [s5, rd_ik _ 201 1 _ _ _ (by decide)]
  · rw [rd_ia _ _ _ _ _ _ (by decide)]
    exact (F4.1 200 5 (by omega)).trans ((F3.1 200 5 ⟨rfl, rfl⟩).trans ((F2.1 200 5 (by omega)).trans (F1.1 200 5 (by omega))))
  · obtain ⟨x, hx1, hx2⟩ := r5 k hk
    refine ⟨x, hx1, ?_⟩
    have f1 : a.1 205 k = σ.1 205 k := F1.1 205 k (by omega)
    have f2 : b.1 205 k = a.1 205 k := F2.1 205 k (by omega)
    have f4 : d.1 205 k = c.1 205 k := F4.1 205 k (by omega)
    rw [rd_ia _ _ _ _ _ _ (by decide), f4, hx2, f2, f1]
