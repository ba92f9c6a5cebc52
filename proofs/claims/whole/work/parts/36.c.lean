/-! looking for others -/
theorem x_fill {a : Nat} (x : Int32) (σ : mm_S) (ha : (mm_K a).2 < 1000) : wp (f_J7_fill_53178 a x σ) (fun τ => (∀ k, k < (mm_K a).2 → τ.1 a k = x) ∧ (∀ b k, b ≠ a → τ.1 b k = σ.1 b k) ∧ τ.2 = σ.2) := by
  unfold f_J7_fill_53178 f_J7_fill_53178_5
  rw [lt_eq]
  generalize (mm_K a).2 = L at ha ⊢
  refine wp_lp (fun m v τ => ∃ k, k ≤ L ∧ m = L - k ∧ v = Int32.ofNat k ∧ (∀ j, j < k → τ.1 a j = x) ∧ (∀ b k, b ≠ a → τ.1 b k = σ.1 b k) ∧ τ.2 = σ.2) ?_ lpN L _ _ (Nat.lt_trans ha (by decide)) ⟨0, by omega, by omega, rfl, fun j hj => by omega, fun _ _ _ => rfl, rfl⟩
  rintro m rec v τ ⟨k, hk, rfl, rfl, i1, i2, i3⟩ hrec
  simp (disch := omega) only [n_le]
  by_cases c : k = L
  · subst c; simp only [Nat.le_refl, if_true, wp_some]; exact ⟨i1, i2, i3⟩
  · rw [if_neg (by omega)]
    simp (disch := omega) only [gd_n, n_idx, lt_eq, n_addI]
    refine hrec (L - (k + 1)) _ _ (by omega) ⟨k + 1, by omega, rfl, rfl, fun j hj => ?_, fun b j hb => ?_, i3⟩
    · rw [rd_ii]; by_cases q : j = k
      · rw [if_pos ⟨rfl, q⟩]
      · rw [if_neg (by omega)]; exact i1 j (by omega)
    · rw [rd_ia _ _ _ _ _ _ hb]; exact i2 b j hb
def LK (n h q : Nat) (σ ρ : mm_S) : Prop := HP n σ ρ ∧ nj n h q σ 201 ∧ nx σ 201 ρ 224 10 ∧ (∀ l, l < n → ρ.1 227 l = σ.1 208 l) ∧ (∀ l, l < n → ρ.1 226 l = σ.1 207 l)
theorem nj_seek {n h q l : Nat} {σ : mm_S} {w : Int32} (H : nj n h q σ 201) (hl : l < n) (hw : w = -1 ∨ ∃ k, k < n ∧ w = Int32.ofNat k) : nj n h q (su_i σ 204 l w) 201 := by
  obtain ⟨j1, j2, j3, j4, j5, j6, j7⟩ := H
  refine ⟨by rw [rd_ia _ _ _ _ _ _ (by decide)]; exact j1, by rw [rd_ia _ _ _ _ _ _ (by decide)]; exact j2, fun k hk => ?_, fun k hk => ?_, fun k hk => ?_, fun k hk => ?_, fun k h1 h2 => ?_⟩
  · rw [rd_ia _ _ _ _ _ _ (by decide)]; exact j3 k hk
  · rw [rd_ia _ _ _ _ _ _ (by decide)]; exact j4 k hk
  · rw [rd_ii]; by_cases c : k = l
    · rw [if_pos ⟨rfl, c⟩]; exact hw
    · rw [if_neg (by omega)]; exact j5 k hk
  · rw [rd_ia _ _ _ _ _ _ (by decide)]; exact j6 k hk
  · rw [rd_ia _ (201 + 1) _ _ _ _ (by decide), rd_ik _ _ _ _ _ _ (by omega), rd_ia _ (201 + 4) _ _ _ _ (by decide)]; exact j7 k h1 h2
theorem nx_seek {l : Nat} {σ ρ : mm_S} {w : Int32} (H : nx σ 201 ρ 224 10) (hl : l < 6) : nx (su_i σ 204 l w) 201 (su_i ρ 224 (11 + 5 * l + 3) w) 224 10 := by
  obtain ⟨x1, x2⟩ := H
  refine ⟨by rw [rd_ik _ _ _ _ _ _ (by omega), rd_ia _ _ _ _ _ _ (by decide)]; exact x1, fun k hk => ?_⟩
  obtain ⟨y1, y2, y3, y4, y5⟩ := x2 k hk
  rw [rd_ia _ (201 + 1) _ _ _ _ (by decide), rd_ia _ (201 + 2) _ _ _ _ (by decide), rd_ia _ 201 _ _ _ _ (by decide), rd_ia _ (201 + 4) _ _ _ _ (by decide),
    rd_ik _ _ (10 + 1 + 5 * k) _ _ _ (by omega), rd_ik _ _ (10 + 2 + 5 * k) _ _ _ (by omega), rd_ik _ _ (10 + 3 + 5 * k) _ _ _ (by omega), rd_ik _ _ (10 + 5 + 5 * k) _ _ _ (by omega)]
  refine ⟨y1, y2, y3, ?_, y5⟩
  rw [rd_ii, rd_ii]; by_cases c : k = l
  · subst c; rw [if_pos ⟨rfl, by omega⟩, if_pos ⟨rfl, rfl⟩]
  · rw [if_neg (by omega), if_neg (by omega)]; exact y4
theorem LK_put {n h q l : Nat} {σ ρ : mm_S} {w : Int32} (H : LK n h q σ ρ) (hl : l < n) (hw : w = -1 ∨ ∃ k, k < n ∧ w = Int32.ofNat k) : LK n h q (su_i σ 204 l w) (su_i ρ 224 (11 + 5 * l + 3) w) := by
  obtain ⟨hp, hj, hx, sk, sg⟩ := H
  have hn := hp.1.1
  refine ⟨HP_keep hp (ag_i (by intro a k; unfold HPc; omega)) rfl (ag_i (by intro a k; unfold HPr; omega)), nj_seek hj hl hw, nx_seek hx (by omega), fun k hk => ?_, fun k hk => ?_⟩
  · rw [rd_ia _ _ _ _ _ _ (by decide), rd_ia _ _ _ _ _ _ (by decide)]; exact sk k hk
  · rw [rd_ia _ _ _ _ _ _ (by decide), rd_ia _ _ _ _ _ _ (by decide)]; exact sg k hk
theorem LK_more {n h q k : Nat} {σ ρ : mm_S} (H : LK n h q σ ρ) (hk : k < n) : LK n h q (su_i σ 208 k (σ.1 208 k + (1 : Int32))) (su_i ρ 227 k (ρ.1 227 k + (1 : Int32))) := by
  obtain ⟨hp, hj, hx, sk, sg⟩ := H
  refine ⟨HP_keep hp (ag_i (by intro a k; unfold HPc; omega)) rfl (ag_i (by intro a k; unfold HPr; omega)), nj_keep hj (ag_i (by intro a k; omega)), nx_keep hx (ag_i (by intro a k; omega)) (ag_i (by intro a k; omega)), fun j hj => ?_, fun j hj => ?_⟩
  · rw [rd_ii, rd_ii]; by_cases c : j = k
    · subst c; rw [if_pos ⟨rfl, rfl⟩, if_pos ⟨rfl, rfl⟩, sk j hj]
    · rw [if_neg (by omega), if_neg (by omega)]; exact sk j hj
  · rw [rd_ia _ _ _ _ _ _ (by decide), rd_ia _ _ _ _ _ _ (by decide)]; exact sg j hj
theorem LK_torch {n h q : Nat} {σ ρ : mm_S} {x : Int32} (H : LK n h q σ ρ) : LK n h q σ (su_i ρ 214 28 x) := by
  obtain ⟨hp, hj, hx, sk, sg⟩ := H
  refine ⟨HP_keep hp ag_refl rfl (ag_i (by intro a k; unfold HPr; omega)), hj, nx_keep hx ag_refl (ag_i (by intro a k; omega)), fun j hj => ?_, fun j hj => ?_⟩
  · rw [rd_ia _ _ _ _ _ _ (by decide)]; exact sk j hj
  · rw [rd_ia _ _ _ _ _ _ (by decide)]; exact sg j hj
theorem LK_keep {n h q : Nat} {σ ρ τ υ : mm_S} (H : LK n h q σ ρ) (g : ∀ a k, a ≠ 210 → τ.1 a k = σ.1 a k) (gw : τ.2.2 = σ.2.2) (g' : ∀ a k, a ≠ 222 → a ≠ 223 → ¬ (a = 214 ∧ k = 18) → υ.1 a k = ρ.1 a k) : LK n h q τ υ := by
  obtain ⟨hp, hj, hx, sk, sg⟩ := H
  refine ⟨HP_keep hp (fun a k c => g a k (by unfold HPc at c; omega)) gw (fun a k c => g' a k (by unfold HPr at c; omega) (by unfold HPr at c; omega) (by unfold HPr at c; omega)), nj_keep hj (fun a k c => g a k (by omega)), nx_keep hx (fun a k c => g a k (by omega)) (fun a k c => g' a k (by omega) (by omega) (by omega)), fun l hl => ?_, fun l hl => ?_⟩
  · rw [g _ _ (by omega), g' _ _ (by omega) (by omega) (by omega)]; exact sk l hl
  · rw [g _ _ (by omega), g' _ _ (by omega) (by omega) (by omega)]; exact sg l hl
theorem neg1_lt : (-1 : Int32) < 0 := by decide
theorem x_93n {k33 : (Int32 × Int32) → mm_S → Option mm_S} {t : Int32} {l : Nat} {σ : mm_S} (hl : l < 6) : f_X7_lookForOthers_93 k33 200 t (Int32.ofNat l) (-1) σ = k33 (t, Int32.ofNat (l + 1)) (su_i σ 204 l (-1)) := by
  unfold f_X7_lookForOthers_93
  simp (disch := omega) only [gd_n, n_idx, lt_eq, n_addI, neg1_lt, if_true]
theorem x_93s {k33 : (Int32 × Int32) → mm_S → Option mm_S} {t : Int32} {l k : Nat} {σ : mm_S} (hl : l < 6) (hk : k < 6) : f_X7_lookForOthers_93 k33 200 t (Int32.ofNat l) (Int32.ofNat k) σ = k33 (t, Int32.ofNat (l + 1)) (su_i (su_i σ 204 l (Int32.ofNat k)) 208 k ((su_i σ 204 l (Int32.ofNat k)).1 208 k + (1 : Int32))) := by
  unfold f_X7_lookForOthers_93
  simp (disch := omega) only [gd_n, n_idx, lt_eq, n_addI, n_neg, if_false]
theorem r_76n {k12 : Int32 → mm_S → Option mm_S} {i3 : Int32} {l : Nat} {σ : mm_S} (hl : l < 6) : f_X10_seeks_76 k12 214 (Int32.ofNat l) (-1) i3 σ = k12 (Int32.ofNat (l + 1)) (su_i σ 224 (11 + 5 * l + 3) (-1)) := by
  unfold f_X10_seeks_76
  rw [show (11 : Int32) = Int32.ofNat 11 from rfl, show (5 : Int32) = Int32.ofNat 5 from rfl, show (3 : Int32) = Int32.ofNat 3 from rfl]; simp (disch := omega) only [gd_n, n_idx, n_mul, n_add, lt_eq, n_addI, show ¬ ((0 : Int32) ≤ -1) by decide, if_false]
theorem r_76s0 {k12 : Int32 → mm_S → Option mm_S} {l k : Nat} {σ : mm_S} (hl : l < 6) (hk : k < 6) : f_X10_seeks_76 k12 214 (Int32.ofNat l) (Int32.ofNat k) 0 σ = k12 (Int32.ofNat (l + 1)) (su_i (su_i (su_i σ 224 (11 + 5 * l + 3) (Int32.ofNat k)) 227 k ((su_i σ 224 (11 + 5 * l + 3) (Int32.ofNat k)).1 227 k + (1 : Int32))) 214 28 (σ.1 214 28 - (1 : Int32))) := by
  unfold f_X10_seeks_76
  have c0 : (0 : Int32) ≤ Int32.ofNat k := by rw [show (0 : Int32) = Int32.ofNat 0 from rfl, n_le (by omega) (by omega)]; omega
  rw [show (11 : Int32) = Int32.ofNat 11 from rfl, show (5 : Int32) = Int32.ofNat 5 from rfl, show (3 : Int32) = Int32.ofNat 3 from rfl]; simp (disch := omega) only [gd_n, n_idx, n_mul, n_add, lt_eq, n_addI, c0, if_true]
  rw [rd_ia _ 214 _ _ _ _ (by decide), rd_ia _ 214 _ _ _ _ (by decide)]
theorem r_76s1 {k12 : Int32 → mm_S → Option mm_S} {l k : Nat} {σ : mm_S} (hl : l < 6) (hk : k < 6) : f_X10_seeks_76 k12 214 (Int32.ofNat l) (Int32.ofNat k) 1 σ = k12 (Int32.ofNat (l + 1)) (su_i (su_i σ 224 (11 + 5 * l + 3) (Int32.ofNat k)) 227 k ((su_i σ 224 (11 + 5 * l + 3) (Int32.ofNat k)).1 227 k + (1 : Int32))) := by
  unfold f_X10_seeks_76
  have c0 : (0 : Int32) ≤ Int32.ofNat k := by rw [show (0 : Int32) = Int32.ofNat 0 from rfl, n_le (by omega) (by omega)]; omega
  have c1 : ¬ ((1 : Int32) = 0) := by decide
  rw [show (11 : Int32) = Int32.ofNat 11 from rfl, show (5 : Int32) = Int32.ofNat 5 from rfl, show (3 : Int32) = Int32.ofNat 3 from rfl]; simp (disch := omega) only [gd_n, n_idx, n_mul, n_add, lt_eq, n_addI, c0, c1, if_true, if_false]
/-- an hour's second step: whom each looks for -/
theorem h_look {n h q : Nat} {σ ρ : mm_S} (hp : HP n σ ρ) (hj : nj n h q σ 201) (hx : nx σ 201 ρ 224 10) (hs : ∀ l, l < n → ρ.1 226 l = σ.1 204 l ∧ ρ.1 227 l = 0) :
    wp (f_X7_lookForOthers 200 σ) (fun τ => wp (f_X10_seeks 214 ρ) (fun υ => HP n τ υ ∧ nj n h q τ 201 ∧ nx τ 201 υ 224 10 ∧ SO ρ υ)) := by
  unfold f_X7_lookForOthers f_X10_seeks
  rw [lt_eq, wp_bv]
  refine wp_mono (x_fill (a := 208) 0 _ (by decide +kernel)) ?_
  rintro σ40 ⟨z1, z2, z3⟩
  have z1' : ∀ k, k < 6 → σ40.1 208 k = 0 := fun k hk => z1 k (by rw [show (mm_K 208).2 = 6 by decide +kernel]; exact hk)
  rw [lt_eq, show (2 : Int32) = Int32.ofNat 2 from rfl, gd_n (by omega) (by omega), n_idx (by omega), lt_eq]
  have hn := hp.1.1
  have L0 : LK n h q σ40 (su_i ρ 214 28 (ρ.1 224 2)) := by
    refine LK_torch ⟨HP_keep hp (fun a k c => ?_) (by rw [z3]; rfl) ag_refl, nj_keep hj (fun a k c => ?_), nx_keep hx (fun a k c => ?_) ag_refl, fun l hl => ?_, fun l hl => ?_⟩
    · rw [z2 a k (by unfold HPc at c; omega), rd_ca _ _ _ _ _ _ _ _ (by unfold HPc at c; omega)]
    · rw [z2 a k (by omega), rd_ca _ _ _ _ _ _ _ _ (by omega)]
    · rw [z2 a k (by omega), rd_ca _ _ _ _ _ _ _ _ (by omega)]
    · rw [(hs l hl).2, z1' l (by omega)]
    · rw [z2 207 l (by decide), rd_cs, if_pos (by omega), (hs l hl).1, show 0 + (l - 0) = l by omega]
  obtain ⟨t, ht, et⟩ := hp.2.2.1.1
  have eT : σ40.1 200 3 = Int32.ofNat t := by rw [z2 200 3 (by decide), rd_ca _ _ _ _ _ _ _ _ (by decide)]; exact et
  unfold f_X7_lookForOthers_33 f_X10_seeks_12
  refine wp_lp2 (fun m v σ' w ρ' => ∃ l, l ≤ n ∧ m = n - l ∧ v.2 = Int32.ofNat l ∧ w = Int32.ofNat l ∧ ρ'.1 214 28 = v.1 ∧ (∃ t, t ≤ 7 ∧ v.1 = Int32.ofNat t) ∧ LK n h q σ' ρ' ∧ SO ρ ρ') ?_ lpN n _ _ _ _ (Nat.lt_of_le_of_lt hn (by decide))
    ⟨0, by omega, by omega, rfl, rfl, by rw [rd_is, hp.2.2.1.2, et, eT], ⟨t, ht, eT⟩, L0, fun k hk => rd_ia _ _ _ _ _ _ (by decide)⟩
  clear L0 z1 z2 z3 z1' eT et ht t hs hj hx
  rintro m rec rec' ⟨v1, v2⟩ σ' w ρ' ⟨l, hl, rfl, e2, rfl, e3, ⟨t, ht, e4⟩, L, so⟩ hrec
  replace e2 : v2 = Int32.ofNat l := e2
  subst e2
  replace e4 : v1 = Int32.ofNat t := e4
  replace e3 : ρ'.1 214 28 = v1 := e3
  subst e4
  obtain ⟨hp', hj', hx', sk', sg'⟩ := id L
  rw [show (3 : Int32) = Int32.ofNat 3 from rfl]
  simp (disch := omega) only [gd_n, n_idx, hp'.1.2.1, hp'.1.2.2, n_le]
  by_cases cn : l = n
  · subst cn; simp only [Nat.le_refl, if_true, wp_some]; exact ⟨hp', hj', hx', so⟩
  · have hl' : l < n := by omega
    simp only [show ¬ (n ≤ l) by omega, if_false]
    rw [x_isIn, bd_s, r_isOf, bd_s, r_isIn _ (by omega), bd_s]
    have efl : ρ'.1 224 (11 + 5 * l + 2) = bt (σ'.1 201 1) l := by rw [show 11 + 5 * l + 2 = 10 + 3 + 5 * l by omega]; exact (hx'.2 l (by omega)).2.2.1
    rw [efl]
    have none : ∀ σ1 ρ1 : mm_S, ∀ i3 t', t' ≤ 7 → LK n h q σ1 ρ1 → SO ρ ρ1 → ρ1.1 214 28 = Int32.ofNat t' → wp (f_X7_lookForOthers_93 rec 200 (Int32.ofNat t') (Int32.ofNat l) (-1) σ1) (fun r => wp (f_X10_seeks_76 rec' 214 (Int32.ofNat l) (-1) i3 ρ1) (fun r' => HP n r r' ∧ nj n h q r 201 ∧ nx r 201 r' 224 10 ∧ SO ρ r')) := by
      intro σ1 ρ1 i3 t' ht' L1 so1 e1
      rw [x_93n (by omega), r_76n (by omega)]
      refine hrec (n - (l + 1)) _ _ _ _ (by omega) ⟨l + 1, by omega, rfl, rfl, rfl, ?_, ⟨t', ht', rfl⟩, LK_put L1 hl' (Or.inl rfl), fun k hk => ?_⟩
      · rw [rd_ia _ _ _ _ _ _ (by decide)]; exact e1
      · rw [rd_ik _ _ _ _ _ _ (by omega)]; exact so1 k hk
    rcases bt_01 (σ'.1 201 1) l with b | b
    · rw [b, if_pos rfl]
      simp only [show ¬ ((0 : Int32) = 1) by decide, if_false, if_true]
      rw [lt_eq]
      rcases hp'.2.2.2.2.2.2.1 l hl' with ⟨p1, p2⟩ | ⟨p1, k, hk, p2, p3⟩
      · rw [p1, p2, if_pos rfl, if_pos rfl]
        unfold f_X10_seeks_55
        rw [r_isIn _ (by omega), bd_s, efl, b]
        simp only [show ¬ ((0 : Int32) = 1) by decide, if_false, if_true]
        rw [e3]
        by_cases c0 : t = 0
        · subst c0; rw [if_pos (by decide), if_pos (by decide)]; exact none _ _ _ _ (by omega) L so e3
        · have cc : ¬ (Int32.ofNat t ≤ 0) := by rw [show (0 : Int32) = Int32.ofNat 0 from rfl, n_le (by omega) (by omega)]; omega
          rw [if_neg cc, if_neg cc]
          have B := h_best (l := l) hp' hj' hx' sk' sg' hl'
          rw [e3] at B
          obtain ⟨r, er, r', er', q1, q2, q3, q4, q5⟩ := B
          rw [er, er', show r = (r.1, r.2) from rfl, show r' = (r'.1, r'.2) from rfl, bd_s, bd_s, ← q1]
          have L2 : LK n h q r.2 r'.2 := LK_keep L q3 q4 q5
          have so2 : SO ρ r'.2 := fun k hk => (q5 _ _ (by omega) (by omega) (by omega)).trans (so k hk)
          have e5 : r'.2.1 214 28 = Int32.ofNat t := (q5 _ _ (by omega) (by omega) (by omega)).trans e3
          rcases q2 with q2 | ⟨k, hk, q2⟩
          · rw [q2, if_pos rfl, lt_eq, show Int32.ofNat t - (0 : Int32) = Int32.ofNat t from n_sub (m := 0) (by omega)]
            exact none _ _ _ _ ht L2 so2 e5
          · rw [q2, if_neg (fun e => (n_ne1 (by omega)).mp e), lt_eq, show Int32.ofNat t - (1 : Int32) = Int32.ofNat (t - 1) from n_sub (m := 1) (by omega), x_93s (by omega) (by omega), r_76s0 (by omega) (by omega), e5, show Int32.ofNat t - (1 : Int32) = Int32.ofNat (t - 1) from n_sub (m := 1) (by omega)]
            refine hrec (n - (l + 1)) _ _ _ _ (by omega) ⟨l + 1, by omega, rfl, rfl, rfl, ?_, ⟨t - 1, by omega, rfl⟩, LK_torch (LK_more (LK_put L2 hl' (Or.inr ⟨k, hk, rfl⟩)) hk), fun j hj => ?_⟩
            · rw [rd_is]
            · rw [rd_ia _ _ _ _ _ _ (by decide), rd_ia _ _ _ _ _ _ (by decide), rd_ik _ _ _ _ _ _ (by omega)]; exact so2 j hj
      · rw [p1, p2, if_neg (fun e => (n_ne1 (by omega)).mp e), if_neg (by decide), lt_eq, p3, x_93s (by omega) (by omega), r_76s1 (by omega) (by omega)]
        refine hrec (n - (l + 1)) _ _ _ _ (by omega) ⟨l + 1, by omega, rfl, rfl, rfl, ?_, ⟨t, ht, rfl⟩, LK_more (LK_put L hl' (Or.inr ⟨k, hk, rfl⟩)) hk, fun j hj => ?_⟩
        · rw [rd_ia _ _ _ _ _ _ (by decide), rd_ia _ _ _ _ _ _ (by decide)]; exact e3
        · rw [rd_ia _ _ _ _ _ _ (by decide), rd_ik _ _ _ _ _ _ (by omega)]; exact so j hj
    · rw [b, if_neg (by decide)]
      simp only [if_true]
      rw [if_neg (by decide)]
      unfold f_X10_seeks_55
      rw [r_isIn _ (by omega), bd_s, efl, b]
      simp only [if_true]
      rw [if_neg (by decide)]
      exact none _ _ _ _ ht L so e3
