/-! ring -/
def fgn (i : Nat) (d : Nat → Nat) : Nat → Nat
  | 0 => i
  | k + 1 => fgn i d k * 8 + d k
theorem fgn_lt {i : Nat} {d : Nat → Nat} (hi : i < 64) (hd : ∀ l, l < 6 → d l < 8) : ∀ k, k ≤ 6 → fgn i d k < 64 * 8 ^ k
  | 0, _ => by show i < _; omega
  | k + 1, hk => by
    have h1 := fgn_lt hi hd k (by omega)
    have h2 := hd k (by omega)
    show fgn i d k * 8 + d k < 64 * 8 ^ (k + 1)
    rw [Nat.pow_succ]; omega
theorem fgn_inj {i i' : Nat} {d d' : Nat → Nat} (hd : ∀ l, l < 6 → d l < 8) (hd' : ∀ l, l < 6 → d' l < 8) : ∀ k, k ≤ 6 → fgn i d k = fgn i' d' k → i = i' ∧ ∀ l, l < k → d l = d' l
  | 0, _, e => ⟨e, fun l hl => by omega⟩
  | k + 1, hk, e => by
    have h1 := hd k (by omega)
    have h2 := hd' k (by omega)
    replace e : fgn i d k * 8 + d k = fgn i' d' k * 8 + d' k := e
    obtain ⟨a, b⟩ := fgn_inj (i := i) (i' := i') hd hd' k (by omega) (by omega)
    refine ⟨a, fun l hl => ?_⟩
    by_cases c : l < k
    · exact b l c
    · rw [show l = k by omega]; omega
theorem fgn_congr {i : Nat} {d d' : Nat → Nat} : ∀ k, (∀ l, l < k → d l = d' l) → fgn i d k = fgn i d' k
  | 0, _ => rfl
  | k + 1, h => by show fgn i d k * 8 + d k = fgn i d' k * 8 + d' k; rw [fgn_congr k (fun l hl => h l (by omega)), h k (by omega)]
theorem bt_inj : ∀ i, i < 64 → ∀ j, j < 64 → (∀ l, l < 6 → bt (Int32.ofNat i) l = bt (Int32.ofNat j) l) → i = j := by decide +kernel
theorem vz_inj {a b : Nat} (ha : a < 8) (hb : b < 8) (h : vz a = vz b) : a = b := by
  unfold vz at h
  have : Int32.ofNat a = Int32.ofNat b := by rw [← Int32.sub_add_cancel (Int32.ofNat a) 1, h, Int32.sub_add_cancel]
  rwa [n_eq (by omega) (by omega)] at this
def SN (k : Nat) (σ ρ : mm_S) : Prop := ∀ a, a < k → ∃ (i : Nat) (d : Nat → Nat), i < 64 ∧ (∀ l, l < 6 → d l < 8) ∧ σ.1 213 a = Int32.ofNat (fgn i d 6) ∧ ∀ l, l < 6 → ρ.1 232 (12 * a + l) = bt (Int32.ofNat i) l ∧ ρ.1 232 (12 * a + 6 + l) = vz (d l)
def AL (ρ : mm_S) (a b : Nat) : Prop := ∀ v, v < 12 → ρ.1 232 (12 * a + v) = ρ.1 232 (12 * b + v)
theorem SN_iff {k a b : Nat} {σ ρ : mm_S} (H : SN k σ ρ) (ha : a < k) (hb : b < k) : (σ.1 213 a = σ.1 213 b) = AL ρ a b := by
  obtain ⟨i, d, h1, h2, h3, h4⟩ := H a ha
  obtain ⟨i', d', g1, g2, g3, g4⟩ := H b hb
  have l1 := fgn_lt h1 h2 6 (by omega)
  have l2 := fgn_lt g1 g2 6 (by omega)
  rw [h3, g3, n_eq (by omega) (by omega)]
  refine propext ⟨fun e => ?_, fun e => ?_⟩
  · obtain ⟨q1, q2⟩ := fgn_inj h2 g2 6 (by omega) e
    intro v hv
    by_cases c : v < 6
    · rw [(h4 v c).1, (g4 v c).1, q1]
    · have a1 := (h4 (v - 6) (by omega)).2
      have a2 := (g4 (v - 6) (by omega)).2
      rw [show 12 * a + 6 + (v - 6) = 12 * a + v by omega] at a1
      rw [show 12 * b + 6 + (v - 6) = 12 * b + v by omega] at a2
      rw [a1, a2, q2 (v - 6) (by omega)]
  · have q1 : i = i' := bt_inj i h1 i' g1 (fun l hl => by rw [← (h4 l hl).1, ← (g4 l hl).1]; exact e l (by omega))
    have q2 : ∀ l, l < 6 → d l = d' l := fun l hl => vz_inj (h2 l hl) (g2 l hl) (by
      rw [← (h4 l hl).2, ← (g4 l hl).2]
      have := e (6 + l) (by omega)
      rw [show 12 * a + (6 + l) = 12 * a + 6 + l by omega, show 12 * b + (6 + l) = 12 * b + 6 + l by omega] at this; exact this)
    rw [q1]; exact fgn_congr 6 q2
theorem x_figure {i : Nat} {d : Nat → Nat} {σ : mm_S} (h1 : σ.1 201 1 = Int32.ofNat i) (h2 : ∀ l, l < 6 → σ.1 204 l = vz (d l)) : f_X2_figure 201 σ = some (Int32.ofNat (fgn i d 6), σ) := by
  unfold f_X2_figure f_X2_figure_7
  rw [lt_eq]
  refine wp_eq (wp_lp (fun m v τ => τ = σ ∧ ∃ k, k ≤ 6 ∧ m = 6 - k ∧ v = (Int32.ofNat (fgn i d k), Int32.ofNat k)) ?_ lpN 6 _ _ (by decide) ⟨rfl, 0, by omega, by omega, by rw [h1]; rfl⟩)
  rintro m rec v τ ⟨rfl, k, hk, rfl, rfl⟩ hrec
  rw [show (6 : Int32) = Int32.ofNat 6 from rfl]
  simp (disch := omega) only [n_le]
  by_cases c : k = 6
  · subst c; simp only [Nat.le_refl, if_true, wp_some]
  · rw [if_neg (by omega)]
    simp (disch := omega) only [gd_n, lt_eq, n_idx, n_addI, show (201 + 3 : Nat) = 204 from rfl]
    refine hrec (6 - (k + 1)) _ _ (by omega) ⟨rfl, k + 1, by omega, rfl, ?_⟩
    rw [h2 k (by omega)]
    unfold vz
    rw [Int32.add_assoc, Int32.sub_add_cancel, show (8 : Int32) = Int32.ofNat 8 from rfl, n_mul, n_add]; rfl
theorem r_alike {a b : Nat} {ρ : mm_S} (ha : a < 61) (hb : b < 61) (hab : a ≤ b) : ∃ x, f_X10_areAlike 214 (Int32.ofNat a) (Int32.ofNat b) ρ = some (x, ρ) ∧ ((x = 0) = ¬ ((b - a) % 12 = 0 ∧ AL ρ a b)) := by
  unfold f_X10_areAlike
  rw [show (12 : Int32) = Int32.ofNat 12 from rfl, n_sub hab, n_rem (by omega) (by omega)]
  have e0 : (Int32.ofNat ((b - a) % 12) = 0) ↔ (b - a) % 12 = 0 := n_zero (by omega)
  by_cases c : (b - a) % 12 = 0
  · rw [if_pos (e0.mpr c)]
    obtain ⟨t, ht, t1, t2⟩ := first_cases (fun j => ¬ (ρ.1 232 (12 * a + j) = ρ.1 232 (12 * b + j))) 12
    refine ⟨if t = 12 then 1 else 0, ?_, ?_⟩
    · unfold f_X10_areAlike_13
      refine wp_eq (wp_lp (fun m v τ => τ = ρ ∧ ∃ k, k ≤ t ∧ m = 12 - k ∧ v = Int32.ofNat k) ?_ lpN 12 _ _ (by decide) ⟨rfl, 0, by omega, by omega, rfl⟩)
      rintro m rec v τ ⟨rfl, k, hk, rfl, rfl⟩ hrec
      simp (disch := omega) only [n_lit, n_le, n_mul, n_add, n_idx, lt_eq, n_addI]
      by_cases c2 : k = 12
      · rw [if_pos (by omega), wp_some, if_pos (by omega)]
      · rw [if_neg (by omega)]
        simp (disch := omega) only [gd_n]
        by_cases c3 : k = t
        · subst c3
          have := t2.resolve_left c2
          rw [if_neg this, wp_some, if_neg c2]
        · have := t1 k (by omega)
          rw [if_pos (Decidable.of_not_not this)]
          exact hrec (12 - (k + 1)) _ _ (by omega) ⟨rfl, k + 1, by omega, rfl, rfl⟩
    · by_cases c2 : t = 12
      · rw [if_pos c2]; refine propext ⟨fun e => absurd e (by decide), fun e => absurd ⟨c, fun v hv => ?_⟩ e⟩
        exact Decidable.of_not_not (t1 v (by omega))
      · rw [if_neg c2]; refine propext ⟨fun e => fun q => ?_, fun e => rfl⟩
        exact (t2.resolve_left c2) (q.2 t (by omega))
  · rw [if_neg (fun q => c (e0.mp q))]
    exact ⟨0, rfl, propext ⟨fun _ q => c q.1, fun _ => rfl⟩⟩
/-- the later hour that is alike -/
def HT (ρ : mm_S) (a b : Nat) : Prop := a < b ∧ (b - a) % 12 = 0 ∧ AL ρ a b
theorem x_79 {k68 : Int32 → mm_S → Option (Int32 × mm_S)} {i1 : Int32} {a t : Nat} {σ ρ : mm_S} {Q : Int32 × mm_S → Prop} (S : SN 61 σ ρ) (ha : a < 61) (ht : t ≤ 61) (t1 : ∀ j, j < t → ¬ HT ρ a j) (t2 : t = 61 ∨ HT ρ a t)
    (q1 : t = 61 → wp (k68 (Int32.ofNat (a + 1)) σ) Q) (q2 : t < 61 → Q (if i1 = 0 then σ.1 31 0 + Int32.ofNat a else Int32.ofNat (t - a), σ)) : wp (f_X9_ring_79 k68 0 i1 (Int32.ofNat a) (Int32.ofNat (a + 12)) σ) Q := by
  unfold f_X9_ring_79
  refine wp_lp (fun m v τ => τ = σ ∧ ∃ j c, c = a + 12 * j ∧ 1 ≤ j ∧ (t < 61 → c ≤ t) ∧ c < 80 ∧ m = 80 - c ∧ v = Int32.ofNat c) ?_ lpN (80 - (a + 12)) _ _ (Nat.lt_of_le_of_lt (show 80 - (a + 12) ≤ 68 by omega) (by decide)) ⟨rfl, 1, a + 12, by omega, by omega, fun q => ?_, by omega, rfl, rfl⟩
  · rintro m rec v τ ⟨rfl, j, c, hc, hj, hct, hc8, rfl, rfl⟩ hrec
    rw [show (61 : Int32) = Int32.ofNat 61 from rfl]
    simp (disch := omega) only [n_le, lt_eq, n_addI]
    by_cases c1 : 61 ≤ c
    · rw [if_pos c1]; exact q1 (by omega)
    · rw [if_neg c1]
      simp (disch := omega) only [gd_n, n_idx, n_sub, show (26 + 5 : Nat) = 31 from rfl, show Int32.ofInt 12 = Int32.ofNat 12 from rfl, n_add]
      have e0 := SN_iff S ha (by omega : c < 61)
      by_cases c2 : AL ρ a c
      · rw [if_pos (e0.mpr c2)]
        have hc0 : HT ρ a c := ⟨by omega, by rw [hc, show a + 12 * j - a = 12 * j by omega]; exact Nat.mul_mod_right 12 j, c2⟩
        have : ¬ (c < t) := fun q => t1 c q hc0
        have e : t = c := by rcases t2 with t2 | t2 <;> omega
        subst e
        have := q2 (by omega)
        by_cases c3 : i1 = 0
        · simp only [c3, if_true] at this ⊢; rw [wp_some]; exact this
        · simp only [c3, if_false] at this ⊢; rw [wp_some]; exact this
      · rw [if_neg (fun q => c2 (e0.mp q))]
        refine hrec (80 - (c + 12)) _ _ (by omega) ⟨rfl, j + 1, c + 12, by omega, by omega, fun q => ?_, by omega, rfl, rfl⟩
        have h2 := t2.resolve_left (by omega)
        have h3 := hct q
        have h4 : t ≠ c := fun e => c2 (e ▸ h2.2.2)
        have h5 := h2.2.1
        omega
  · have h2 := t2.resolve_left (by omega)
    have h5 := h2.2.1
    have h6 := h2.1
    omega
theorem r_115 {k105 : Int32 → mm_S → Option (Int32 × mm_S)} {i1 : Int32} {a t : Nat} {ρ : mm_S} {Q : Int32 × mm_S → Prop} (ha : a < 60) (ht : t ≤ 61) (t1 : ∀ j, j < t → ¬ HT ρ a j) (t2 : t = 61 ∨ HT ρ a t)
    (q1 : t = 61 → wp (k105 (Int32.ofNat (a + 1)) ρ) Q) (q2 : t < 61 → Q (if i1 = 0 then ρ.1 224 10 + Int32.ofNat a else Int32.ofNat (t - a), ρ)) : wp (f_X10_ring_115 k105 214 i1 (Int32.ofNat a) (Int32.ofNat (a + 1)) ρ) Q := by
  unfold f_X10_ring_115
  refine wp_lp (fun m v τ => τ = ρ ∧ ∃ c, a < c ∧ c ≤ 61 ∧ (t < 61 → c ≤ t) ∧ m = 80 - c ∧ v = Int32.ofNat c) ?_ lpN (80 - (a + 1)) _ _ (Nat.lt_of_le_of_lt (show 80 - (a + 1) ≤ 79 by omega) (by decide)) ⟨rfl, a + 1, by omega, by omega, fun q => ?_, rfl, rfl⟩
  · rintro m rec v τ ⟨rfl, c, hc, hc6, hct, rfl, rfl⟩ hrec
    rw [show (60 : Int32) = Int32.ofNat 60 from rfl]
    simp (disch := omega) only [n_lt, lt_eq, n_addI]
    by_cases c1 : 60 < c
    · rw [if_pos c1]; exact q1 (by omega)
    · rw [if_neg c1]
      obtain ⟨x, ex, hx⟩ := r_alike (a := a) (b := c) (ρ := τ) (by omega) (by omega) (by omega)
      rw [ex, bd_s]
      by_cases c2 : (c - a) % 12 = 0 ∧ AL τ a c
      · have hc0 : HT τ a c := ⟨by omega, c2⟩
        have : ¬ (c < t) := fun q => t1 c q hc0
        have e : t = c := by rcases t2 with t2 | t2 <;> omega
        subst e
        rw [if_neg (fun q => (hx.mp q) c2)]
        have := q2 (by omega)
        rw [show (10 : Int32) = Int32.ofNat 10 from rfl]
        simp (disch := omega) only [gd_n, n_idx, n_sub]
        by_cases c3 : i1 = 0
        · simp only [c3, if_true] at this ⊢; rw [wp_some]; exact this
        · simp only [c3, if_false] at this ⊢; rw [wp_some]; exact this
      · rw [if_pos (hx.mpr c2)]
        refine hrec (80 - (c + 1)) _ _ (by omega) ⟨rfl, c + 1, by omega, by omega, fun q => ?_, rfl, rfl⟩
        have h2 := t2.resolve_left (by omega)
        have h3 := hct q
        have h4 : t ≠ c := fun e => c2 (e ▸ h2.2)
        omega
  · have h2 := t2.resolve_left (by omega)
    exact h2.1
theorem h_ring2 {i1 : Int32} {σ ρ : mm_S} (S : SN 61 σ ρ) (e10 : ρ.1 224 10 = σ.1 31 0) : ∃ V, f_X9_ring_68 0 i1 0 σ = some (V, σ) ∧ f_X10_ring_105 214 i1 0 ρ = some (V, ρ) := by
  obtain ⟨a0, h0, p1, p2⟩ := first_cases (fun a => ∃ b, b ≤ 60 ∧ HT ρ a b) 60
  have key : ∃ V t, t ≤ 61 ∧ (a0 = 60 → V = -2) ∧ (a0 < 60 → (∀ j, j < t → ¬ HT ρ a0 j) ∧ HT ρ a0 t ∧ t < 61 ∧ V = (if i1 = 0 then σ.1 31 0 + Int32.ofNat a0 else Int32.ofNat (t - a0))) := by
    by_cases c : a0 = 60
    · exact ⟨-2, 0, by omega, fun _ => rfl, fun q => by omega⟩
    · obtain ⟨t, ht, t1, t2⟩ := first_cases (HT ρ a0) 61
      obtain ⟨b, hb, hb2⟩ := p2.resolve_left c
      have : t ≤ b := by
        by_cases q : b < t
        · exact absurd hb2 (t1 b q)
        · omega
      exact ⟨_, t, ht, fun q => absurd q c, fun _ => ⟨t1, t2.resolve_left (by omega), by omega, rfl⟩⟩
  obtain ⟨V, t, ht, v1, v2⟩ := key
  have no : ∀ a, a < 61 → (a0 < 60 → a < a0) → ∀ j, j < 61 → ¬ HT ρ a j := fun a ha q j hj hh => by
    have := hh.1
    exact p1 a (by omega) ⟨j, by omega, hh⟩
  refine ⟨V, ?_, ?_⟩
  · unfold f_X9_ring_68
    refine wp_eq (wp_lp (fun m v τ => τ = σ ∧ ∃ a, a ≤ 61 ∧ (a0 < 60 → a ≤ a0) ∧ m = 61 - a ∧ v = Int32.ofNat a) ?_ lpN 61 _ _ (by decide) ⟨rfl, 0, by omega, by omega, by omega, rfl⟩)
    rintro m rec v τ ⟨rfl, a, ha, haa, rfl, rfl⟩ hrec
    rw [show (61 : Int32) = Int32.ofNat 61 from rfl, show (12 : Int32) = Int32.ofNat 12 from rfl]
    simp (disch := omega) only [n_le, lt_eq, n_add]
    by_cases c1 : 61 ≤ a
    · rw [if_pos c1, wp_some, v1 (by omega)]
    · rw [if_neg c1]
      by_cases c2 : a0 < 60 ∧ a = a0
      · obtain ⟨c2, rfl⟩ := c2
        obtain ⟨w1, w2, w3, w4⟩ := v2 c2
        exact x_79 S (by omega) ht w1 (Or.inr w2) (fun q => by omega) (fun _ => by rw [w4])
      · exact x_79 (t := 61) S (by omega) (by omega) (no a (by omega) (by omega)) (Or.inl rfl) (fun _ => hrec (61 - (a + 1)) _ _ (by omega) ⟨rfl, a + 1, by omega, by omega, rfl, rfl⟩) (fun q => by omega)
  · unfold f_X10_ring_105
    refine wp_eq (wp_lp (fun m v τ => τ = ρ ∧ ∃ a, a ≤ 60 ∧ (a0 < 60 → a ≤ a0) ∧ m = 61 - a ∧ v = Int32.ofNat a) ?_ lpN 61 _ _ (by decide) ⟨rfl, 0, by omega, by omega, by omega, rfl⟩)
    rintro m rec v τ ⟨rfl, a, ha, haa, rfl, rfl⟩ hrec
    rw [show (60 : Int32) = Int32.ofNat 60 from rfl, show (1 : Int32) = Int32.ofNat 1 from rfl]
    simp (disch := omega) only [n_le, lt_eq, n_add]
    by_cases c1 : 60 ≤ a
    · rw [if_pos c1, wp_some, v1 (by omega)]
    · rw [if_neg c1]
      by_cases c2 : a0 < 60 ∧ a = a0
      · obtain ⟨c2, rfl⟩ := c2
        obtain ⟨w1, w2, w3, w4⟩ := v2 c2
        exact r_115 (by omega) ht w1 (Or.inr w2) (fun q => by omega) (fun _ => by rw [w4, e10])
      · exact r_115 (t := 61) (by omega) (by omega) (no a (by omega) (by omega)) (Or.inl rfl) (fun _ => hrec (61 - (a + 1)) _ _ (by omega) ⟨rfl, a + 1, by omega, by omega, rfl, rfl⟩) (fun q => by omega)
theorem HC_keep {n h : Nat} {σ ρ τ υ τ' υ' : mm_S} (C : HC n h σ ρ τ υ) (g : ∀ a k, a ≠ 213 → τ'.1 a k = τ.1 a k) (gw : τ'.2.2 = τ.2.2) (g' : ∀ a k, a ≠ 232 → a ≠ 235 → υ'.1 a k = υ.1 a k) : HC n h σ ρ τ' υ' := by
  obtain ⟨⟨hp, hs, hj, hX⟩, h5, ⟨k1, k2, k3⟩, ⟨b1, b2⟩, g0⟩ := C
  refine ⟨⟨HP_keep hp (fun a k q => g a k (by unfold HPc at q; omega)) gw (fun a k q => g' a k (by unfold HPr at q; omega) (by unfold HPr at q; omega)), ?_, nj_keep hj (fun a k q => g a k (by omega)), nx_keep hX (fun a k q => g a k (by omega)) (fun a k q => g' a k (by omega) (by omega))⟩, ?_, ⟨fun k hk => ?_, fun k hk => ?_, fun a k q => ?_⟩, ⟨?_, ?_⟩, fun a k q => ?_⟩
  · unfold HS; rw [g _ _ (by decide), g' _ _ (by decide) (by decide)]; exact hs
  · rw [g _ _ (by decide)]; exact h5
  · rw [g' _ _ (by decide) (by decide)]; exact k1 k hk
  · rw [g' _ _ (by decide) (by decide)]; exact k2 k hk
  · rw [g' _ _ (by unfold rT rS at q; omega) (by unfold rT rS at q; omega)]; exact k3 a k q
  · rw [g' _ _ (by decide) (by decide)]; exact b1
  · rw [g' _ _ (by decide) (by decide)]; exact b2
  · rw [g _ _ (by unfold cS at q; omega)]; exact g0 a k q
theorem r_33 {k25 : Int32 → mm_S → Option (Int32 × mm_S)} {i1 : Int32} {a : Nat} {ρ : mm_S} {Q : Int32 × mm_S → Prop} (ha : a < 61)
    (hQ : ∀ υ, (∀ l, l < 6 → υ.1 232 (12 * a + l) = ρ.1 224 (11 + 5 * l + 2) ∧ υ.1 232 (12 * a + 6 + l) = ρ.1 224 (11 + 5 * l + 3)) → (∀ c k, (c ≠ 232 ∨ k < 12 * a) → υ.1 c k = ρ.1 c k) → wp (bd (f_X10_passes 214 υ) fun r18 σ17 => lt (Int32.ofNat a + Int32.ofInt (1)) fun x19 => k25 x19 σ17) Q) :
    wp (f_X10_ring_33 k25 214 i1 (Int32.ofNat a) 0 ρ) Q := by
  unfold f_X10_ring_33
  refine wp_lp (fun m v υ => ∃ j, j ≤ 6 ∧ m = 6 - j ∧ v = Int32.ofNat j ∧ (∀ l, l < j → υ.1 232 (12 * a + l) = ρ.1 224 (11 + 5 * l + 2) ∧ υ.1 232 (12 * a + 6 + l) = ρ.1 224 (11 + 5 * l + 3)) ∧ (∀ c k, (c ≠ 232 ∨ k < 12 * a) → υ.1 c k = ρ.1 c k)) ?_ lpN 6 _ _ (by decide) ⟨0, by omega, by omega, rfl, fun l hl => by omega, fun _ _ _ => rfl⟩
  rintro m rec v υ ⟨j, hj, rfl, rfl, w1, w2⟩ hrec
  rw [show (6 : Int32) = Int32.ofNat 6 from rfl]
  simp (disch := omega) only [n_le]
  by_cases c : j = 6
  · subst c; simp only [Nat.le_refl, if_true]; exact hQ υ w1 w2
  · rw [if_neg (by omega)]
    simp (disch := omega) only [n_lit, n_mul, n_add, gd_n, n_idx, r_soughtBy, bd_s, lt_eq, n_addI]
    refine hrec (6 - (j + 1)) _ _ (by omega) ⟨j + 1, by omega, rfl, rfl, fun l hl => ?_, fun c k q => ?_⟩
    · by_cases c2 : l = j
      · subst c2
        rw [rd_ik _ _ _ _ _ _ (by omega), rd_is, rd_is, rd_ia _ _ _ _ _ _ (by decide), w2 _ _ (Or.inl (by decide)), w2 _ _ (Or.inl (by decide))]
        exact ⟨rfl, rfl⟩
      · rw [rd_ik _ _ _ _ _ _ (by omega), rd_ik _ _ _ _ _ _ (by omega), rd_ik _ _ _ _ _ _ (by omega), rd_ik _ _ _ _ _ _ (by omega)]
        exact w1 l (by omega)
    · rw [rd_ii, if_neg (by omega), rd_ii, if_neg (by omega)]; exact w2 c k q
theorem m_ring (i : Int32) : RM (f_X9_ring 0 i) (f_X10_ring 214 i) := by
  intro σ ρ H
  obtain ⟨r, n, h, m, Y⟩ := id H
  obtain ⟨hn, y1, y2⟩ := RY_n Y
  unfold f_X9_ring f_X10_ring
  rcases RY_hs Y with ⟨s1, s2⟩ | ⟨s1, s2⟩
  · rw [show σ.1 (26 + 1) 0 = 0 from s1, if_pos rfl, r_isHouse0 s2, bd_s, if_pos rfl, wp_some, wp_some]; exact ⟨rfl, H⟩
  · rw [show σ.1 (26 + 1) 0 = 1 from s1, if_neg (show ¬ ((1 : Int32) = 0) by decide), r_isHouse1 s2, bd_s, if_neg (show ¬ ((1 : Int32) = 0) by decide)]
    rcases in_cases 0 1 (by omega) (by omega) i with ⟨w, _, hw, rfl⟩ | c
    · rw [r_in1 (a := 0) (b := 1) (by omega) (by omega) hw, bd_s, if_neg (show ¬ ((1 : Int32) = 0) by decide)]
      rw [show (0 : Int32) = Int32.ofNat 0 from rfl, show (1 : Int32) = Int32.ofNat 1 from rfl, rng_d (by omega) (by omega) hw]
      obtain ⟨τ, υ, eτ, eυ, C0, -⟩ := HC_start Y
      rw [eτ, bv_s, eυ, bv_s]
      unfold f_X9_ring_30 f_X10_ring_25
      refine wp_lp2 (fun m v σ' w ρ' => ∃ k, k ≤ 61 ∧ m = 61 - k ∧ v = Int32.ofNat k ∧ w = Int32.ofNat k ∧ HC n (h + k) σ ρ σ' ρ' ∧ SN k σ' ρ') ?_ lpN 61 _ _ _ _ (by decide) ⟨0, by omega, by omega, rfl, rfl, C0, fun a ha => by omega⟩
      clear C0 eτ eυ
      rintro m' rec rec' v σ' w' ρ' ⟨k, hk, rfl, rfl, rfl, C, S⟩ hrec
      rw [show (61 : Int32) = Int32.ofNat 61 from rfl, show (60 : Int32) = Int32.ofNat 60 from rfl]
      simp (disch := omega) only [n_le, n_lt]
      by_cases ck : k = 61
      · subst ck
        obtain ⟨ω, eω, fin, us, -⟩ := HC_back Y C
        simp only [Nat.le_refl, if_true, show 60 < 61 by omega, eω, bv_s]
        have F : ko_K _ _ ω := fr_X10_laysBack (P := fun a k => a = 232) (a0 := 214) (fun a k q => by omega) (ko_refl (σ := ρ')) ω eω
        have S' : SN 61 σ' ω := fun a ha => by
          obtain ⟨i, d, p1, p2, p3, p4⟩ := S a ha
          exact ⟨i, d, p1, p2, p3, fun l hl => by rw [F.1 _ _ rfl, F.1 _ _ rfl]; exact p4 l hl⟩
        have e10 : ω.1 224 10 = σ'.1 31 0 := by
          rw [us.1, C.2.2.2.2 _ _ (by unfold cS; omega)]
          exact Y.2.2.2.1.2.1.2.2.1
        obtain ⟨V, e1, e2⟩ := h_ring2 (i1 := Int32.ofNat w) S' e10
        rw [e1, wp_some]
        rw [e2, wp_some]; exact ⟨rfl, fin⟩
      · simp only [show ¬ (61 ≤ k) by omega, show ¬ (60 < k) by omega, if_false]
        obtain ⟨⟨hp, -, ⟨-, ⟨i, hi, ei⟩, -, -, hs, -⟩, hX⟩, -⟩ := id C
        have hd : ∃ d : Nat → Nat, (∀ l, l < 6 → d l < 8) ∧ ∀ l, l < 6 → σ'.1 204 l = vz (d l) := by
          refine ⟨fun l => (σ'.1 204 l + 1).toInt.toNat, fun l hl => ?_, fun l hl => ?_⟩
          · show (σ'.1 204 l + 1).toInt.toNat < 8
            rcases hs l hl with q | ⟨t, ht, q⟩
            · rw [show σ'.1 204 l = -1 from q]; decide
            · rw [show σ'.1 204 l = Int32.ofNat t from q, show Int32.ofNat t + (1 : Int32) = Int32.ofNat (t + 1) from n_add t 1, n_int (by omega)]; omega
          · show σ'.1 204 l = vz (σ'.1 204 l + 1).toInt.toNat
            rcases hs l hl with q | ⟨t, ht, q⟩
            · rw [show σ'.1 204 l = -1 from q]; decide
            · rw [show σ'.1 204 l = Int32.ofNat t from q, show Int32.ofNat t + (1 : Int32) = Int32.ofNat (t + 1) from n_add t 1, n_int (by omega), show ((t + 1 : Nat) : Int).toNat = t + 1 by omega, vz_s]
        obtain ⟨d, d1, d2⟩ := hd
        rw [x_figure ei d2, bd_s]
        simp (disch := omega) only [gd_n, n_idx, lt_eq, n_addI]
        rw [wp_swap]
        refine r_33 (by omega) (fun υ w1 w2 => ?_)
        rw [wp_swap]
        have C1 : HC n (h + k) σ ρ (su_i σ' 213 k (Int32.ofNat (fgn i d 6))) υ := HC_keep C (fun a k q => rd_ia _ _ _ _ _ _ q) rfl (fun a k q _ => w2 a k (Or.inl q))
        obtain ⟨T, U, t0, u0, D1, D2⟩ := h_chain C1 1
        obtain ⟨f1, f2⟩ := D2 0 (by omega)
        rw [t0] at f1; rw [u0] at f2
        rw [f1, bv_s, f2, bd_s, lt_eq, n_addI]
        have F : ko_K _ _ (T (0 + 1)) := fr_X7_passHours (P := fun a k => a = 213) (a0 := 200) (fun a k q => by omega) (ko_refl (σ := su_i σ' 213 k (Int32.ofNat (fgn i d 6)))) _ f1
        have F' : ko_K _ _ (U (0 + 1)) := fr_X10_passes (P := fun a k => a = 232) (a0 := 214) (fun a k q => by omega) (ko_refl (σ := υ)) _ f2
        refine hrec (61 - (k + 1)) _ _ _ _ (by omega) ⟨k + 1, by omega, rfl, rfl, rfl, D1 1 (by omega), fun a ha => ?_⟩
        have F'' : ∀ k, (U (0 + 1)).1 232 k = υ.1 232 k := fun k => F'.1 _ _ rfl
        by_cases ca : a = k
        · subst ca
          refine ⟨i, d, p64 hn hi, d1, by rw [F.1 _ _ rfl, rd_is], fun l hl => ?_⟩
          rw [F'', F'', (w1 l hl).1, (w1 l hl).2, ← d2 l hl]
          obtain ⟨-, -, q3, q4, -⟩ := hX.2 l hl
          rw [ei] at q3
          exact ⟨by rw [show 11 + 5 * l + 2 = 10 + 3 + 5 * l by omega]; exact q3, by rw [show 11 + 5 * l + 3 = 10 + 4 + 5 * l by omega]; exact q4⟩
        · obtain ⟨i', d', p1, p2, p3, p4⟩ := S a (by omega)
          refine ⟨i', d', p1, p2, by rw [F.1 _ _ rfl, rd_ik _ _ _ _ _ _ ca]; exact p3, fun l hl => ?_⟩
          rw [F'', F'', w2 _ _ (Or.inr (by omega)), w2 _ _ (Or.inr (by omega))]; exact p4 l hl
    · rw [r_in0 (a := 0) (b := 1) (by omega) (by omega) c, bd_s, if_pos rfl]
      rw [show (0 : Int32) = Int32.ofNat 0 from rfl, show (1 : Int32) = Int32.ofNat 1 from rfl, rng_b c, wp_some, wp_some]; exact ⟨rfl, H⟩
