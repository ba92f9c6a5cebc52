/-! THE HOUR: bits -/
theorem or_bit : ∀ s, s < 64 → ∀ t, t < 6 → Int32.ofNat s ||| ((1 : Int32) <<< (Int32.ofNat t &&& 31)) = Int32.ofNat (s ||| 2 ^ t) := by decide +kernel
theorem bt_or : ∀ s, s < 64 → ∀ t, t < 6 → ∀ l, l < 6 → bt (Int32.ofNat (s ||| 2 ^ t)) l = if l = t then 1 else bt (Int32.ofNat s) l := by decide +kernel
theorem and_bit : ∀ s, s < 64 → ∀ t, t < 6 → Int32.ofNat s &&& (((1 : Int32) <<< (Int32.ofNat t &&& 31)) ^^^ (-1 : Int32)) = Int32.ofNat (s - (s &&& 2 ^ t)) := by decide +kernel
theorem bt_and : ∀ s, s < 64 → ∀ t, t < 6 → ∀ l, l < 6 → bt (Int32.ofNat (s - (s &&& 2 ^ t))) l = if l = t then 0 else bt (Int32.ofNat s) l := by decide +kernel
theorem bt_zero : ∀ l, l < 6 → bt (Int32.ofNat 0) l = 0 := by decide +kernel
theorem p64 {n i : Nat} (hn : n ≤ 6) (h : i < 2 ^ n) : i < 64 := Nat.lt_of_lt_of_le h (Nat.pow_le_pow_right (by omega) hn)
theorem or_lt {n s t : Nat} (hs : s < 2 ^ n) (ht : t < n) : s ||| 2 ^ t < 2 ^ n := Nat.or_lt_two_pow hs (Nat.pow_lt_pow_right (by omega) ht)
/-- whom somebody seeks, as bits -/
def so (f : Nat → Int32) : Nat → Int32
  | 0 => 0
  | k + 1 => if f k < 0 then so f k else so f k ||| ((1 : Int32) <<< (f k &&& 31))
theorem so_congr {f g : Nat → Int32} : ∀ n, (∀ l, l < n → f l = g l) → so f n = so g n
  | 0, _ => rfl
  | n + 1, h => by unfold so; rw [so_congr n (fun l hl => h l (by omega)), h n (by omega)]
theorem so_more {f : Nat → Int32} {n : Nat} : ∀ m, (∀ l, n ≤ l → l < n + m → f l < 0) → so f (n + m) = so f n
  | 0, _ => rfl
  | m + 1, h => by
    show so f (n + m + 1) = _
    rw [so, if_pos (h (n + m) (by omega) (by omega))]; exact so_more m (fun l h1 h2 => h l h1 (by omega))
theorem so_nat {f : Nat → Int32} {n : Nat} (hn : n ≤ 6) (hf : ∀ l, l < 6 → f l = -1 ∨ ∃ t, t < n ∧ f l = Int32.ofNat t) : ∀ k, k ≤ 6 → ∃ s, s < 2 ^ n ∧ so f k = Int32.ofNat s
  | 0, _ => ⟨0, Nat.pos_of_ne_zero (by simp), rfl⟩
  | k + 1, hk => by
    obtain ⟨s, hs, e⟩ := so_nat hn hf k (by omega)
    rw [so]
    rcases hf k (by omega) with q | ⟨t, ht, q⟩
    · rw [q, if_pos (by decide)]; exact ⟨s, hs, e⟩
    · rw [q, if_neg (n_neg (by omega)), e, or_bit s (p64 hn hs) t (by omega)]; exact ⟨_, or_lt hs ht, rfl⟩
theorem x_sought {a : Nat} (σ : mm_S) : f_X2_sought a σ = some (so (σ.1 (a + 3)) 6, σ) := by
  unfold f_X2_sought f_X2_sought_4
  refine wp_eq (wp_lp (fun m v τ => τ = σ ∧ ∃ k, k ≤ 6 ∧ m = 6 - k ∧ v = (so (σ.1 (a + 3)) k, Int32.ofNat k)) ?_ lpN 6 _ _ (by decide) ⟨rfl, 0, by omega, by omega, rfl⟩)
  rintro m rec v τ ⟨rfl, k, hk, rfl, rfl⟩ hrec
  simp (disch := omega) only [show (6 : Int32) = Int32.ofNat 6 from rfl, n_le]
  by_cases c : k = 6
  · subst c; simp only [Nat.le_refl, if_true, wp_some]
  · rw [if_neg (by omega)]
    simp (disch := omega) only [gd_n, n_idx, lt_eq, n_addI]
    by_cases c2 : τ.1 (a + 3) k < 0
    · rw [if_pos c2]; exact hrec (6 - (k + 1)) _ _ (by omega) ⟨rfl, k + 1, by omega, rfl, by rw [so, if_pos c2]⟩
    · rw [if_neg c2]; exact hrec (6 - (k + 1)) _ _ (by omega) ⟨rfl, k + 1, by omega, rfl, by rw [so, if_neg c2]⟩
theorem r_soughtOnes {a n : Nat} (σ : mm_S) (h : σ.1 224 3 = Int32.ofNat n) (hn : n ≤ 6) : f_X10_soughtOnes a σ = some (so (fun l => σ.1 224 (11 + 5 * l + 3)) n, σ) := by
  unfold f_X10_soughtOnes f_X10_soughtOnes_4
  refine wp_eq (wp_lp (fun m v τ => τ = σ ∧ ∃ k, k ≤ n ∧ m = n - k ∧ v = (so (fun l => σ.1 224 (11 + 5 * l + 3)) k, Int32.ofNat k)) ?_ lpN n _ _ (Nat.lt_of_le_of_lt hn (by decide)) ⟨rfl, 0, by omega, by omega, rfl⟩)
  rintro m rec v τ ⟨rfl, k, hk, rfl, rfl⟩ hrec
  rw [show (3 : Int32) = Int32.ofNat 3 from rfl]
  simp (disch := omega) only [gd_n, n_idx, h, n_le]
  by_cases c : k = n
  · subst c; simp only [Nat.le_refl, if_true, wp_some]
  · rw [if_neg (by omega)]
    simp (disch := omega) only [r_soughtBy, bd_s, lt_eq, n_addI]
    by_cases c2 : τ.1 224 (11 + 5 * k + 3) < 0
    · rw [if_pos c2]; exact hrec (n - (k + 1)) _ _ (by omega) ⟨rfl, k + 1, by omega, rfl, by rw [so, if_pos c2, Int32.or_zero]⟩
    · rw [if_neg c2]; exact hrec (n - (k + 1)) _ _ (by omega) ⟨rfl, k + 1, by omega, rfl, by rw [so, if_neg c2]⟩
/-! how many bits -/
def bc (i0 : Int32) : Int32 := match f_J6_bitCount_0f7a4 i0 (fun _ _ => 0, fun _ _ => 0, 0) with | some r => r.1 | none => 0
def pcn (i : Nat) : Nat := i % 2 + i / 2 % 2 + i / 4 % 2 + i / 8 % 2 + i / 16 % 2 + i / 32 % 2
theorem x_bits (i0 : Int32) (σ : mm_S) : f_J6_bitCount_0f7a4 i0 σ = some (bc i0, σ) := Eq.trans (Eq.trans rfl rfl) rfl
theorem bc_n : ∀ i, i < 64 → bc (Int32.ofNat i) = Int32.ofNat (pcn i) := by decide +kernel
theorem bits_step : ∀ i, i < 64 → i ≠ 0 → ∃ j, j < i ∧ (Int32.ofNat i &&& (Int32.ofNat i - (1 : Int32))) = Int32.ofNat j ∧ pcn i = pcn j + 1 := by decide +kernel
theorem r_bits {i : Nat} (hi : i < 64) (σ : mm_S) : f_X10_bits (Int32.ofNat i) σ = some (Int32.ofNat (pcn i), σ) := by
  unfold f_X10_bits f_X10_bits_4
  refine wp_eq (wp_lp (fun m v τ => τ = σ ∧ ∃ k j, j < 64 ∧ m = j ∧ k + pcn j = pcn i ∧ v = (Int32.ofNat k, Int32.ofNat j)) ?_ lpN i _ _ (Nat.lt_trans hi (by decide)) ⟨rfl, 0, i, hi, rfl, by omega, rfl⟩)
  rintro m rec v τ ⟨rfl, k, j, hj, rfl, e, rfl⟩ hrec
  simp (disch := omega) only [n_zero]
  by_cases c : m = 0
  · subst c; simp only [if_true, wp_some]; rw [← e]; rfl
  · rw [if_neg c]
    obtain ⟨j', h1, h2, h3⟩ := bits_step m hj c
    simp only [lt_eq, n_addI, h2]
    exact hrec j' _ _ h1 ⟨rfl, k + 1, j', by omega, rfl, by omega, rfl⟩
/-! THE HOUR: what stays, and going in -/
def HP (n : Nat) (σ ρ : mm_S) : Prop :=
  (n ≤ 6 ∧ σ.1 27 3 = Int32.ofNat n ∧ ρ.1 224 3 = Int32.ofNat n) ∧ ((∃ s, s ≤ 9 ∧ σ.1 27 1 = Int32.ofNat s) ∧ ρ.1 224 1 = σ.1 27 1) ∧ ((∃ s, s ≤ 7 ∧ σ.1 200 3 = Int32.ofNat s) ∧ ρ.1 224 2 = σ.1 200 3) ∧
  ρ.1 224 89 = σ.1 27 4 ∧ (∀ k, k < 36 → ρ.1 224 (53 + k) = σ.1 30 k) ∧ ((σ.1 200 4 = -1 ∨ ∃ b, b < n ∧ σ.1 200 4 = Int32.ofNat b) ∧ ρ.1 214 23 = σ.1 200 4) ∧
  (∀ l, l < n → (bt (ρ.1 214 25) l = 0 ∧ σ.1 206 l = -1) ∨ (bt (ρ.1 214 25) l = 1 ∧ ∃ k, k < n ∧ σ.1 206 l = Int32.ofNat k ∧ ρ.1 225 l = Int32.ofNat k)) ∧
  ((ρ.1 214 21 = -1 ∧ σ.2.2 = 12 ∧ σ.1 12 1 = 2 ∧ σ.1 13 0 = 3 ∧ σ.1 13 1 = 33) ∨ ∃ k, k < 6 ∧ ρ.1 214 21 = Int32.ofNat k ∧ σ.2.2 = 14 + 2 * k ∧ EV k σ ρ)
def HPc (c k : Nat) : Prop := c = 27 ∨ c = 30 ∨ (c = 200 ∧ (k = 3 ∨ k = 4)) ∨ c = 206 ∨ (12 ≤ c ∧ c ≤ 25)
def HPr (c k : Nat) : Prop := (c = 224 ∧ (k < 10 ∨ 41 ≤ k)) ∨ (c = 214 ∧ (k = 21 ∨ k = 23 ∨ k = 25)) ∨ c = 225 ∨ c = 216 ∨ c = 218 ∨ c = 219
theorem HP_keep {n : Nat} {σ τ ρ υ : mm_S} (H : HP n σ ρ) (g : ag HPc σ τ) (gw : τ.2.2 = σ.2.2) (g' : ag HPr ρ υ) : HP n τ υ := by
  obtain ⟨⟨h1, h2, h3⟩, ⟨h4, h5⟩, ⟨h6, h7⟩, h8, h9, ⟨h10, h11⟩, h12, h13⟩ := H
  have a27 : ∀ k, τ.1 27 k = σ.1 27 k := fun k => g _ _ (by unfold HPc; omega)
  have a30 : ∀ k, τ.1 30 k = σ.1 30 k := fun k => g _ _ (by unfold HPc; omega)
  have a206 : ∀ k, τ.1 206 k = σ.1 206 k := fun k => g _ _ (by unfold HPc; omega)
  have a12 : ∀ k, τ.1 12 k = σ.1 12 k := fun k => g _ _ (by unfold HPc; omega)
  have a13 : ∀ k, τ.1 13 k = σ.1 13 k := fun k => g _ _ (by unfold HPc; omega)
  have a3 : τ.1 200 3 = σ.1 200 3 := g _ _ (by unfold HPc; omega)
  have a4 : τ.1 200 4 = σ.1 200 4 := g _ _ (by unfold HPc; omega)
  have b225 : ∀ k, υ.1 225 k = ρ.1 225 k := fun k => g' _ _ (by unfold HPr; omega)
  have b21 : υ.1 214 21 = ρ.1 214 21 := g' _ _ (by unfold HPr; omega)
  have b23 : υ.1 214 23 = ρ.1 214 23 := g' _ _ (by unfold HPr; omega)
  have b25 : υ.1 214 25 = ρ.1 214 25 := g' _ _ (by unfold HPr; omega)
  have b3 : υ.1 224 3 = ρ.1 224 3 := g' _ _ (by unfold HPr; omega)
  have b1 : υ.1 224 1 = ρ.1 224 1 := g' _ _ (by unfold HPr; omega)
  have b2 : υ.1 224 2 = ρ.1 224 2 := g' _ _ (by unfold HPr; omega)
  have b89 : υ.1 224 89 = ρ.1 224 89 := g' _ _ (by unfold HPr; omega)
  have bd' : ∀ k, υ.1 224 (53 + k) = ρ.1 224 (53 + k) := fun k => g' _ _ (by unfold HPr; omega)
  unfold HP
  rw [b21, b23, b25, b3, b1, b2, b89, a3, a4, gw]
  simp only [a27, a30, a206, a12, a13, b225, bd']
  refine ⟨⟨h1, h2, h3⟩, ⟨h4, h5⟩, ⟨h6, h7⟩, h8, h9, ⟨h10, h11⟩, h12, ?_⟩
  rcases h13 with h13 | ⟨k, q1, q2, q3, q4⟩
  · exact Or.inl h13
  · exact Or.inr ⟨k, q1, q2, q3, EV_keep (by omega) q4 (ag_mono g (by intro c k; unfold HPc; omega)) (ag_mono g' (by intro c k; unfold HPr; omega))⟩
/-- what is said outside of the night stays -/
def SO (ρ υ : mm_S) : Prop := ∀ k, (k < 10 ∨ 41 ≤ k) → υ.1 224 k = ρ.1 224 k
def HS (n : Nat) (σ ρ : mm_S) : Prop := ρ.1 214 24 = σ.1 200 5 ∧ (σ.1 200 5 = -1 ∨ ∃ s, s < n ∧ σ.1 200 5 = Int32.ofNat s)
/-- who goes in -/
def gi (S st nv cn : Int32) : Int32 := if cn = 0 then (if nv < 0 then (if st < 0 then S else S ||| ((1 : Int32) <<< (st &&& 31))) else (if st < 0 then S else S ||| ((1 : Int32) <<< (st &&& 31))) &&& (((1 : Int32) <<< (nv &&& 31)) ^^^ (-1 : Int32))) else 0
theorem x_goIn (σ : mm_S) : f_X7_goIn 200 σ = some (su_i σ 201 1 (gi (so (σ.1 204) 6) (σ.1 200 5) (σ.1 200 4) (ct (σ.1 27 4) (σ.1 201 0)))) := by
  unfold f_X7_goIn f_X7_goIn_24 f_X7_goIn_42 gi
  simp only [x_sought, bd_s, x_ct, lt_eq]
  by_cases c1 : σ.1 200 5 < 0
  · by_cases c2 : σ.1 200 4 < 0
    · simp only [c1, c2, if_true]; by_cases c3 : ct (σ.1 27 4) (σ.1 201 0) = 0 <;> simp only [c3, if_true, if_false]
    · simp only [c1, c2, if_true, if_false]; by_cases c3 : ct (σ.1 27 4) (σ.1 201 0) = 0 <;> simp only [c3, if_true, if_false]
  · by_cases c2 : σ.1 200 4 < 0
    · simp only [c1, c2, if_true, if_false]; by_cases c3 : ct (σ.1 27 4) (σ.1 201 0) = 0 <;> simp only [c3, if_true, if_false]
    · simp only [c1, c2, if_false]; by_cases c3 : ct (σ.1 27 4) (σ.1 201 0) = 0 <;> simp only [c3, if_true, if_false]
theorem gi_nat {n s : Nat} {st nv cn : Int32} (hn : n ≤ 6) (hs : s < 2 ^ n) (hst : st = -1 ∨ ∃ t, t < n ∧ st = Int32.ofNat t) (hnv : nv = -1 ∨ ∃ t, t < n ∧ nv = Int32.ofNat t) :
    ∃ i, i < 2 ^ n ∧ gi (Int32.ofNat s) st nv cn = Int32.ofNat i ∧ ∀ l, l < 6 → bt (Int32.ofNat i) l = if (bt (Int32.ofNat s) l = 1 ∨ Int32.ofNat l = st) ∧ ¬ (Int32.ofNat l = nv) ∧ cn = 0 then 1 else 0 := by
  have one : ∃ i, i < 2 ^ n ∧ (if st < 0 then Int32.ofNat s else Int32.ofNat s ||| ((1 : Int32) <<< (st &&& 31))) = Int32.ofNat i ∧ ∀ l, l < 6 → bt (Int32.ofNat i) l = if (bt (Int32.ofNat s) l = 1 ∨ Int32.ofNat l = st) then 1 else 0 := by
    rcases hst with rfl | ⟨t, ht, rfl⟩
    · refine ⟨s, hs, if_pos (by decide), fun l hl => ?_⟩
      rcases bt_01 (Int32.ofNat s) l with b | b
      · rw [b, if_neg]; rintro (q | q)
        · exact absurd q (by decide)
        · exact (n_ne1 (by omega)).mp q
      · rw [b, if_pos (Or.inl rfl)]
    · refine ⟨s ||| 2 ^ t, or_lt hs ht, by rw [if_neg (n_neg (by omega)), or_bit s (p64 hn hs) t (by omega)], fun l hl => ?_⟩
      rw [bt_or s (p64 hn hs) t (by omega) l hl]
      by_cases c : l = t
      · subst c; rw [if_pos rfl, if_pos (Or.inr rfl)]
      · rw [if_neg c]
        rcases bt_01 (Int32.ofNat s) l with b | b
        · rw [b, if_neg]; rintro (q | q)
          · exact absurd q (by decide)
          · exact c ((n_eq (by omega) (by omega)).mp q)
        · rw [b, if_pos (Or.inl rfl)]
  obtain ⟨i, hi, e, hb⟩ := one
  have two : ∃ j, j < 2 ^ n ∧ (if nv < 0 then Int32.ofNat i else Int32.ofNat i &&& (((1 : Int32) <<< (nv &&& 31)) ^^^ (-1 : Int32))) = Int32.ofNat j ∧ ∀ l, l < 6 → bt (Int32.ofNat j) l = if (bt (Int32.ofNat s) l = 1 ∨ Int32.ofNat l = st) ∧ ¬ (Int32.ofNat l = nv) then 1 else 0 := by
    rcases hnv with rfl | ⟨t, ht, rfl⟩
    · refine ⟨i, hi, if_pos (by decide), fun l hl => ?_⟩
      rw [hb l hl]
      have : ¬ (Int32.ofNat l = -1) := fun q => (n_ne1 (by omega)).mp q
      simp only [this, not_false_eq_true, and_true]
    · refine ⟨i - (i &&& 2 ^ t), by omega, by rw [if_neg (n_neg (by omega)), and_bit i (p64 hn hi) t (by omega)], fun l hl => ?_⟩
      rw [bt_and i (p64 hn hi) t (by omega) l hl]
      by_cases c : l = t
      · subst c; simp only [if_true, not_true_eq_false, and_false, if_false]
      · have : ¬ (Int32.ofNat l = Int32.ofNat t) := fun q => c ((n_eq (by omega) (by omega)).mp q)
        rw [if_neg c, hb l hl]; simp only [this, not_false_eq_true, and_true]
  obtain ⟨j, hj, e', hb'⟩ := two
  unfold gi
  rw [e]
  by_cases c : cn = 0
  · refine ⟨j, hj, by rw [if_pos c, e'], fun l hl => ?_⟩
    rw [hb' l hl]; simp only [c, and_true]
  · refine ⟨0, Nat.pos_of_ne_zero (by simp), by rw [if_neg c]; rfl, fun l hl => ?_⟩
    rw [bt_zero l hl]; simp only [c, and_false, if_false]
def gf (S : Int32) (ρ : mm_S) (l : Nat) : Int32 := if (bt S l = 1 ∨ Int32.ofNat l = ρ.1 214 24) ∧ ¬ (Int32.ofNat l = ρ.1 214 23) ∧ ct (ρ.1 224 89) (ρ.1 224 10) = 0 then 1 else 0
theorem gf_01 (S : Int32) (ρ : mm_S) (l : Nat) : gf S ρ l = 0 ∨ gf S ρ l = 1 := by unfold gf; split <;> simp
theorem K224 : (mm_K 224).2 = 121 := by decide +kernel
theorem r_goesIn_one {k7 : Int32 → mm_S → Option mm_S} {S : Int32} {k : Nat} {σ : mm_S} (hk : k < 6) :
    (bd (f_X10_isOf S (Int32.ofNat k) σ) fun r25 σ24 =>
      if r25 = 0 then
        if Int32.ofNat k = (σ24.1 214 24) then f_X10_goesIn_33 k7 214 S (Int32.ofNat k) σ24
        else f_X10_goesIn_53 k7 214 S (Int32.ofNat k) (0 : Int32) σ24
      else f_X10_goesIn_33 k7 214 S (Int32.ofNat k) σ24) =
    k7 (Int32.ofNat (k + 1)) (su_i (su_i (su_i σ 224 (11 + 5 * k + 2) (gf S σ k)) 226 k (σ.1 224 (11 + 5 * k + 3))) 227 k 0) := by
  have one : ∀ b : Int32, b = 0 ∨ b = 1 → f_X10_goesIn_53 k7 214 S (Int32.ofNat k) b σ = k7 (Int32.ofNat (k + 1)) (su_i (su_i (su_i σ 224 (11 + 5 * k + 2) b) 226 k (σ.1 224 (11 + 5 * k + 3))) 227 k 0) := by
    intro b hb
    unfold f_X10_goesIn_53 f_X10_goesIn_75
    have e : ∀ x : Int32, (su_i σ 224 (11 + 5 * k + 2) x).1 224 (11 + 5 * k + 3) = σ.1 224 (11 + 5 * k + 3) := fun x => rd_ik _ _ _ _ _ _ (by omega)
    rcases hb with rfl | rfl
    · simp (disch := omega) only [n_lit, gd_n, n_idx, n_mul, n_add, n_addI, n_lt, n_le, n_eq, n_sub, lt_eq, bd_s, bv_s, wp_some, if_true, if_false, reduceIte, Nat.reduceEqDiff, Nat.reduceLeDiff, Nat.reduceAdd, Nat.reduceMul, Nat.reduceSub, reduceCtorEq, not_false_eq_true, not_true_eq_false, K224, r_soughtBy, e]
    · simp (disch := omega) only [n_lit, gd_n, n_idx, n_mul, n_add, n_addI, n_lt, n_le, n_eq, n_sub, lt_eq, bd_s, bv_s, wp_some, if_true, if_false, reduceIte, Nat.reduceEqDiff, Nat.reduceLeDiff, Nat.reduceAdd, Nat.reduceMul, Nat.reduceSub, reduceCtorEq, not_false_eq_true, not_true_eq_false, K224, r_soughtBy, e]
  have two : f_X10_goesIn_33 k7 214 S (Int32.ofNat k) σ = f_X10_goesIn_53 k7 214 S (Int32.ofNat k) (if ¬ (Int32.ofNat k = σ.1 214 23) ∧ ct (σ.1 224 89) (σ.1 224 10) = 0 then 1 else 0) σ := by
    unfold f_X10_goesIn_33
    by_cases c : Int32.ofNat k = σ.1 214 23
    · simp only [c, not_true_eq_false, false_and, if_true, if_false]
    · rw [if_neg c, r_isCounted, bd_s]
      by_cases c2 : ct (σ.1 224 89) (σ.1 224 10) = 0
      · simp only [c, c2, not_false_eq_true, and_true, if_true]
      · simp only [c2, and_false, if_false]
  rw [r_isOf, bd_s, two]
  unfold gf
  rcases bt_01 S k with b | b
  · rw [b, if_pos rfl]
    have z : ¬ ((0 : Int32) = 1) := by decide
    by_cases c : Int32.ofNat k = σ.1 214 24
    · rw [if_pos c, one _ (by split <;> simp)]; simp only [z, c, false_or, true_and]
    · rw [if_neg c, one _ (Or.inl rfl)]; simp only [z, c, false_or, false_and, if_false]
  · rw [b, if_neg (by decide), one _ (by split <;> simp)]; simp only [true_or, true_and]
theorem r_goesIn {n : Nat} (ρ : mm_S) (h : ρ.1 224 3 = Int32.ofNat n) (hn : n ≤ 6) : wp (f_X10_goesIn 214 ρ) (fun υ =>
    (∀ l, l < n → υ.1 224 (11 + 5 * l + 2) = gf (so (fun l => ρ.1 224 (11 + 5 * l + 3)) n) ρ l) ∧ (∀ k, (∀ l, l < n → k ≠ 11 + 5 * l + 2) → υ.1 224 k = ρ.1 224 k) ∧
    ∀ l, l < n → υ.1 226 l = ρ.1 224 (11 + 5 * l + 3) ∧ υ.1 227 l = 0) := by
  unfold f_X10_goesIn f_X10_goesIn_7
  rw [r_soughtOnes ρ h hn, bd_s]
  generalize so (fun l => ρ.1 224 (11 + 5 * l + 3)) n = S
  refine wp_lp (fun m v τ => ∃ k, k ≤ n ∧ m = n - k ∧ v = Int32.ofNat k ∧ (∀ l, l < k → τ.1 224 (11 + 5 * l + 2) = gf S ρ l) ∧ (∀ j, (∀ l, l < k → j ≠ 11 + 5 * l + 2) → τ.1 224 j = ρ.1 224 j) ∧
    (∀ l, l < k → τ.1 226 l = ρ.1 224 (11 + 5 * l + 3) ∧ τ.1 227 l = 0) ∧ τ.1 214 23 = ρ.1 214 23 ∧ τ.1 214 24 = ρ.1 214 24) ?_ lpN n _ _ (Nat.lt_of_le_of_lt hn (by decide)) ⟨0, by omega, by omega, rfl, fun l hl => by omega, fun j _ => rfl, fun l hl => by omega, rfl, rfl⟩
  rintro m rec v τ ⟨k, hk, rfl, rfl, i1, i2, i3, i4, i5⟩ hrec
  have h3 : τ.1 224 3 = Int32.ofNat n := by rw [i2 3 (fun l hl => by omega)]; exact h
  rw [show (3 : Int32) = Int32.ofNat 3 from rfl]
  simp (disch := omega) only [gd_n, n_idx, h3, n_le]
  by_cases c : k = n
  · subst c; simp only [Nat.le_refl, if_true, wp_some]; exact ⟨i1, i2, i3⟩
  · rw [if_neg (by omega), r_goesIn_one (by omega)]
    have eg : gf S τ k = gf S ρ k := by
      unfold gf; rw [i4, i5, i2 89 (fun l hl => by omega), i2 10 (fun l hl => by omega)]
    refine hrec (n - (k + 1)) _ _ (by omega) ⟨k + 1, by omega, rfl, rfl, fun l hl => ?_, fun j hj => ?_, fun l hl => ⟨?_, ?_⟩, ?_, ?_⟩
    · rw [rd_ia _ _ _ _ _ _ (by decide), rd_ia _ _ _ _ _ _ (by decide), rd_ii]
      by_cases q : l = k
      · subst q; rw [if_pos ⟨rfl, rfl⟩, eg]
      · rw [if_neg (by omega)]; exact i1 l (by omega)
    · rw [rd_ia _ _ _ _ _ _ (by decide), rd_ia _ _ _ _ _ _ (by decide), rd_ii, if_neg (by have := hj k (by omega); omega)]
      exact i2 j (fun l hl => hj l (by omega))
    · rw [rd_ia _ _ _ _ _ _ (by decide), rd_ii]
      by_cases q : l = k
      · subst q; rw [if_pos ⟨rfl, rfl⟩]; exact i2 _ (fun l' hl' => by omega)
      · rw [if_neg (by omega), rd_ia _ _ _ _ _ _ (by decide)]; exact (i3 l (by omega)).1
    · rw [rd_ii]
      by_cases q : l = k
      · subst q; rw [if_pos ⟨rfl, rfl⟩]
      · rw [if_neg (by omega), rd_ia _ _ _ _ _ _ (by decide), rd_ia _ _ _ _ _ _ (by decide)]; exact (i3 l (by omega)).2
    · rw [rd_ia _ _ _ _ _ _ (by decide), rd_ia _ _ _ _ _ _ (by decide), rd_ia _ _ _ _ _ _ (by decide)]; exact i4
    · rw [rd_ia _ _ _ _ _ _ (by decide), rd_ia _ _ _ _ _ _ (by decide), rd_ia _ _ _ _ _ _ (by decide)]; exact i5
theorem bt_hi : ∀ n, n ≤ 6 → ∀ i, i < 64 → i < 2 ^ n → ∀ l, l < 6 → n ≤ l → bt (Int32.ofNat i) l = 0 := by decide +kernel
/-- an hour's first step: who is in -/
theorem h_goIn {n h q : Nat} {σ ρ : mm_S} (hp : HP n σ ρ) (hs : HS n σ ρ) (hj : nj n h q σ 201) (hx : nx σ 201 ρ 224 10) : wp (f_X7_goIn 200 σ) (fun τ => wp (f_X10_goesIn 214 ρ) (fun υ =>
    HP n τ υ ∧ nj n h q τ 201 ∧ nx τ 201 υ 224 10 ∧ SO ρ υ ∧ ∀ l, l < n → υ.1 226 l = τ.1 204 l ∧ υ.1 227 l = 0)) := by
  obtain ⟨⟨hn, e1, e2⟩, -, -, p4, -, ⟨p6, p7⟩, -⟩ := id hp
  obtain ⟨s1, s2⟩ := hs
  obtain ⟨j1, ⟨i0, hi0, ej⟩, j3, j4, j5, j6, j7⟩ := id hj
  obtain ⟨x1, x2⟩ := hx
  rw [x_goIn, wp_some]
  have hk := wp_ko (r_goesIn ρ e2 hn) (fr_X10_goesIn (P := fun a k => a ≠ 224 ∧ a ≠ 226 ∧ a ≠ 227) (fun a k q => by omega) ko_refl)
  refine wp_mono hk ?_
  rintro υ ⟨⟨u1, u2, u3⟩, fr⟩
  have sse : so (fun l => ρ.1 224 (11 + 5 * l + 3)) n = so (σ.1 204) 6 := by
    rw [show (6 : Nat) = n + (6 - n) by omega, so_more (f := σ.1 204) (n := n) (6 - n) (fun l h1 h2 => by rw [show σ.1 204 l = -1 from (j7 l h1 (by omega)).2.1]; decide)]
    exact so_congr n (fun l hl => by rw [show 11 + 5 * l + 3 = 10 + 4 + 5 * l by omega]; exact (x2 l (by omega)).2.2.2.1)
  obtain ⟨s, hs, es⟩ := so_nat hn j5 6 (by omega)
  have es' : so (σ.1 204) 6 = Int32.ofNat s := es
  obtain ⟨i, hi, ei, hb⟩ := gi_nat (cn := ct (σ.1 27 4) (σ.1 201 0)) hn hs s2 p6
  have so' : SO ρ υ := fun k hk => u2 k (fun l hl => by omega)
  refine ⟨HP_keep hp (ag_i (by intro a k; unfold HPc; omega)) rfl ?_, ?_, ?_, so', ?_⟩
  · intro a k hk
    by_cases c : a = 224
    · subst c; exact u2 k (fun l hl => by unfold HPr at hk; omega)
    · exact fr.1 a k (by unfold HPr at hk; omega)
  · refine ⟨?_, ⟨i, hi, ?_⟩, fun l hl => ?_, fun l hl => ?_, fun l hl => ?_, fun l hl => ?_, fun l h1 h2 => ?_⟩
    · rw [rd_ik _ _ _ _ _ _ (by decide)]; exact j1
    · rw [rd_is, es', ei]
    · rw [rd_ia _ _ _ _ _ _ (by decide)]; exact j3 l hl
    · rw [rd_ia _ _ _ _ _ _ (by decide)]; exact j4 l hl
    · rw [rd_ia _ _ _ _ _ _ (by decide)]; exact j5 l hl
    · rw [rd_ia _ _ _ _ _ _ (by decide)]; exact j6 l hl
    · rw [rd_ia _ _ _ _ _ _ (by decide), rd_ia _ _ _ _ _ _ (by decide), rd_ia _ _ _ _ _ _ (by decide)]; exact j7 l h1 h2
  · refine ⟨?_, fun l hl => ?_⟩
    · rw [rd_ik _ _ _ _ _ _ (by decide), u2 10 (fun l hl => by omega)]; exact x1
    · obtain ⟨y1, y2, y3, y4, y5⟩ := x2 l hl
      rw [rd_ia _ (201 + 1) _ _ _ _ (by decide), rd_ia _ (201 + 2) _ _ _ _ (by decide), rd_ia _ (201 + 3) _ _ _ _ (by decide), rd_ia _ (201 + 4) _ _ _ _ (by decide), rd_is, es', ei]
      refine ⟨?_, ?_, ?_, ?_, ?_⟩
      · rw [u2 _ (fun l' hl' => by omega)]; exact y1
      · rw [u2 _ (fun l' hl' => by omega)]; exact y2
      · by_cases c : l < n
        · rw [show 10 + 3 + 5 * l = 11 + 5 * l + 2 by omega, u1 l c, sse, es', hb l hl]
          unfold gf
          rw [s1, p7, p4, show ρ.1 224 10 = σ.1 201 0 from x1]
        · rw [u2 _ (fun l' hl' => by omega), y3, ej, bt_hi n hn i0 (p64 hn hi0) hi0 l hl (by omega), bt_hi n hn i (p64 hn hi) hi l hl (by omega)]
      · rw [u2 _ (fun l' hl' => by omega)]; exact y4
      · rw [u2 _ (fun l' hl' => by omega)]; exact y5
  · intro l hl
    refine ⟨?_, (u3 l hl).2⟩
    rw [(u3 l hl).1, rd_ia _ _ _ _ _ _ (by decide), show 11 + 5 * l + 3 = 10 + 4 + 5 * l by omega]; exact (x2 l (by omega)).2.2.2.1
/-- no RULE: how tired the other one is -/
theorem x_worth0 {σ : mm_S} (h1 : σ.2.2 = 12) (h2 : σ.1 12 1 = 2) (h3 : σ.1 13 0 = 3) (h4 : σ.1 13 1 = 33) : wp (f_X7_worthByRule 200 σ) (fun r => r.1 = σ.2.1 209 3) := by
  unfold f_X7_worthByRule f_X7_worthByRule_4
  have k12 : decide ((mm_K 12).1 = 5) = true := by decide +kernel
  have g0 : ∀ {x : Option (Int64 × mm_S)}, gd (0 : Int32) 400 x = x := gd_n (k := 0) (by omega) (by omega)
  have g1 : ∀ {x : Option (Int64 × mm_S)}, gd (1 : Int32) 400 x = x := gd_n (k := 1) (by omega) (by omega)
  have g3 : ∀ {x : Option (Int64 × mm_S)}, gd (3 : Int32) 13 x = x := gd_n (k := 3) (by omega) (by omega)
  have g4 : ∀ {x : Option (Int64 × mm_S)}, gd (0 : Int32) 48 x = x := gd_n (k := 0) (by omega) (by omega)
  refine wp_lp (fun m v τ => (m = 1 ∧ v = (0, 0) ∧ τ = σ) ∨ (m = 0 ∧ v = (1, 1) ∧ τ = su_j σ 210 0 (σ.2.1 209 3))) ?_ lpN 1 _ _ (by decide) (Or.inl ⟨rfl, rfl, rfl⟩)
  rintro m rec v τ (⟨rfl, rfl, rfl⟩ | ⟨rfl, rfl, rfl⟩) hrec
  · simp only [h1, k12, gz, if_true, h2, show (0 : Int32).toNatClampNeg = 0 from rfl, show (12 : Nat) + 1 = 13 from rfl, h3, lt_eq, g0]
    rw [if_neg (by decide), if_neg (by decide), if_pos (by decide)]
    unfold f_X7_worthByRule_66
    rw [if_neg (by decide), if_neg (by decide), if_neg (by decide), g3, g4]
    simp only [lt_eq]
    exact hrec 0 _ _ (by omega) (Or.inr ⟨rfl, rfl, rfl⟩)
  · simp only [rd_jw, rd_ji, h1, k12, gz, if_true, h2, show (1 : Int32).toNatClampNeg = 1 from rfl, show (12 : Nat) + 1 = 13 from rfl, h4, lt_eq, g1]
    rw [if_neg (by decide), if_neg (by decide), if_pos (by decide)]
    unfold f_X7_worthByRule_66
    rw [if_neg (by decide), if_pos (by decide)]
    unfold f_X7_worthByRule_100
    rw [if_pos rfl, if_neg (by decide), show (1 : Int32) - (1 : Int32) = 0 from by decide, g4, wp_some]
    show (su_j σ 210 0 (σ.2.1 209 3)).2.1 210 0 = _
    rw [rd_jj, if_pos ⟨rfl, rfl⟩]
