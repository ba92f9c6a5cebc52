/-! THE RELATION between the class (σ, places below 214) and the reference (ρ, places from 214 on). -/
def bt (b : Int32) (l : Nat) : Int32 := if ((b >>> (Int32.ofNat l &&& 31)) &&& (1 : Int32)) = (1 : Int32) then 1 else 0
/-- a night of the class at place a, n lodgers, h hours -/
def nj (n h q : Nat) (σ : mm_S) (a : Nat) : Prop :=
  σ.1 a 0 = Int32.ofNat h ∧ (∃ i, i < 2 ^ n ∧ σ.1 a 1 = Int32.ofNat i) ∧
  (∀ l, l < 6 → ∃ t, t ≤ 99 ∧ σ.1 (a + 1) l = Int32.ofNat t) ∧
  (∀ l, l < 6 → ∃ t, t ≤ 999 ∧ σ.1 (a + 2) l = Int32.ofNat t) ∧
  (∀ l, l < 6 → σ.1 (a + 3) l = -1 ∨ ∃ t, t < n ∧ σ.1 (a + 3) l = Int32.ofNat t) ∧
  (∀ l, l < 6 → ∃ t, t ≤ q ∧ σ.1 (a + 4) l = Int32.ofNat t) ∧
  (∀ l, n ≤ l → l < 6 → σ.1 (a + 1) l = 0 ∧ σ.1 (a + 3) l = -1 ∧ σ.1 (a + 4) l = 0)
def ni (n h : Nat) (σ : mm_S) (a : Nat) : Prop := nj n h h σ a
def nx (σ : mm_S) (a : Nat) (ρ : mm_S) (b o : Nat) : Prop :=
  ρ.1 b o = σ.1 a 0 ∧ ∀ l, l < 6 → ρ.1 b (o + 1 + 5 * l) = σ.1 (a + 1) l ∧ ρ.1 b (o + 2 + 5 * l) = σ.1 (a + 2) l ∧ ρ.1 b (o + 3 + 5 * l) = bt (σ.1 a 1) l ∧ ρ.1 b (o + 4 + 5 * l) = σ.1 (a + 3) l ∧ ρ.1 b (o + 5 + 5 * l) = σ.1 (a + 4) l
/-- a house of the class at place a -/
def hi (n : Nat) (σ : mm_S) (a : Nat) : Prop :=
  n ≤ 6 ∧ (σ.1 a 0 = 0 ∨ σ.1 a 0 = 1) ∧ (∃ s, s ≤ 9 ∧ σ.1 a 1 = Int32.ofNat s) ∧ (∃ s, s ≤ 7 ∧ σ.1 a 2 = Int32.ofNat s) ∧ σ.1 a 3 = Int32.ofNat n ∧
  (∀ l, l < 6 → ∃ t, t ≤ 99 ∧ σ.1 (a + 1) l = Int32.ofNat t) ∧ (∀ l, l < 6 → ∃ t, t ≤ 999 ∧ σ.1 (a + 2) l = Int32.ofNat t) ∧
  (∀ l, n ≤ l → l < 6 → σ.1 (a + 1) l = 0)
def hx (σ : mm_S) (a : Nat) (ρ : mm_S) (b o : Nat) : Prop :=
  ρ.1 b o = σ.1 a 0 ∧ ρ.1 b (o + 1) = σ.1 a 1 ∧ ρ.1 b (o + 2) = σ.1 a 2 ∧ ρ.1 b (o + 3) = σ.1 a 3 ∧ ρ.1 b (o + 89) = σ.1 a 4 ∧
  (∀ l, l < 6 → ρ.1 b (o + 41 + l) = σ.1 (a + 1) l ∧ ρ.1 b (o + 47 + l) = σ.1 (a + 2) l) ∧ (∀ l, l < 36 → ρ.1 b (o + 53 + l) = σ.1 (a + 3) l)
/-- notes of the class at place a -/
def ti (n m : Nat) (σ : mm_S) (a : Nat) : Prop :=
  m ≤ 10 ∧ σ.1 a 0 = Int32.ofNat m ∧ ∀ i, i < m → (∃ t, t ≤ 60 ∧ σ.1 (a + 1) i = Int32.ofNat t) ∧ (∃ t, t < n ∧ σ.1 (a + 2) i = Int32.ofNat t) ∧ (∃ t, t ≤ 1 ∧ σ.1 (a + 3) i = Int32.ofNat t)
def tx (m : Nat) (σ : mm_S) (a : Nat) (ρ : mm_S) (b o : Nat) : Prop :=
  ρ.1 b (o + 120) = σ.1 a 0 ∧ ∀ i, i < m → ρ.1 b (o + 90 + 3 * i) = σ.1 (a + 1) i ∧ ρ.1 b (o + 91 + 3 * i) = σ.1 (a + 2) i ∧ ρ.1 b (o + 92 + 3 * i) = σ.1 (a + 3) i
/-- a world at place a against 121 cells of b from o on; r rules; force f at cell (fb, fk) -/
def wr (r : Nat) (σ : mm_S) (a : Nat) (ρ : mm_S) (b o fb fk xb xk : Nat) (n h m : Nat) : Prop :=
  (hi n σ (a + 1) ∧ hx σ (a + 1) ρ b o) ∧ (h ≤ 999 ∧ ni n h σ (a + 5) ∧ nx σ (a + 5) ρ b (o + 10)) ∧ (ti n m σ (a + 10) ∧ tx m σ (a + 10) ρ b o) ∧
  (ρ.1 fb fk = σ.1 a 3 ∧ (σ.1 a 3 = -1 ∨ ∃ f, f < r ∧ σ.1 a 3 = Int32.ofNat f)) ∧ (ρ.1 xb xk = σ.1 a 4 ∧ ¬ σ.1 a 4 < 0)
/-- a world ahead of the first HOUSE: all as it was made -/
def PW (r : Nat) (σ : mm_S) (a : Nat) (ρ : mm_S) (b o fb fk xb xk : Nat) : Prop :=
  (∀ k, k ≤ 4 → σ.1 (a + 1) k = 0) ∧ (∀ l, l < 6 → σ.1 (a + 1 + 1) l = 0 ∧ σ.1 (a + 1 + 2) l = 0) ∧ (∀ l, l < 36 → σ.1 (a + 1 + 3) l = 0) ∧ (σ.1 (a + 5) 0 = 0 ∧ σ.1 (a + 5) 1 = 0 ∧ σ.1 (a + 10) 0 = 0) ∧
  (∀ l, l < 6 → σ.1 (a + 5 + 1) l = 0 ∧ σ.1 (a + 5 + 2) l = 0 ∧ σ.1 (a + 5 + 3) l = -1 ∧ σ.1 (a + 5 + 4) l = 0) ∧ (∀ k, k < 121 → ρ.1 b (o + k) = 0) ∧
  (ρ.1 fb fk = σ.1 a 3 ∧ (σ.1 a 3 = -1 ∨ ∃ f, f < r ∧ σ.1 a 3 = Int32.ofNat f)) ∧ (ρ.1 xb xk = σ.1 a 4 ∧ ¬ σ.1 a 4 < 0)
def RT (σ ρ : mm_S) : Prop := ρ.1 214 1 = σ.1 1 1 ∧ (∃ n, n ≤ 400 ∧ σ.1 1 1 = Int32.ofNat n) ∧ (∀ k, ρ.1 215 k = σ.1 2 k) ∧ ∀ k, ∃ z : Int, -128 ≤ z ∧ z < 128 ∧ σ.1 2 k = Int32.ofInt z
/-- acts: m nights, next is q -/
def RA (n : Nat) (σ ρ : mm_S) : Prop := ∃ m q, m ≤ 20 ∧ q < 20 ∧ σ.1 98 2 = Int32.ofNat m ∧ ρ.1 214 31 = Int32.ofNat m ∧ σ.1 98 1 = Int32.ofNat q ∧
  ∀ i, i < m → ∃ h, h ≤ 999 ∧ ni n h σ (100 + 5 * ((q + 20 - m + i) % 20)) ∧ nx σ (100 + 5 * ((q + 20 - m + i) % 20)) ρ 228 (31 * i)
def RI (r : Nat) (σ ρ : mm_S) : Prop := ∀ k, k < 4 → ρ.1 239 k = σ.1 97 k ∧ (σ.1 97 k = 0 ∨ σ.1 97 k = 1) ∧ (σ.1 97 k = 1 → (∃ n h m, wr r σ (41 + 14 * k) ρ 236 (121 * k) 237 k 238 k n h m) ∨ PW r σ (41 + 14 * k) ρ 236 (121 * k) 237 k 238 k)
def RQ (ρ : mm_S) : Prop := ρ.1 214 23 = -1 ∧ ρ.1 214 24 = -1 ∧ ρ.1 214 25 = 0
/-- RULE k means the same on both sides (whatever the words are) -/
def EV (k : Nat) (σ ρ : mm_S) : Prop := ∀ σ' ρ' : mm_S, (∀ j, σ'.1 (14 + 2 * k) j = σ.1 (14 + 2 * k) j) → (∀ j, σ'.1 (15 + 2 * k) j = σ.1 (15 + 2 * k) j) → σ'.2.2 = 14 + 2 * k →
  (∀ j, j < 400 → ρ'.1 216 (400 * k + j) = ρ.1 216 (400 * k + j)) → (∀ j, j < 48 → ρ'.1 218 (48 * k + j) = ρ.1 218 (48 * k + j)) → ρ'.1 219 k = ρ.1 219 k →
  (∀ i, i < 13 → σ'.2.1 209 i = ρ'.2.1 223 i) → wp (f_X7_worthByRule 200 σ') (fun r => wp (f_X10_summedBy 214 (Int32.ofNat k) ρ') (fun r' => r.1 = r'.1))
def RR (r : Nat) (σ ρ : mm_S) : Prop := r ≤ 6 ∧ σ.1 0 4 = Int32.ofNat r ∧ ρ.1 214 2 = Int32.ofNat r ∧ (σ.1 12 1 = 2 ∧ σ.1 13 0 = 3 ∧ σ.1 13 1 = 33) ∧ ∀ k, k < r → EV k σ ρ
def RY (r n h m : Nat) (σ ρ : mm_S) : Prop := RT σ ρ ∧ RQ ρ ∧ RR r σ ρ ∧ wr r σ 26 ρ 224 0 214 21 214 22 n h m ∧ RA n σ ρ ∧ RI r σ ρ
def RZ (σ ρ : mm_S) : Prop := ∃ r n h m, RY r n h m σ ρ
/-- ahead of the first HOUSE -/
def PA (σ ρ : mm_S) : Prop := σ.1 98 2 = 0 ∧ ρ.1 214 31 = 0 ∧ ∃ q, q < 20 ∧ σ.1 98 1 = Int32.ofNat q
def RP (σ ρ : mm_S) : Prop := ∃ r, RT σ ρ ∧ RQ ρ ∧ RR r σ ρ ∧ PW r σ 26 ρ 224 0 214 21 214 22 ∧ PA σ ρ ∧ RI r σ ρ
/-! what keeps it -/
def ag (S : Nat → Nat → Prop) (σ τ : mm_S) : Prop := ∀ a k, S a k → τ.1 a k = σ.1 a k
theorem ag_of {P S : Nat → Nat → Prop} {σ τ : mm_S} (h : ko_K P σ τ) (hS : ∀ a k, S a k → P a k) : ag S σ τ := fun a k s => h.1 a k (hS a k s)
theorem ag_refl {S : Nat → Nat → Prop} {σ : mm_S} : ag S σ σ := fun _ _ _ => rfl
theorem ag_mono {S S' : Nat → Nat → Prop} {σ τ : mm_S} (h : ag S' σ τ) (hS : ∀ a k, S a k → S' a k) : ag S σ τ := fun a k s => h a k (hS a k s)
theorem nj_keep {n h q a : Nat} {σ τ : mm_S} (H : nj n h q σ a) (g : ag (fun c k => a ≤ c ∧ c ≤ a + 4) σ τ) : nj n h q τ a := by
  obtain ⟨h1, h2, h3, h4, h5, h6, h7⟩ := H
  have g0 : ∀ k, τ.1 a k = σ.1 a k := fun k => g a k (by omega)
  have g1 : ∀ k, τ.1 (a + 1) k = σ.1 (a + 1) k := fun k => g _ k (by omega)
  have g2 : ∀ k, τ.1 (a + 2) k = σ.1 (a + 2) k := fun k => g _ k (by omega)
  have g3 : ∀ k, τ.1 (a + 3) k = σ.1 (a + 3) k := fun k => g _ k (by omega)
  have g4 : ∀ k, τ.1 (a + 4) k = σ.1 (a + 4) k := fun k => g _ k (by omega)
  unfold nj; simp only [g0, g1, g2, g3, g4]
  exact ⟨h1, h2, h3, h4, h5, h6, h7⟩
theorem ni_keep {n h a : Nat} {σ τ : mm_S} (H : ni n h σ a) (g : ag (fun c k => a ≤ c ∧ c ≤ a + 4) σ τ) : ni n h τ a := nj_keep H g
theorem nx_keep {a b o : Nat} {σ τ ρ υ : mm_S} (H : nx σ a ρ b o) (g : ag (fun c k => a ≤ c ∧ c ≤ a + 4) σ τ) (g' : ag (fun c k => c = b ∧ o ≤ k ∧ k < o + 31) ρ υ) : nx τ a υ b o := by
  obtain ⟨h1, h2⟩ := H
  refine ⟨?_, fun l hl => ?_⟩
  · rw [g' b o (by omega), g a 0 (by omega)]; exact h1
  · obtain ⟨q1, q2, q3, q4, q5⟩ := h2 l hl
    rw [g' b (o + 1 + 5 * l) (by omega), g' b (o + 2 + 5 * l) (by omega), g' b (o + 3 + 5 * l) (by omega), g' b (o + 4 + 5 * l) (by omega), g' b (o + 5 + 5 * l) (by omega),
      g (a + 1) l (by omega), g (a + 2) l (by omega), g (a + 3) l (by omega), g (a + 4) l (by omega), g a 1 (by omega)]
    exact ⟨q1, q2, q3, q4, q5⟩
theorem hi_keep {n a : Nat} {σ τ : mm_S} (H : hi n σ a) (g : ag (fun c k => a ≤ c ∧ c ≤ a + 3) σ τ) : hi n τ a := by
  have g0 : ∀ k, τ.1 a k = σ.1 a k := fun k => g a k (by omega)
  have g1 : ∀ k, τ.1 (a + 1) k = σ.1 (a + 1) k := fun k => g _ k (by omega)
  have g2 : ∀ k, τ.1 (a + 2) k = σ.1 (a + 2) k := fun k => g _ k (by omega)
  unfold hi at H ⊢; simp only [g0, g1, g2]
  exact H
theorem hx_keep {a b o : Nat} {σ τ ρ υ : mm_S} (H : hx σ a ρ b o) (g : ag (fun c k => a ≤ c ∧ c ≤ a + 3) σ τ) (g' : ag (fun c k => c = b ∧ o ≤ k ∧ k < o + 121 ∧ (k < o + 10 ∨ o + 41 ≤ k)) ρ υ) : hx τ a υ b o := by
  obtain ⟨h1, h2, h3, h4, h5, h6, h7⟩ := H
  refine ⟨?_, ?_, ?_, ?_, ?_, fun l hl => ?_, fun l hl => ?_⟩
  · rw [g' b o (by omega), g a 0 (by omega)]; exact h1
  · rw [g' b (o + 1) (by omega), g a 1 (by omega)]; exact h2
  · rw [g' b (o + 2) (by omega), g a 2 (by omega)]; exact h3
  · rw [g' b (o + 3) (by omega), g a 3 (by omega)]; exact h4
  · rw [g' b (o + 89) (by omega), g a 4 (by omega)]; exact h5
  · rw [g' b (o + 41 + l) (by omega), g' b (o + 47 + l) (by omega), g (a + 1) l (by omega), g (a + 2) l (by omega)]; exact h6 l hl
  · rw [g' b (o + 53 + l) (by omega), g (a + 3) l (by omega)]; exact h7 l hl
theorem ti_keep {n m a : Nat} {σ τ : mm_S} (H : ti n m σ a) (g : ag (fun c k => a ≤ c ∧ c ≤ a + 3) σ τ) : ti n m τ a := by
  have g0 : ∀ k, τ.1 a k = σ.1 a k := fun k => g a k (by omega)
  have g1 : ∀ k, τ.1 (a + 1) k = σ.1 (a + 1) k := fun k => g _ k (by omega)
  have g2 : ∀ k, τ.1 (a + 2) k = σ.1 (a + 2) k := fun k => g _ k (by omega)
  have g3 : ∀ k, τ.1 (a + 3) k = σ.1 (a + 3) k := fun k => g _ k (by omega)
  unfold ti at H ⊢; simp only [g0, g1, g2, g3]
  exact H
theorem tx_keep {m a b o : Nat} {σ τ ρ υ : mm_S} (hm : m ≤ 10) (H : tx m σ a ρ b o) (g : ag (fun c k => a ≤ c ∧ c ≤ a + 3) σ τ) (g' : ag (fun c k => c = b ∧ o + 90 ≤ k ∧ k < o + 121) ρ υ) : tx m τ a υ b o := by
  obtain ⟨h1, h2⟩ := H
  refine ⟨?_, fun i hi => ?_⟩
  · rw [g' b (o + 120) (by omega), g a 0 (by omega)]; exact h1
  · rw [g' b (o + 90 + 3 * i) (by omega), g' b (o + 91 + 3 * i) (by omega), g' b (o + 92 + 3 * i) (by omega), g (a + 1) i (by omega), g (a + 2) i (by omega), g (a + 3) i (by omega)]
    exact h2 i hi
theorem wr_keep {r a b o fb fk xb xk n h m : Nat} {σ τ ρ υ : mm_S} (H : wr r σ a ρ b o fb fk xb xk n h m) (g : ag (fun c k => a ≤ c ∧ c ≤ a + 13) σ τ)
    (g' : ag (fun c k => (c = b ∧ o ≤ k ∧ k < o + 121) ∨ (c = fb ∧ k = fk) ∨ (c = xb ∧ k = xk)) ρ υ) : wr r τ a υ b o fb fk xb xk n h m := by
  obtain ⟨⟨h1, h2⟩, ⟨h3, h4, h5⟩, ⟨h6, h7⟩, h8, h9⟩ := H
  refine ⟨⟨hi_keep h1 (ag_mono g (by intro c k; omega)), hx_keep h2 (ag_mono g (by intro c k; omega)) (ag_mono g' (by intro c k; omega))⟩,
    ⟨h3, ni_keep h4 (ag_mono g (by intro c k; omega)), nx_keep h5 (ag_mono g (by intro c k; omega)) (ag_mono g' (by intro c k; omega))⟩,
    ⟨ti_keep h6 (ag_mono g (by intro c k; omega)), tx_keep h6.1 h7 (ag_mono g (by intro c k; omega)) (ag_mono g' (by intro c k; omega))⟩, ?_, ?_⟩
  · rw [g' fb fk (by omega), g a 3 (by omega)]; exact h8
  · rw [g' xb xk (by omega), g a 4 (by omega)]; exact h9
theorem PW_keep {r a b o fb fk xb xk : Nat} {σ τ ρ υ : mm_S} (H : PW r σ a ρ b o fb fk xb xk) (g : ag (fun c k => a ≤ c ∧ c ≤ a + 13) σ τ)
    (g' : ag (fun c k => (c = b ∧ o ≤ k ∧ k < o + 121) ∨ (c = fb ∧ k = fk) ∨ (c = xb ∧ k = xk)) ρ υ) : PW r τ a υ b o fb fk xb xk := by
  obtain ⟨h1, h2, h3, h4, h5, h6, h7, h8⟩ := H
  refine ⟨fun k hk => (g _ _ (by omega)).trans (h1 k hk), fun l hl => ⟨(g _ _ (by omega)).trans (h2 l hl).1, (g _ _ (by omega)).trans (h2 l hl).2⟩, fun l hl => (g _ _ (by omega)).trans (h3 l hl), ⟨(g _ _ (by omega)).trans h4.1, (g _ _ (by omega)).trans h4.2.1, (g _ _ (by omega)).trans h4.2.2⟩,
    fun l hl => ⟨(g _ _ (by omega)).trans (h5 l hl).1, (g _ _ (by omega)).trans (h5 l hl).2.1, (g _ _ (by omega)).trans (h5 l hl).2.2.1, (g _ _ (by omega)).trans (h5 l hl).2.2.2⟩, fun k hk => (g' _ _ (by omega)).trans (h6 k hk), ?_, ?_⟩
  · rw [g' fb fk (by omega), g a 3 (by omega)]; exact h7
  · rw [g' xb xk (by omega), g a 4 (by omega)]; exact h8
theorem PW_more {r r' a b o fb fk xb xk : Nat} {σ ρ : mm_S} (H : PW r σ a ρ b o fb fk xb xk) (hr : r ≤ r') : PW r' σ a ρ b o fb fk xb xk := by
  obtain ⟨h1, h2, h3, h4, h5, h6, ⟨h7, h9⟩, h8⟩ := H
  refine ⟨h1, h2, h3, h4, h5, h6, ⟨h7, ?_⟩, h8⟩
  rcases h9 with h9 | ⟨f, hf, e⟩
  · exact Or.inl h9
  · exact Or.inr ⟨f, by omega, e⟩
theorem wr_more {r r' a b o fb fk xb xk n h m : Nat} {σ ρ : mm_S} (H : wr r σ a ρ b o fb fk xb xk n h m) (hr : r ≤ r') : wr r' σ a ρ b o fb fk xb xk n h m := by
  obtain ⟨h1, h2, h3, ⟨h8, h9⟩, h10⟩ := H
  refine ⟨h1, h2, h3, ⟨h8, ?_⟩, h10⟩
  rcases h9 with h9 | ⟨f, hf, e⟩
  · exact Or.inl h9
  · exact Or.inr ⟨f, by omega, e⟩
theorem RT_keep {σ τ ρ υ : mm_S} (H : RT σ ρ) (g : ag (fun c k => c = 1 ∨ c = 2) σ τ) (g' : ag (fun c k => (c = 214 ∧ k = 1) ∨ c = 215) ρ υ) : RT τ υ := by
  have g0 : ∀ k, τ.1 1 k = σ.1 1 k := fun k => g _ k (by omega)
  have g1 : ∀ k, τ.1 2 k = σ.1 2 k := fun k => g _ k (by omega)
  have g2 : ∀ k, υ.1 215 k = ρ.1 215 k := fun k => g' _ k (by omega)
  have g3 : υ.1 214 1 = ρ.1 214 1 := g' _ _ (by omega)
  unfold RT at H ⊢; simp only [g0, g1, g2, g3]; exact H
theorem RQ_keep {ρ υ : mm_S} (H : RQ ρ) (g' : ag (fun c k => c = 214 ∧ 23 ≤ k ∧ k ≤ 25) ρ υ) : RQ υ := by
  unfold RQ at H ⊢
  rw [g' 214 23 (by omega), g' 214 24 (by omega), g' 214 25 (by omega)]; exact H
theorem EV_keep {k : Nat} {σ τ ρ υ : mm_S} (hk : k < 6) (H : EV k σ ρ) (g : ag (fun c k => 12 ≤ c ∧ c ≤ 25) σ τ) (g' : ag (fun c k => c = 216 ∨ c = 218 ∨ c = 219) ρ υ) : EV k τ υ := by
  intro σ' ρ' h1 h2 h3 h4 h5 h6 h7
  refine H σ' ρ' (fun j => ?_) (fun j => ?_) h3 (fun j hj => ?_) (fun j hj => ?_) ?_ h7
  · rw [h1, g _ j (by omega)]
  · rw [h2, g _ j (by omega)]
  · rw [h4 j hj, g' _ _ (by omega)]
  · rw [h5 j hj, g' _ _ (by omega)]
  · rw [h6, g' _ _ (by omega)]
theorem RR_keep {r : Nat} {σ τ ρ υ : mm_S} (H : RR r σ ρ) (g : ag (fun c k => (c = 0 ∧ k = 4) ∨ (12 ≤ c ∧ c ≤ 25)) σ τ) (g' : ag (fun c k => (c = 214 ∧ k = 2) ∨ c = 216 ∨ c = 218 ∨ c = 219) ρ υ) : RR r τ υ := by
  obtain ⟨h1, h2, h3, ⟨h4, h5, h6⟩, h7⟩ := H
  refine ⟨h1, ?_, ?_, ⟨?_, ?_, ?_⟩, fun k hk => EV_keep (by omega) (h7 k hk) (ag_mono g (by intro c k; omega)) (ag_mono g' (by intro c k; omega))⟩
  · rw [g _ _ (by omega)]; exact h2
  · rw [g' _ _ (by omega)]; exact h3
  · rw [g _ _ (by omega)]; exact h4
  · rw [g _ _ (by omega)]; exact h5
  · rw [g _ _ (by omega)]; exact h6
theorem RA_keep {n : Nat} {σ τ ρ υ : mm_S} (H : RA n σ ρ) (g : ag (fun c k => (c = 98 ∧ (k = 1 ∨ k = 2)) ∨ (100 ≤ c ∧ c ≤ 199)) σ τ) (g' : ag (fun c k => (c = 214 ∧ k = 31) ∨ c = 228) ρ υ) : RA n τ υ := by
  obtain ⟨m, q, h1, h2, h3, h4, h5, h6⟩ := H
  refine ⟨m, q, h1, h2, ?_, ?_, ?_, fun i hi => ?_⟩
  · rw [g _ _ (by omega)]; exact h3
  · rw [g' _ _ (by omega)]; exact h4
  · rw [g _ _ (by omega)]; exact h5
  · obtain ⟨h, p1, p2, p3⟩ := h6 i hi
    exact ⟨h, p1, ni_keep p2 (ag_mono g (by intro c k; omega)), nx_keep p3 (ag_mono g (by intro c k; omega)) (ag_mono g' (by intro c k; omega))⟩
theorem RI_keep {r : Nat} {σ τ ρ υ : mm_S} (H : RI r σ ρ) (g : ag (fun c k => 41 ≤ c ∧ c ≤ 97) σ τ) (g' : ag (fun c k => 236 ≤ c ∧ c ≤ 239) ρ υ) : RI r τ υ := by
  intro k hk
  obtain ⟨h1, h2, h3⟩ := H k hk
  rw [g 97 k (by omega), g' 239 k (by omega)]
  refine ⟨h1, h2, fun e => ?_⟩
  rcases h3 e with ⟨n, h, m, w⟩ | w
  · exact Or.inl ⟨n, h, m, wr_keep w (ag_mono g (by intro c k; omega)) (ag_mono g' (by intro c k; omega))⟩
  · exact Or.inr (PW_keep w (ag_mono g (by intro c k; omega)) (ag_mono g' (by intro c k; omega)))
/-! cells that last from call to call -/
def cS (c k : Nat) : Prop := c = 0 ∨ c = 1 ∨ c = 2 ∨ (12 ≤ c ∧ c < 200)
def rS (c k : Nat) : Prop := (c = 214 ∧ (k = 1 ∨ k = 2 ∨ (21 ≤ k ∧ k ≤ 25) ∨ k = 31)) ∨ c = 215 ∨ c = 216 ∨ c = 218 ∨ c = 219 ∨ c = 224 ∨ c = 228 ∨ (236 ≤ c ∧ c ≤ 239)
theorem RY_keep {r n h m : Nat} {σ τ ρ υ : mm_S} (H : RY r n h m σ ρ) (g : ag cS σ τ) (g' : ag rS ρ υ) : RY r n h m τ υ := by
  obtain ⟨h1, h2, h3, h4, h5, h6⟩ := H
  exact ⟨RT_keep h1 (ag_mono g (by intro c k; unfold cS; omega)) (ag_mono g' (by intro c k; unfold rS; omega)), RQ_keep h2 (ag_mono g' (by intro c k; unfold rS; omega)),
    RR_keep h3 (ag_mono g (by intro c k; unfold cS; omega)) (ag_mono g' (by intro c k; unfold rS; omega)), wr_keep h4 (ag_mono g (by intro c k; unfold cS; omega)) (ag_mono g' (by intro c k; unfold rS; omega)),
    RA_keep h5 (ag_mono g (by intro c k; unfold cS; omega)) (ag_mono g' (by intro c k; unfold rS; omega)), RI_keep h6 (ag_mono g (by intro c k; unfold cS; omega)) (ag_mono g' (by intro c k; unfold rS; omega))⟩
/-- only the night is another one -/
theorem RY_night {r n h h' m : Nat} {σ τ ρ υ : mm_S} (H : RY r n h m σ ρ) (g : ag (fun c k => cS c k ∧ ¬ (31 ≤ c ∧ c ≤ 35)) σ τ) (g' : ag (fun c k => rS c k ∧ ¬ (c = 224 ∧ 10 ≤ k ∧ k < 41)) ρ υ)
    (hh : h' ≤ 999) (h1 : ni n h' τ 31) (h2 : nx τ 31 υ 224 10) : RY r n h' m τ υ := by
  obtain ⟨t1, t2, t3, ⟨w1, w2, w3, w4, w5⟩, t5, t6⟩ := H
  refine ⟨RT_keep t1 (ag_mono g (by intro c k; unfold cS; omega)) (ag_mono g' (by intro c k; unfold rS; omega)), RQ_keep t2 (ag_mono g' (by intro c k; unfold rS; omega)),
    RR_keep t3 (ag_mono g (by intro c k; unfold cS; omega)) (ag_mono g' (by intro c k; unfold rS; omega)), ?_,
    RA_keep t5 (ag_mono g (by intro c k; unfold cS; omega)) (ag_mono g' (by intro c k; unfold rS; omega)), RI_keep t6 (ag_mono g (by intro c k; unfold cS; omega)) (ag_mono g' (by intro c k; unfold rS; omega))⟩
  refine ⟨⟨hi_keep w1.1 (ag_mono g (by intro c k; unfold cS; omega)), hx_keep w1.2 (ag_mono g (by intro c k; unfold cS; omega)) (ag_mono g' (by intro c k; unfold rS; omega))⟩, ⟨hh, h1, h2⟩,
    ⟨ti_keep w3.1 (ag_mono g (by intro c k; unfold cS; omega)), tx_keep w3.1.1 w3.2 (ag_mono g (by intro c k; unfold cS; omega)) (ag_mono g' (by intro c k; unfold rS; omega))⟩, ?_, ?_⟩
  · rw [g' 214 21 (by unfold rS; omega), g 26 3 (by unfold cS; omega)]; exact w4
  · rw [g' 214 22 (by unfold rS; omega), g 26 4 (by unfold cS; omega)]; exact w5
theorem ag_i {S : Nat → Nat → Prop} {σ : mm_S} {b j : Nat} {x : Int32} (h : ∀ a k, S a k → ¬ (a = b ∧ k = j)) : ag S σ (su_i σ b j x) := fun a k s => if_neg (h a k s)
/-! small functions, as equations -/
def ct (c h : Int32) : Int32 := if ((c >>> ((h - h / (12 : Int32) * (12 : Int32)) &&& 31)) &&& (1 : Int32)) = (1 : Int32) then 1 else 0
theorem bt_01 (b : Int32) (l : Nat) : bt b l = 0 ∨ bt b l = 1 := by unfold bt; split <;> simp
theorem ct_01 (c h : Int32) : ct c h = 0 ∨ ct c h = 1 := by unfold ct; split <;> simp
theorem x_isIn (a l : Nat) (σ : mm_S) : f_X2_isIn a (Int32.ofNat l) σ = some (bt (σ.1 a 1) l, σ) := by
  unfold f_X2_isIn bt; split <;> rfl
theorem x_ct (a : Nat) (h : Int32) (σ : mm_S) : f_X1_countsAt a h σ = some (ct (σ.1 a 4) h, σ) := by
  unfold f_X1_countsAt ct; split <;> rfl
theorem r_isOf (b : Int32) (l : Nat) (σ : mm_S) : f_X10_isOf b (Int32.ofNat l) σ = some (bt b l, σ) := by
  unfold f_X10_isOf bt; split <;> rfl
theorem gb_01 {ρ : Type} {x : Int32} {y : Option ρ} (h : x = 0 ∨ x = 1) : gb x y = y := if_pos h
theorem r_isCounted (a : Nat) (σ : mm_S) : f_X10_isCounted a σ = some (ct (σ.1 224 89) (σ.1 224 10), σ) := by
  unfold f_X10_isCounted
  have e : ∀ c h : Int32, f_X10_isOf c (h - h / (12 : Int32) * (12 : Int32)) σ = some (ct c h, σ) := by
    intro c h; unfold f_X10_isOf ct; split <;> rfl
  rw [e, bd_s, gb_01 (ct_01 _ _)]; rfl
theorem r_tiredOf {l : Nat} (a : Nat) (hl : l < 6) (σ : mm_S) : f_X10_tiredOf a (Int32.ofNat l) σ = some (σ.1 224 (11 + 5 * l), σ) := by
  unfold f_X10_tiredOf; simp (disch := omega) only [n_lit, gd_n, n_idx, n_mul, n_add]
theorem r_penceOf {l : Nat} (a : Nat) (hl : l < 6) (σ : mm_S) : f_X10_penceOf a (Int32.ofNat l) σ = some (σ.1 224 (11 + 5 * l + 1), σ) := by
  unfold f_X10_penceOf; simp (disch := omega) only [n_lit, gd_n, n_idx, n_mul, n_add]
theorem r_soughtBy {l : Nat} (a : Nat) (hl : l < 6) (σ : mm_S) : f_X10_soughtBy a (Int32.ofNat l) σ = some (σ.1 224 (11 + 5 * l + 3), σ) := by
  unfold f_X10_soughtBy; simp (disch := omega) only [n_lit, gd_n, n_idx, n_mul, n_add]
theorem r_sleptBy {l : Nat} (a : Nat) (hl : l < 6) (σ : mm_S) : f_X10_sleptBy a (Int32.ofNat l) σ = some (σ.1 224 (11 + 5 * l + 4), σ) := by
  unfold f_X10_sleptBy; simp (disch := omega) only [n_lit, gd_n, n_idx, n_mul, n_add]
theorem r_isIn {l : Nat} (a : Nat) (hl : l < 6) (σ : mm_S) : f_X10_isIn a (Int32.ofNat l) σ = some (if σ.1 224 (11 + 5 * l + 2) = 1 then 1 else 0, σ) := by
  unfold f_X10_isIn; simp (disch := omega) only [n_lit, gd_n, n_idx, n_mul, n_add]
  split <;> rfl
theorem x_isl1 {n l : Nat} {σ : mm_S} (h : σ.1 27 3 = Int32.ofNat n) (hn : n ≤ 6) (hl : l < n) : f_X9_isLodger 0 (Int32.ofNat l) σ = some (1, σ) := by
  unfold f_X9_isLodger; rw [if_neg (n_neg (by omega)), h, if_neg]; rw [n_le (by omega) (by omega)]; omega
theorem x_isl0 {n : Nat} {i : Int32} {σ : mm_S} (h : σ.1 27 3 = Int32.ofNat n) (hi : i < 0 ∨ Int32.ofNat n ≤ i) : f_X9_isLodger 0 i σ = some (0, σ) := by
  unfold f_X9_isLodger; by_cases c : i < 0
  · rw [if_pos c]
  · rw [if_neg c, h, if_pos (hi.resolve_left c)]
theorem r_isl1 {n l : Nat} {a : Nat} {σ : mm_S} (h : σ.1 224 3 = Int32.ofNat n) (hn : n ≤ 6) (hl : l < n) : f_X10_isLodger a (Int32.ofNat l) σ = some (1, σ) := by
  unfold f_X10_isLodger; rw [if_neg (n_neg (by omega))]; simp (disch := omega) only [n_lit, gd_n, n_idx, h, n_le]; rw [if_neg (by omega)]
theorem r_isl0 {n : Nat} {i : Int32} {a : Nat} {σ : mm_S} (h : σ.1 224 3 = Int32.ofNat n) (hi : i < 0 ∨ Int32.ofNat n ≤ i) : f_X10_isLodger a i σ = some (0, σ) := by
  unfold f_X10_isLodger; by_cases c : i < 0
  · rw [if_pos c]
  · rw [if_neg c]; simp (disch := omega) only [n_lit, gd_n, n_idx, h]; rw [if_pos (hi.resolve_left c)]
/-- two unlike lodgers, or not -/
theorem two_cases {n : Nat} (hn : n ≤ 6) (i j : Int32) : (∃ l o, l < n ∧ o < n ∧ l ≠ o ∧ i = Int32.ofNat l ∧ j = Int32.ofNat o) ∨ ((i < 0 ∨ Int32.ofNat n ≤ i) ∨ (∃ l, l < n ∧ i = Int32.ofNat l ∧ ((j < 0 ∨ Int32.ofNat n ≤ j) ∨ j = Int32.ofNat l))) := by
  rcases isl_cases (n := n) (by omega) i with ⟨l, hl, e⟩ | c
  · rcases isl_cases (n := n) (by omega) j with ⟨o, ho, e'⟩ | c'
    · by_cases q : l = o
      · subst q; exact Or.inr (Or.inr ⟨l, hl, e, Or.inr e'⟩)
      · exact Or.inl ⟨l, o, hl, ho, q, e, e'⟩
    · exact Or.inr (Or.inr ⟨l, hl, e, Or.inl c'⟩)
  · exact Or.inr (Or.inl c)
theorem x_two1 {n l o : Nat} {σ : mm_S} (h : σ.1 27 3 = Int32.ofNat n) (hn : n ≤ 6) (hl : l < n) (ho : o < n) (q : l ≠ o) : f_X9_areUnlike 0 (Int32.ofNat l) (Int32.ofNat o) σ = some (1, σ) := by
  unfold f_X9_areUnlike; rw [x_isl1 h hn hl, bd_s, if_neg (by decide), x_isl1 h hn ho, bd_s, if_neg (by decide), if_neg]; rw [n_eq (by omega) (by omega)]; exact q
theorem r_two1 {n l o : Nat} {a : Nat} {σ : mm_S} (h : σ.1 224 3 = Int32.ofNat n) (hn : n ≤ 6) (hl : l < n) (ho : o < n) (q : l ≠ o) : f_X10_areTwo a (Int32.ofNat l) (Int32.ofNat o) σ = some (1, σ) := by
  unfold f_X10_areTwo; rw [r_isl1 h hn hl, bd_s, if_neg (by decide), r_isl1 h hn ho, bd_s, if_neg (by decide), if_neg]; rw [n_eq (by omega) (by omega)]; exact q
theorem x_two0 {n : Nat} {i j : Int32} {σ : mm_S} (h : σ.1 27 3 = Int32.ofNat n) (hn : n ≤ 6) (c : (i < 0 ∨ Int32.ofNat n ≤ i) ∨ (∃ l, l < n ∧ i = Int32.ofNat l ∧ ((j < 0 ∨ Int32.ofNat n ≤ j) ∨ j = Int32.ofNat l))) : f_X9_areUnlike 0 i j σ = some (0, σ) := by
  unfold f_X9_areUnlike
  rcases c with c | ⟨l, hl, e, c⟩
  · rw [x_isl0 h c, bd_s]; rfl
  · subst e; rw [x_isl1 h hn hl, bd_s, if_neg (by decide)]
    rcases c with c | c
    · rw [x_isl0 h c, bd_s]; rfl
    · subst c; rw [x_isl1 h hn hl, bd_s, if_neg (by decide), if_pos rfl]
theorem r_two0 {n : Nat} {i j : Int32} {a : Nat} {σ : mm_S} (h : σ.1 224 3 = Int32.ofNat n) (hn : n ≤ 6) (c : (i < 0 ∨ Int32.ofNat n ≤ i) ∨ (∃ l, l < n ∧ i = Int32.ofNat l ∧ ((j < 0 ∨ Int32.ofNat n ≤ j) ∨ j = Int32.ofNat l))) : f_X10_areTwo a i j σ = some (0, σ) := by
  unfold f_X10_areTwo
  rcases c with c | ⟨l, hl, e, c⟩
  · rw [r_isl0 h c, bd_s]; rfl
  · subst e; rw [r_isl1 h hn hl, bd_s, if_neg (by decide)]
    rcases c with c | c
    · rw [r_isl0 h c, bd_s]; rfl
    · subst c; rw [r_isl1 h hn hl, bd_s, if_neg (by decide), if_pos rfl]
theorem x_dearness {l o a : Nat} {σ : mm_S} (hl : l < 6) (ho : o < 6) : f_X1_dearness a (Int32.ofNat l) (Int32.ofNat o) σ = some (σ.1 (a + 3) (l * 6 + o), σ) := by
  unfold f_X1_dearness
  simp (disch := omega) only [n_lit, n_mul, n_add, lt_eq, gd_n, n_idx, n_le, n_lt]
  rw [if_neg (by omega), if_neg (by omega)]
/-! sums -/
def sm (f : Nat → Int32) : Nat → Int32
  | 0 => 0
  | n + 1 => sm f n + f n
theorem sm_congr {f g : Nat → Int32} : ∀ n, (∀ l, l < n → f l = g l) → sm f n = sm g n
  | 0, _ => rfl
  | n + 1, h => by show sm f n + f n = sm g n + g n; rw [sm_congr n (fun l hl => h l (by omega)), h n (by omega)]
theorem sm_zero {f : Nat → Int32} {n : Nat} : ∀ m, (∀ l, n ≤ l → l < n + m → f l = 0) → sm f (n + m) = sm f n
  | 0, _ => rfl
  | m + 1, h => by
    show sm f (n + m) + f (n + m) = sm f n
    rw [sm_zero m (fun l h1 h2 => h l h1 (by omega)), h (n + m) (by omega) (by omega)]; exact Int32.add_zero _
theorem x_sum {a : Nat} (σ : mm_S) (ha : (mm_K a).2 = 6) : f_X9_sum a σ = some (sm (σ.1 a) 6, σ) := by
  unfold f_X9_sum f_X9_sum_4
  have : wp (lp lpN (fun (k4 : (Int32 × Int32) → mm_S → Option (Int32 × mm_S)) (v : Int32 × Int32) (σ : mm_S) =>
    if (Int32.ofNat (mm_K a).2) ≤ v.2 then some (v.1, σ)
    else gd v.2 (mm_K a).2 <| lt ((v.1 + (σ.1 a v.2.toNatClampNeg))) fun x3 => lt (v.2 + Int32.ofInt (1)) fun x5 => k4 (x3, x5) σ) (0, 0) σ) (fun r => r = (sm (σ.1 a) 6, σ)) := by
    refine wp_lp (fun m v τ => τ = σ ∧ ∃ k, k ≤ 6 ∧ m = 6 - k ∧ v = (sm (σ.1 a) k, Int32.ofNat k)) ?_ lpN 6 _ _ (by decide) ⟨rfl, 0, by omega, by omega, rfl⟩
    rintro m rec v τ ⟨rfl, k, hk, rfl, rfl⟩ hrec
    simp (disch := omega) only [ha, n_le]
    by_cases c : k = 6
    · subst c; simp only [Nat.le_refl, if_true, wp_some]
    · rw [if_neg (by omega)]
      simp (disch := omega) only [gd_n, lt_eq, n_idx, n_addI]
      exact hrec (6 - (k + 1)) _ _ (by omega) ⟨rfl, k + 1, by omega, rfl, rfl⟩
  obtain ⟨r, e, q⟩ := this
  rw [← q]; exact e
theorem wp_eq {ρ : Type} {x : Option ρ} {a : ρ} (h : wp x (fun r => r = a)) : x = some a := by
  obtain ⟨r, e, q⟩ := h; rw [← q]; exact e
theorem r_tiredAll {a n : Nat} (σ : mm_S) (h : σ.1 224 3 = Int32.ofNat n) (hn : n ≤ 6) : f_X10_tiredAll a σ = some (sm (fun l => σ.1 224 (11 + 5 * l)) n, σ) := by
  unfold f_X10_tiredAll f_X10_tiredAll_4
  refine wp_eq (wp_lp (fun m v τ => τ = σ ∧ ∃ k, k ≤ n ∧ m = n - k ∧ v = (sm (fun l => σ.1 224 (11 + 5 * l)) k, Int32.ofNat k)) ?_ lpN n _ _ (Nat.lt_of_le_of_lt hn (by decide)) ⟨rfl, 0, by omega, by omega, rfl⟩)
  rintro m rec v τ ⟨rfl, k, hk, rfl, rfl⟩ hrec
  simp (disch := omega) only [n_lit, gd_n, n_idx, h, n_le]
  by_cases c : k = n
  · subst c; simp only [Nat.le_refl, if_true, wp_some]
  · rw [if_neg (by omega)]
    simp (disch := omega) only [r_tiredOf, bd_s, lt_eq, n_addI]
    exact hrec (n - (k + 1)) _ _ (by omega) ⟨rfl, k + 1, by omega, rfl, rfl⟩
theorem r_sleptAll {a n : Nat} (σ : mm_S) (h : σ.1 224 3 = Int32.ofNat n) (hn : n ≤ 6) : f_X10_sleptAll a σ = some (sm (fun l => σ.1 224 (11 + 5 * l + 4)) n, σ) := by
  unfold f_X10_sleptAll f_X10_sleptAll_4
  refine wp_eq (wp_lp (fun m v τ => τ = σ ∧ ∃ k, k ≤ n ∧ m = n - k ∧ v = (sm (fun l => σ.1 224 (11 + 5 * l + 4)) k, Int32.ofNat k)) ?_ lpN n _ _ (Nat.lt_of_le_of_lt hn (by decide)) ⟨rfl, 0, by omega, by omega, rfl⟩)
  rintro m rec v τ ⟨rfl, k, hk, rfl, rfl⟩ hrec
  simp (disch := omega) only [n_lit, gd_n, n_idx, h, n_le]
  by_cases c : k = n
  · subst c; simp only [Nat.le_refl, if_true, wp_some]
  · rw [if_neg (by omega)]
    simp (disch := omega) only [r_sleptBy, bd_s, lt_eq, n_addI]
    exact hrec (n - (k + 1)) _ _ (by omega) ⟨rfl, k + 1, by omega, rfl, rfl⟩
theorem in_step : ∀ i, i < 64 → ∀ k, k < 6 → Int32.ofNat (i % 2 ^ k) ||| (if bt (Int32.ofNat i) k = 1 then (1 : Int32) <<< (Int32.ofNat k &&& 31) else 0) = Int32.ofNat (i % 2 ^ (k + 1)) := by decide +kernel
theorem r_inside {a n i : Nat} (σ : mm_S) (h : σ.1 224 3 = Int32.ofNat n) (hn : n ≤ 6) (hi : i < 2 ^ n) (hf : ∀ l, l < n → σ.1 224 (11 + 5 * l + 2) = bt (Int32.ofNat i) l) : f_X10_inside a σ = some (Int32.ofNat i, σ) := by
  have h64 : i < 64 := Nat.lt_of_lt_of_le hi (Nat.pow_le_pow_right (by omega) hn)
  unfold f_X10_inside f_X10_inside_4
  refine wp_eq (wp_lp (fun m v τ => τ = σ ∧ ∃ k, k ≤ n ∧ m = n - k ∧ v = (Int32.ofNat (i % 2 ^ k), Int32.ofNat k)) ?_ lpN n _ _ (Nat.lt_of_le_of_lt hn (by decide)) ⟨rfl, 0, by omega, by omega, by rw [Nat.pow_zero, Nat.mod_one]; rfl⟩)
  rintro m rec v τ ⟨rfl, k, hk, rfl, rfl⟩ hrec
  simp (disch := omega) only [n_idx, n_lit, gd_n, h, n_le]
  by_cases c : k = n
  · subst c; simp only [Nat.le_refl, if_true, wp_some, Nat.mod_eq_of_lt hi]
  · rw [if_neg (by omega), r_isIn _ (by omega), bd_s, hf k (by omega)]
    have q := in_step i h64 k (by omega)
    by_cases c2 : bt (Int32.ofNat i) k = 1
    · rw [if_pos c2] at q
      rw [if_pos c2, if_neg (by decide)]
      simp only [lt_eq, n_addI]
      exact hrec (n - (k + 1)) _ _ (by omega) ⟨rfl, k + 1, by omega, rfl, by rw [← q]; rfl⟩
    · rw [if_neg c2] at q
      rw [if_neg c2, if_pos (show (0 : Int32) = Int32.ofNat 0 from rfl)]
      simp only [lt_eq, n_addI]
      exact hrec (n - (k + 1)) _ _ (by omega) ⟨rfl, k + 1, by omega, rfl, by rw [← q]; rfl⟩
theorem in_cases (a b : Nat) (ha : a < 2147483648) (hb : b < 2147483648) (j : Int32) : (∃ w, a ≤ w ∧ w ≤ b ∧ j = Int32.ofNat w) ∨ (j < Int32.ofNat a ∨ Int32.ofNat b < j) := by
  by_cases c : j < Int32.ofNat a
  · exact Or.inr (Or.inl c)
  · by_cases c2 : Int32.ofNat b < j
    · exact Or.inr (Or.inr c2)
    · left
      rw [Int32.lt_iff_toInt_lt, n_int (by omega)] at c
      rw [Int32.lt_iff_toInt_lt, n_int (by omega)] at c2
      refine ⟨j.toInt.toNat, by omega, by omega, ?_⟩
      rw [← Int32.toInt_inj, n_int (by omega)]; omega
theorem in_ne {a b : Nat} {j : Int32} (ha : a < 2147483648) (hb : b < 2147483648) (c : j < Int32.ofNat a ∨ Int32.ofNat b < j) {k : Nat} (h1 : a ≤ k) (h2 : k ≤ b) : (j = Int32.ofNat k) = False := by
  apply eq_false; rintro rfl; rw [n_lt (by omega) (by omega), n_lt (by omega) (by omega)] at c; omega
theorem l_lit {a : Nat} (h : a < 2147483648) : (OfNat.ofNat a : Int64) = (Int32.ofNat a).toInt64 := by
  rw [← Int64.toInt_inj, Int32.toInt_toInt64, n_int h]
  show (Int64.ofNat a).toInt = _
  rw [Int64.toInt_ofNat_of_lt (by omega)]
theorem r_in1 {a b w : Nat} {σ : mm_S} (hb : b < 2147483648) (h1 : a ≤ w) (h2 : w ≤ b) : f_X10_in (Int32.ofNat w).toInt64 (OfNat.ofNat a) (OfNat.ofNat b) σ = some (1, σ) := by
  rw [l_lit (by omega), l_lit (by omega), r_in, if_neg]; rw [n_lt (by omega) (by omega), n_lt (by omega) (by omega)]; omega
theorem r_in0 {a b : Nat} {j : Int32} {σ : mm_S} (ha : a < 2147483648) (hb : b < 2147483648) (c : j < Int32.ofNat a ∨ Int32.ofNat b < j) : f_X10_in j.toInt64 (OfNat.ofNat a) (OfNat.ofNat b) σ = some (0, σ) := by
  rw [l_lit ha, l_lit hb, r_in, if_pos c]
/-! methods in which little happens -/
def RM (x : mm_S → Option (Int32 × mm_S)) (y : mm_S → Option (Int32 × mm_S)) : Prop := ∀ σ ρ, RZ σ ρ → wp (x σ) (fun r => wp (y ρ) (fun r' => r.1 = r'.1 ∧ RZ r.2 r'.2))
theorem m_end (i : Int32) : RM (f_X9_end 0 i) (f_X10_end 214 i) := by
  intro σ ρ H
  obtain ⟨r, n', h', m', ⟨t1, ⟨n, t2, t3⟩, t4, t5⟩, hq, hr, hw, ha, hi⟩ := id H
  unfold f_X9_end f_X10_end
  by_cases c1 : i < 0
  · simp only [c1, if_true, wp_some, true_and]; exact H
  · by_cases c2 : i ≤ σ.1 1 1
    · simp only [c1, c2, t1, if_true, if_false, wp_some, wp_lt, true_and]
      refine ⟨r, n', h', m', ⟨?_, ?_, fun k => t4 k, fun k => t5 k⟩, RQ_keep hq (ag_i (by intro a k; omega)), RR_keep hr (ag_i (by intro a k; omega)) (ag_i (by intro a k; omega)), wr_keep hw (ag_i (by intro a k; omega)) (ag_i (by intro a k; omega)), RA_keep ha (ag_i (by intro a k; omega)) (ag_i (by intro a k; omega)), RI_keep hi (ag_i (by intro a k; omega)) (ag_i (by intro a k; omega))⟩
      · rw [rd_is, rd_is]
      · rw [t3, Int32.le_iff_toInt_le, n_int (by omega)] at c2
        rw [show (0 : Int32) = Int32.ofNat 0 from rfl, Int32.lt_iff_toInt_lt, n_int (by omega)] at c1
        refine ⟨i.toInt.toNat, by omega, ?_⟩
        rw [rd_is, ← Int32.toInt_inj, n_int (by omega)]; omega
    · simp only [c1, c2, t1, if_false, wp_some, true_and]; exact H
theorem m_seed (i : Int32) : RM (f_X9_seed 0 i) (f_X10_seed 214 i) := by
  intro σ ρ H
  obtain ⟨r, n', h', m', ht, hq, hr, ⟨w1, w2, w3, w4, w5⟩, ha, hi⟩ := id H
  unfold f_X9_seed f_X10_seed
  by_cases c1 : 0 ≤ i
  · simp only [c1, if_true, wp_some, wp_lt]
    refine ⟨w5.1.symm, r, n', h', m', RT_keep ht (ag_i (by intro a k; omega)) (ag_i (by intro a k; omega)), RQ_keep hq (ag_i (by intro a k; omega)), RR_keep hr (ag_i (by intro a k; omega)) (ag_i (by intro a k; omega)), ?_, RA_keep ha (ag_i (by intro a k; omega)) (ag_i (by intro a k; omega)), RI_keep hi (ag_i (by intro a k; omega)) (ag_i (by intro a k; omega))⟩
    refine ⟨⟨hi_keep w1.1 (ag_i (by intro a k; omega)), hx_keep w1.2 (ag_i (by intro a k; omega)) (ag_i (by intro a k; omega))⟩, ⟨w2.1, ni_keep w2.2.1 (ag_i (by intro a k; omega)), nx_keep w2.2.2 (ag_i (by intro a k; omega)) (ag_i (by intro a k; omega))⟩, ⟨ti_keep w3.1 (ag_i (by intro a k; omega)), tx_keep w3.1.1 w3.2 (ag_i (by intro a k; omega)) (ag_i (by intro a k; omega))⟩, ⟨?_, ?_⟩, ?_, ?_⟩
    · rw [rd_ik _ _ _ _ _ _ (by decide), rd_ik _ _ _ _ _ _ (by decide)]; exact w4.1
    · rw [rd_ik _ _ _ _ _ _ (by decide)]; exact w4.2
    · rw [rd_is, rd_is]
    · rw [rd_is]; intro q
      rw [Int32.le_iff_toInt_le] at c1; rw [Int32.lt_iff_toInt_lt] at q; omega
  · simp only [c1, if_false, wp_some, true_and]; exact H
theorem RY_n {r n h m : Nat} {σ ρ : mm_S} (H : RY r n h m σ ρ) : n ≤ 6 ∧ σ.1 27 3 = Int32.ofNat n ∧ ρ.1 224 3 = Int32.ofNat n := by
  obtain ⟨_, _, _, ⟨⟨⟨hn, _, _, _, e, _⟩, ⟨_, _, _, e', _⟩⟩, _⟩, _⟩ := H
  exact ⟨hn, e, by rw [show (3 : Nat) = 0 + 3 from rfl, e']; exact e⟩
theorem not_lt5 {i : Int32} {n : Nat} (hn : n < 2147483648) (c : i < 0 ∨ Int32.ofNat n ≤ i) {k : Nat} (hk : k < n) : i ≠ Int32.ofNat k := by
  rintro rfl; exact isl_no hn hk c
theorem m_lodger (i j : Int32) : RM (f_X9_lodger 0 i j) (f_X10_lodger 214 i j) := by
  intro σ ρ H
  obtain ⟨r, n, h, m, Y⟩ := id H
  obtain ⟨hn, e1, e2⟩ := RY_n Y
  obtain ⟨_, _, _, ⟨_, ⟨_, _, ⟨_, hx⟩⟩, _⟩, _⟩ := id Y
  unfold f_X9_lodger f_X10_lodger
  rcases isl_cases (n := n) (by omega) i with ⟨l, hl, rfl⟩ | c
  · rw [x_isl1 e1 hn hl, bd_s, r_isl1 e2 hn hl, bd_s, if_neg (show ¬ ((1 : Int32) = 0) by decide), if_neg (show ¬ ((1 : Int32) = 0) by decide)]
    obtain ⟨q1, q2, q3, q4, q5⟩ := hx l (by omega)
    rcases in_cases 0 4 (by omega) (by omega) j with ⟨w, hw0, hw, rfl⟩ | c
    · rw [r_in1 (a := 0) (b := 4) (by omega) hw0 hw, x_isIn]
      rcases (by omega : w = 0 ∨ w = 1 ∨ w = 2 ∨ w = 3 ∨ w = 4) with rfl | rfl | rfl | rfl | rfl
      · simp (disch := omega) only [n_lit, gd_n, n_idx, n_mul, n_add, n_addI, n_lt, n_le, n_eq, n_sub, lt_eq, bd_s, bv_s, wp_some, if_true, if_false, reduceIte, Nat.reduceEqDiff, Nat.reduceLeDiff, Nat.reduceAdd, Nat.reduceMul, Nat.reduceSub, reduceCtorEq, not_false_eq_true, not_true_eq_false]
        exact ⟨by rw [show 11 + 5 * l + 0 = 0 + 10 + 1 + 5 * l by omega, q1], H⟩
      · simp (disch := omega) only [n_lit, gd_n, n_idx, n_mul, n_add, n_addI, n_lt, n_le, n_eq, n_sub, lt_eq, bd_s, bv_s, wp_some, if_true, if_false, reduceIte, Nat.reduceEqDiff, Nat.reduceLeDiff, Nat.reduceAdd, Nat.reduceMul, Nat.reduceSub, reduceCtorEq, not_false_eq_true, not_true_eq_false]
        exact ⟨by rw [show 11 + 5 * l + 1 = 0 + 10 + 2 + 5 * l by omega, q2], H⟩
      · simp (disch := omega) only [n_lit, gd_n, n_idx, n_mul, n_add, n_addI, n_lt, n_le, n_eq, n_sub, lt_eq, bd_s, bv_s, wp_some, if_true, if_false, reduceIte, Nat.reduceEqDiff, Nat.reduceLeDiff, Nat.reduceAdd, Nat.reduceMul, Nat.reduceSub, reduceCtorEq, not_false_eq_true, not_true_eq_false]
        have : ρ.1 224 (11 + 5 * l + 2) = bt (σ.1 31 1) l := by rw [show 11 + 5 * l + 2 = 0 + 10 + 3 + 5 * l by omega]; exact q3
        rw [this]
        rcases bt_01 (σ.1 31 1) l with b | b
        · rw [show bt (σ.1 (26 + 5) 1) l = 0 from b, if_pos (show (0 : Int32) = Int32.ofNat 0 from rfl), wp_some]; exact ⟨rfl, H⟩
        · rw [show bt (σ.1 (26 + 5) 1) l = 1 from b, if_neg (by decide), wp_some]; exact ⟨rfl, H⟩
      · simp (disch := omega) only [n_lit, gd_n, n_idx, n_mul, n_add, n_addI, n_lt, n_le, n_eq, n_sub, lt_eq, bd_s, bv_s, wp_some, if_true, if_false, reduceIte, Nat.reduceEqDiff, Nat.reduceLeDiff, Nat.reduceAdd, Nat.reduceMul, Nat.reduceSub, reduceCtorEq, not_false_eq_true, not_true_eq_false]
        exact ⟨by rw [show 11 + 5 * l + 3 = 0 + 10 + 4 + 5 * l by omega, q4], H⟩
      · simp (disch := omega) only [n_lit, gd_n, n_idx, n_mul, n_add, n_addI, n_lt, n_le, n_eq, n_sub, lt_eq, bd_s, bv_s, wp_some, if_true, if_false, reduceIte, Nat.reduceEqDiff, Nat.reduceLeDiff, Nat.reduceAdd, Nat.reduceMul, Nat.reduceSub, reduceCtorEq, not_false_eq_true, not_true_eq_false]
        exact ⟨by rw [show 11 + 5 * l + 4 = 0 + 10 + 5 + 5 * l by omega, q5], H⟩
    · rw [r_in0 (a := 0) (b := 4) (by omega) (by omega) c]
      have d0 := in_ne (by omega) (by omega) c (k := 0) (by omega) (by omega)
      have d1 := in_ne (by omega) (by omega) c (k := 1) (by omega) (by omega)
      have d2 := in_ne (by omega) (by omega) c (k := 2) (by omega) (by omega)
      have d3 := in_ne (by omega) (by omega) c (k := 3) (by omega) (by omega)
      have d4 := in_ne (by omega) (by omega) c (k := 4) (by omega) (by omega)
      simp (disch := omega) only [n_lit, gd_n, n_idx, n_mul, n_add, n_addI, n_lt, n_le, n_eq, n_sub, lt_eq, bd_s, bv_s, wp_some, if_true, if_false, reduceIte, Nat.reduceEqDiff, Nat.reduceLeDiff, Nat.reduceAdd, Nat.reduceMul, Nat.reduceSub, reduceCtorEq, not_false_eq_true, not_true_eq_false, d0, d1, d2, d3, d4]
      exact ⟨trivial, H⟩
  · rw [x_isl0 e1 c, bd_s, r_isl0 e2 c, bd_s, if_pos rfl, if_pos rfl, wp_some, wp_some]; exact ⟨rfl, H⟩
theorem m_dear (i j : Int32) : RM (f_X9_dear 0 i j) (f_X10_dear 214 i j) := by
  intro σ ρ H
  obtain ⟨r, n, h, m, Y⟩ := id H
  obtain ⟨hn, e1, e2⟩ := RY_n Y
  obtain ⟨_, _, _, ⟨⟨_, hx⟩, _⟩, _⟩ := id Y
  unfold f_X9_dear f_X10_dear
  rcases two_cases hn i j with ⟨l, o, hl, ho, q, rfl, rfl⟩ | c
  · rw [x_two1 e1 hn hl ho q, r_two1 e2 hn hl ho q, bd_s, bd_s, if_neg (by decide), if_neg (by decide), x_dearness (by omega) (by omega), bd_s]
    simp (disch := omega) only [n_lit, gd_n, n_idx, n_mul, n_add, wp_some]
    refine ⟨?_, H⟩
    have := hx.2.2.2.2.2.2 (l * 6 + o) (by omega)
    rw [show 53 + 6 * l + o = 0 + 53 + (l * 6 + o) by omega, this]
  · rw [x_two0 e1 hn c, r_two0 e2 hn c, bd_s, bd_s, if_pos rfl, if_pos rfl, wp_some, wp_some]; exact ⟨rfl, H⟩
theorem RY_force {r n h m : Nat} {σ ρ : mm_S} {i : Int32} (H : RY r n h m σ ρ) (hi : i = -1 ∨ ∃ f, f < r ∧ i = Int32.ofNat f) : RY r n h m (su_i σ 26 3 i) (su_i ρ 214 21 i) := by
  obtain ⟨ht, hq, hr, ⟨w1, w2, w3, w4, w5⟩, ha, hI⟩ := H
  refine ⟨RT_keep ht (ag_i (by intro a k; omega)) (ag_i (by intro a k; omega)), RQ_keep hq (ag_i (by intro a k; omega)), RR_keep hr (ag_i (by intro a k; omega)) (ag_i (by intro a k; omega)), ?_, RA_keep ha (ag_i (by intro a k; omega)) (ag_i (by intro a k; omega)), RI_keep hI (ag_i (by intro a k; omega)) (ag_i (by intro a k; omega))⟩
  refine ⟨⟨hi_keep w1.1 (ag_i (by intro a k; omega)), hx_keep w1.2 (ag_i (by intro a k; omega)) (ag_i (by intro a k; omega))⟩, ⟨w2.1, ni_keep w2.2.1 (ag_i (by intro a k; omega)), nx_keep w2.2.2 (ag_i (by intro a k; omega)) (ag_i (by intro a k; omega))⟩, ⟨ti_keep w3.1 (ag_i (by intro a k; omega)), tx_keep w3.1.1 w3.2 (ag_i (by intro a k; omega)) (ag_i (by intro a k; omega))⟩, ⟨?_, ?_⟩, ?_⟩
  · rw [rd_is, rd_is]
  · rw [rd_is]; exact hi
  · rw [rd_ik _ _ _ _ _ _ (by decide), rd_ik _ _ _ _ _ _ (by decide)]; exact w5
theorem m_force (i : Int32) : RM (f_X9_force 0 i) (f_X10_force 214 i) := by
  intro σ ρ H
  obtain ⟨r, n, h, m, Y⟩ := id H
  obtain ⟨_, _, ⟨hr6, hr1, hr2, _⟩, ⟨_, _, _, w4, _⟩, _⟩ := id Y
  unfold f_X9_force f_X10_force f_X10_isRule f_X10_force_16
  rw [hr1, hr2]
  by_cases c : i = -1
  · subst c
    rw [if_neg (by decide), if_pos (show (-1 : Int32) < Int32.ofNat r by rw [Int32.lt_iff_toInt_lt, n_int (by omega)]; exact Int.lt_of_lt_of_le (by decide) (Int.natCast_nonneg r)), if_pos rfl]
    simp (disch := omega) only [n_lit, gd_n, n_idx, n_mul, n_add, n_addI, n_lt, n_le, n_eq, n_sub, lt_eq, bd_s, bv_s, wp_some, if_true, if_false, reduceIte, Nat.reduceEqDiff, Nat.reduceLeDiff, Nat.reduceAdd, Nat.reduceMul, Nat.reduceSub, reduceCtorEq, not_false_eq_true, not_true_eq_false]
    exact ⟨w4.1.symm, r, n, h, m, RY_force Y (Or.inl rfl)⟩
  · rcases isl_cases (n := r) (by omega) i with ⟨f, hf, rfl⟩ | c2
    · rw [if_neg (by rw [n_lt1 (by omega)]; exact id), if_pos (by rw [n_lt (by omega) (by omega)]; exact hf), if_neg (by rw [n_ne1 (by omega)]; exact id), if_neg (n_neg (by omega)), if_neg (by rw [n_le (by omega) (by omega)]; omega)]
      simp (disch := omega) only [n_lit, gd_n, n_idx, n_mul, n_add, n_addI, n_lt, n_le, n_eq, n_sub, lt_eq, bd_s, bv_s, wp_some, if_true, if_false, reduceIte, Nat.reduceEqDiff, Nat.reduceLeDiff, Nat.reduceAdd, Nat.reduceMul, Nat.reduceSub, reduceCtorEq, not_false_eq_true, not_true_eq_false]
      exact ⟨w4.1.symm, r, n, h, m, RY_force Y (Or.inr ⟨f, hf, rfl⟩)⟩
    · have e1 : ¬ i < -1 → ¬ i < Int32.ofNat r := by
        intro q1 q2
        rw [Int32.lt_iff_toInt_lt] at q1 q2; rw [← Int32.toInt_inj] at c
        rw [n_int (by omega)] at q2
        rw [Int32.lt_iff_toInt_lt, Int32.le_iff_toInt_le, n_int (by omega)] at c2
        rw [show (-1 : Int32).toInt = -1 from by decide] at q1 c
        rw [show (0 : Int32).toInt = 0 from by decide] at c2
        omega
      have e2 : (if i < 0 then some ((0 : Int32), ρ) else if Int32.ofNat r ≤ i then some (0, ρ) else some (1, ρ)) = some (0, ρ) := by
        by_cases d : i < 0
        · rw [if_pos d]
        · rw [if_neg d, if_pos (c2.resolve_left d)]
      rw [e2, if_neg c, bd_s, if_pos rfl]
      by_cases d : i < -1
      · rw [if_pos d, wp_some, wp_some]; exact ⟨rfl, H⟩
      · rw [if_neg d, if_neg (e1 d), wp_some, wp_some]; exact ⟨rfl, H⟩
theorem m_count (i : Int32) : RM (f_X9_count 0 i) (f_X10_count 214 i) := by
  intro σ ρ H
  obtain ⟨r, n, h, m, Y⟩ := id H
  obtain ⟨hn, e1, e2⟩ := RY_n Y
  obtain ⟨ht, _, ⟨hr6, hr1, hr2, _⟩, ⟨⟨hh, hX⟩, ⟨_, ⟨ni1, ⟨z, hz, ni2⟩, _, _, _, _, ni7⟩, nx1, nx2⟩, ⟨_, tx1, _⟩, w4, w5⟩, ⟨am, aq, _, _, a1, a2, _⟩, _⟩ := id Y
  unfold f_X9_count f_X10_count
  rcases in_cases 0 13 (by omega) (by omega) i with ⟨w, _, hw, rfl⟩ | c
  · have h7 : ρ.1 224 89 = σ.1 27 4 := hX.2.2.2.2.1
    rcases (by omega : w = 0 ∨ w = 1 ∨ w = 2 ∨ w = 3 ∨ w = 4 ∨ w = 5 ∨ w = 6 ∨ w = 7 ∨ w = 8 ∨ w = 9 ∨ w = 10 ∨ w = 11 ∨ w = 12 ∨ w = 13) with rfl | rfl | rfl | rfl | rfl | rfl | rfl | rfl | rfl | rfl | rfl | rfl | rfl | rfl
    · simp (disch := omega) only [n_lit, gd_n, n_idx, n_mul, n_add, n_addI, n_lt, n_le, n_eq, n_sub, lt_eq, bd_s, bv_s, wp_some, if_true, if_false, reduceIte, Nat.reduceEqDiff, Nat.reduceLeDiff, Nat.reduceAdd, Nat.reduceMul, Nat.reduceSub, reduceCtorEq, not_false_eq_true, not_true_eq_false]; exact ⟨hX.2.1.symm, H⟩
    · simp (disch := omega) only [n_lit, gd_n, n_idx, n_mul, n_add, n_addI, n_lt, n_le, n_eq, n_sub, lt_eq, bd_s, bv_s, wp_some, if_true, if_false, reduceIte, Nat.reduceEqDiff, Nat.reduceLeDiff, Nat.reduceAdd, Nat.reduceMul, Nat.reduceSub, reduceCtorEq, not_false_eq_true, not_true_eq_false]; exact ⟨hX.2.2.1.symm, H⟩
    · simp (disch := omega) only [n_lit, gd_n, n_idx, n_mul, n_add, n_addI, n_lt, n_le, n_eq, n_sub, lt_eq, bd_s, bv_s, wp_some, if_true, if_false, reduceIte, Nat.reduceEqDiff, Nat.reduceLeDiff, Nat.reduceAdd, Nat.reduceMul, Nat.reduceSub, reduceCtorEq, not_false_eq_true, not_true_eq_false]; exact ⟨hX.2.2.2.1.symm, H⟩
    · simp (disch := omega) only [n_lit, gd_n, n_idx, n_mul, n_add, n_addI, n_lt, n_le, n_eq, n_sub, lt_eq, bd_s, bv_s, wp_some, if_true, if_false, reduceIte, Nat.reduceEqDiff, Nat.reduceLeDiff, Nat.reduceAdd, Nat.reduceMul, Nat.reduceSub, reduceCtorEq, not_false_eq_true, not_true_eq_false]; exact ⟨hr1.trans hr2.symm, H⟩
    · simp (disch := omega) only [n_lit, gd_n, n_idx, n_mul, n_add, n_addI, n_lt, n_le, n_eq, n_sub, lt_eq, bd_s, bv_s, wp_some, if_true, if_false, reduceIte, Nat.reduceEqDiff, Nat.reduceLeDiff, Nat.reduceAdd, Nat.reduceMul, Nat.reduceSub, reduceCtorEq, not_false_eq_true, not_true_eq_false]; exact ⟨w4.1.symm, H⟩
    · simp (disch := omega) only [n_lit, gd_n, n_idx, n_mul, n_add, n_addI, n_lt, n_le, n_eq, n_sub, lt_eq, bd_s, bv_s, wp_some, if_true, if_false, reduceIte, Nat.reduceEqDiff, Nat.reduceLeDiff, Nat.reduceAdd, Nat.reduceMul, Nat.reduceSub, reduceCtorEq, not_false_eq_true, not_true_eq_false]; exact ⟨nx1.symm, H⟩
    · rw [r_inside (n := n) (i := z) ρ e2 hn hz (fun l hl => by
        have := (nx2 l (by omega)).2.2.1
        rw [ni2] at this
        rw [show 11 + 5 * l + 2 = 0 + 10 + 3 + 5 * l by omega]; exact this)]
      simp (disch := omega) only [n_lit, gd_n, n_idx, n_mul, n_add, n_addI, n_lt, n_le, n_eq, n_sub, lt_eq, bd_s, bv_s, wp_some, if_true, if_false, reduceIte, Nat.reduceEqDiff, Nat.reduceLeDiff, Nat.reduceAdd, Nat.reduceMul, Nat.reduceSub, reduceCtorEq, not_false_eq_true, not_true_eq_false]; exact ⟨ni2, H⟩
    · rw [x_ct, r_isCounted]
      have : ct (ρ.1 224 89) (ρ.1 224 10) = ct (σ.1 (26 + 1) 4) (σ.1 (26 + 5) 0) := by rw [h7, show ρ.1 224 10 = _ from nx1]
      simp (disch := omega) only [n_lit, gd_n, n_idx, n_mul, n_add, n_addI, n_lt, n_le, n_eq, n_sub, lt_eq, bd_s, bv_s, wp_some, if_true, if_false, reduceIte, Nat.reduceEqDiff, Nat.reduceLeDiff, Nat.reduceAdd, Nat.reduceMul, Nat.reduceSub, reduceCtorEq, not_false_eq_true, not_true_eq_false, this]
      rcases ct_01 (σ.1 (26 + 1) 4) (σ.1 (26 + 5) 0) with b | b
      · rw [b, if_pos (show (0 : Int32) = Int32.ofNat 0 from rfl), wp_some, if_pos (show (0 : Int32) = Int32.ofNat 0 from rfl), wp_some]; exact ⟨rfl, H⟩
      · rw [b, if_neg (by decide), wp_some, if_neg (by decide), wp_some]; exact ⟨rfl, H⟩
    · rw [x_sum σ (show (mm_K (26 + 5 + 1)).2 = 6 by decide +kernel), r_tiredAll ρ e2 hn]
      simp (disch := omega) only [n_lit, gd_n, n_idx, n_mul, n_add, n_addI, n_lt, n_le, n_eq, n_sub, lt_eq, bd_s, bv_s, wp_some, if_true, if_false, reduceIte, Nat.reduceEqDiff, Nat.reduceLeDiff, Nat.reduceAdd, Nat.reduceMul, Nat.reduceSub, reduceCtorEq, not_false_eq_true, not_true_eq_false]
      refine ⟨?_, H⟩
      rw [show (6 : Nat) = n + (6 - n) by omega, sm_zero (n := n) (6 - n) (fun l h1 h2 => (ni7 l h1 (by omega)).1)]
      exact sm_congr n (fun l hl => by rw [show 11 + 5 * l = 0 + 10 + 1 + 5 * l by omega]; exact (nx2 l (by omega)).1.symm)
    · rw [x_sum σ (show (mm_K (26 + 5 + 4)).2 = 6 by decide +kernel), r_sleptAll ρ e2 hn]
      simp (disch := omega) only [n_lit, gd_n, n_idx, n_mul, n_add, n_addI, n_lt, n_le, n_eq, n_sub, lt_eq, bd_s, bv_s, wp_some, if_true, if_false, reduceIte, Nat.reduceEqDiff, Nat.reduceLeDiff, Nat.reduceAdd, Nat.reduceMul, Nat.reduceSub, reduceCtorEq, not_false_eq_true, not_true_eq_false]
      refine ⟨?_, H⟩
      rw [show (6 : Nat) = n + (6 - n) by omega, sm_zero (n := n) (6 - n) (fun l h1 h2 => (ni7 l h1 (by omega)).2.2)]
      exact sm_congr n (fun l hl => by rw [show 11 + 5 * l + 4 = 0 + 10 + 5 + 5 * l by omega]; exact (nx2 l (by omega)).2.2.2.2.symm)
    · simp (disch := omega) only [n_lit, gd_n, n_idx, n_mul, n_add, n_addI, n_lt, n_le, n_eq, n_sub, lt_eq, bd_s, bv_s, wp_some, if_true, if_false, reduceIte, Nat.reduceEqDiff, Nat.reduceLeDiff, Nat.reduceAdd, Nat.reduceMul, Nat.reduceSub, reduceCtorEq, not_false_eq_true, not_true_eq_false]; exact ⟨tx1.symm, H⟩
    · simp (disch := omega) only [n_lit, gd_n, n_idx, n_mul, n_add, n_addI, n_lt, n_le, n_eq, n_sub, lt_eq, bd_s, bv_s, wp_some, if_true, if_false, reduceIte, Nat.reduceEqDiff, Nat.reduceLeDiff, Nat.reduceAdd, Nat.reduceMul, Nat.reduceSub, reduceCtorEq, not_false_eq_true, not_true_eq_false]; exact ⟨a1.trans a2.symm, H⟩
    · simp (disch := omega) only [n_lit, gd_n, n_idx, n_mul, n_add, n_addI, n_lt, n_le, n_eq, n_sub, lt_eq, bd_s, bv_s, wp_some, if_true, if_false, reduceIte, Nat.reduceEqDiff, Nat.reduceLeDiff, Nat.reduceAdd, Nat.reduceMul, Nat.reduceSub, reduceCtorEq, not_false_eq_true, not_true_eq_false]; exact ⟨w5.1.symm, H⟩
    · simp (disch := omega) only [n_lit, gd_n, n_idx, n_mul, n_add, n_addI, n_lt, n_le, n_eq, n_sub, lt_eq, bd_s, bv_s, wp_some, if_true, if_false, reduceIte, Nat.reduceEqDiff, Nat.reduceLeDiff, Nat.reduceAdd, Nat.reduceMul, Nat.reduceSub, reduceCtorEq, not_false_eq_true, not_true_eq_false]; exact ⟨ht.1.symm, H⟩
  · have d : ∀ k, k ≤ 13 → (i = Int32.ofNat k) = False := fun k hk => in_ne (by omega) (by omega) c (by omega) hk
    simp (disch := omega) only [n_lit, gd_n, n_idx, n_mul, n_add, n_addI, n_lt, n_le, n_eq, n_sub, lt_eq, bd_s, bv_s, wp_some, if_true, if_false, reduceIte, Nat.reduceEqDiff, Nat.reduceLeDiff, Nat.reduceAdd, Nat.reduceMul, Nat.reduceSub, reduceCtorEq, not_false_eq_true, not_true_eq_false, d 0 (by omega), d 1 (by omega), d 2 (by omega), d 3 (by omega), d 4 (by omega), d 5 (by omega), d 6 (by omega), d 7 (by omega), d 8 (by omega), d 9 (by omega), d 10 (by omega), d 11 (by omega), d 12 (by omega), d 13 (by omega)]
    exact ⟨trivial, H⟩
