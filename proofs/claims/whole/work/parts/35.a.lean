/-! THE PURE PART, base: frames (ko), weakest ends (wp), loops, small numbers. No machine here. -/
def ko_K (P : Nat → Nat → Prop) (σ τ : mm_S) : Prop := (∀ a k, P a k → τ.1 a k = σ.1 a k) ∧ (∀ a k, P a k → τ.2.1 a k = σ.2.1 a k) ∧ (P 999 0 → τ.2.2 = σ.2.2)
def ko {ρ : Type} (p : ρ → mm_S) (P : Nat → Nat → Prop) (σ : mm_S) (x : Option ρ) : Prop := ∀ r, x = some r → ko_K P σ (p r)
theorem ko_refl {P : Nat → Nat → Prop} {σ : mm_S} : ko_K P σ σ := ⟨fun _ _ _ => rfl, fun _ _ _ => rfl, fun _ => rfl⟩
theorem ko_trans {P : Nat → Nat → Prop} {σ τ υ : mm_S} (h : ko_K P σ τ) (h' : ko_K P τ υ) : ko_K P σ υ :=
  ⟨fun a k p => (h'.1 a k p).trans (h.1 a k p), fun a k p => (h'.2.1 a k p).trans (h.2.1 a k p), fun p => (h'.2.2 p).trans (h.2.2 p)⟩
theorem ko_mono {P P' : Nat → Nat → Prop} {σ τ : mm_S} (hP : ∀ a k, P a k → P' a k) (h : ko_K P' σ τ) : ko_K P σ τ :=
  ⟨fun a k p => h.1 a k (hP a k p), fun a k p => h.2.1 a k (hP a k p), fun p => h.2.2 (hP _ _ p)⟩
theorem ko_sui {P : Nat → Nat → Prop} {σ τ : mm_S} {b j : Nat} {x : Int32} (h : ko_K P σ τ) (hP : ∀ a k, P a k → ¬ (a = b ∧ k = j)) : ko_K P σ (su_i τ b j x) := by
  refine ⟨fun a k p => ?_, h.2.1, h.2.2⟩
  show (if a = b ∧ k = j then x else τ.1 a k) = _
  rw [if_neg (hP a k p)]; exact h.1 a k p
theorem ko_suj {P : Nat → Nat → Prop} {σ τ : mm_S} {b j : Nat} {x : Int64} (h : ko_K P σ τ) (hP : ∀ a k, P a k → ¬ (a = b ∧ k = j)) : ko_K P σ (su_j τ b j x) := by
  refine ⟨h.1, fun a k p => ?_, h.2.2⟩
  show (if a = b ∧ k = j then x else τ.2.1 a k) = _
  rw [if_neg (hP a k p)]; exact h.2.1 a k p
theorem ko_suw {P : Nat → Nat → Prop} {σ τ : mm_S} {x : Nat} (h : ko_K P σ τ) (hP : ∀ a k, P a k → ¬ (a = 999 ∧ k = 0)) : ko_K P σ (su_w τ x) :=
  ⟨h.1, h.2.1, fun p => absurd ⟨rfl, rfl⟩ (hP _ _ p)⟩
theorem ko_suc {P : Nat → Nat → Prop} {σ τ : mm_S} {c sp b dp n : Nat} (h : ko_K P σ τ) (hP : ∀ a k, P a k → a ≠ b) : ko_K P σ (su_c τ c sp b dp n) := by
  refine ⟨fun a k p => ?_, h.2.1, h.2.2⟩
  show (if a = b then va_cpy (τ.1 c) (τ.1 b) sp dp n k else τ.1 a k) = _
  rw [if_neg (hP a k p)]; exact h.1 a k p
section
variable {ρ : Type} {p : ρ → mm_S} {P : Nat → Nat → Prop} {σ τ : mm_S}
theorem ko_some {r : ρ} (h : ko_K P σ (p r)) : ko p P σ (some r) := by
  intro r' e; cases e; exact h
theorem ko_someV {τ : mm_S} (h : ko_K P σ τ) : ko id P σ (some τ) := ko_some h
theorem ko_someR {α : Type} {a : α} {τ : mm_S} (h : ko_K P σ τ) : ko Prod.snd P σ (some (a, τ)) := ko_some h
theorem ko_lts {x : mm_S} {k : mm_S → Option ρ} (hx : ko_K P σ x) (h : ∀ τ, ko_K P σ τ → ko p P σ (k τ)) : ko p P σ (lt x k) := h x hx
theorem ko_ltx {α : Type} {x : α} {k : α → Option ρ} (h : ∀ y, ko p P σ (k y)) : ko p P σ (lt x k) := h x
theorem ko_bd {α : Type} {x : Option (α × mm_S)} {k : α → mm_S → Option ρ} (hx : ko Prod.snd P σ x) (h : ∀ a τ, ko_K P σ τ → ko p P σ (k a τ)) : ko p P σ (bd x k) := by
  cases x with
  | none => intro r e; cases e
  | some y => exact h y.1 y.2 (hx y rfl)
theorem ko_bv {x : Option mm_S} {k : mm_S → Option ρ} (hx : ko id P σ x) (h : ∀ τ, ko_K P σ τ → ko p P σ (k τ)) : ko p P σ (bv x k) := by
  cases x with
  | none => intro r e; cases e
  | some y => exact h y (hx y rfl)
theorem ko_gd {j : Int32} {n : Nat} {x : Option ρ} (h : j.toNatClampNeg < n → ko p P σ x) : ko p P σ (gd j n x) := by
  unfold gd; split
  · intro r e; cases e
  · rename_i q; exact h (by omega)
theorem ko_gz {b : Bool} {x : Option ρ} (h : ko p P σ x) : ko p P σ (gz b x) := by
  unfold gz; split
  · exact h
  · intro r e; cases e
theorem ko_gb {j : Int32} {x : Option ρ} (h : ko p P σ x) : ko p P σ (gb j x) := by
  unfold gb; split
  · exact h
  · intro r e; cases e
theorem ko_gq {j : Int32} {x : Option ρ} (h : ko p P σ x) : ko p P σ (gq j x) := by
  unfold gq; split
  · intro r e; cases e
  · exact h
theorem ko_gl {j : Int64} {x : Option ρ} (h : ko p P σ x) : ko p P σ (gl j x) := by
  unfold gl; split
  · intro r e; cases e
  · exact h
theorem ko_ite {c : Prop} [Decidable c] {x y : Option ρ} (h : ko p P σ x) (h' : ko p P σ y) : ko p P σ (if c then x else y) := by
  split
  · exact h
  · exact h'
theorem ko_none : ko p P σ none := by intro r e; cases e
theorem ko_lp {V : Type} {F : (V → mm_S → Option ρ) → V → mm_S → Option ρ} (hF : ∀ rec, (∀ v τ, ko_K P σ τ → ko p P σ (rec v τ)) → ∀ v τ, ko_K P σ τ → ko p P σ (F rec v τ)) : ∀ (n : Nat) (v : V) (τ : mm_S), ko_K P σ τ → ko p P σ (lp n F v τ) := by
  intro n
  induction n with
  | zero => intro v τ _ r e; cases e
  | succ n ih => intro v τ h; exact hF (lp n F) ih v τ h
end
/-! weakest ends -/
def wp {ρ : Type} (x : Option ρ) (Q : ρ → Prop) : Prop := ∃ r, x = some r ∧ Q r
section
variable {ρ : Type} {Q : ρ → Prop}
theorem wp_some {r : ρ} : wp (some r) Q ↔ Q r := ⟨fun ⟨_, e, q⟩ => by cases e; exact q, fun q => ⟨r, rfl, q⟩⟩
theorem wp_none : wp (none : Option ρ) Q ↔ False := ⟨fun ⟨_, e, _⟩ => (by cases e), False.elim⟩
theorem wp_lt {α : Type} {x : α} {k : α → Option ρ} : wp (lt x k) Q ↔ wp (k x) Q := Iff.rfl
theorem wp_bd {α : Type} {x : Option (α × mm_S)} {k : α → mm_S → Option ρ} : wp (bd x k) Q ↔ wp x (fun r => wp (k r.1 r.2) Q) := by
  cases x with
  | none => exact ⟨fun ⟨_, e, _⟩ => (by cases e), fun ⟨_, e, _⟩ => (by cases e)⟩
  | some y => exact ⟨fun h => ⟨y, rfl, h⟩, fun ⟨_, e, h⟩ => by cases e; exact h⟩
theorem wp_bv {x : Option mm_S} {k : mm_S → Option ρ} : wp (bv x k) Q ↔ wp x (fun r => wp (k r) Q) := by
  cases x with
  | none => exact ⟨fun ⟨_, e, _⟩ => (by cases e), fun ⟨_, e, _⟩ => (by cases e)⟩
  | some y => exact ⟨fun h => ⟨y, rfl, h⟩, fun ⟨_, e, h⟩ => by cases e; exact h⟩
theorem wp_ite {c : Prop} [Decidable c] {x y : Option ρ} : wp (if c then x else y) Q ↔ (c → wp x Q) ∧ (¬ c → wp y Q) := by
  by_cases h : c
  · simp [h]
  · simp [h]
theorem wp_gd {j : Int32} {n : Nat} {x : Option ρ} : wp (gd j n x) Q ↔ (¬ (j < 0) ∧ j.toNatClampNeg < n) ∧ wp x Q := by
  unfold gd
  by_cases h : j < 0 ∨ n ≤ j.toNatClampNeg
  · rw [if_pos h, wp_none]; constructor
    · exact False.elim
    · rintro ⟨⟨h1, h2⟩, _⟩; rcases h with h | h
      · exact h1 h
      · omega
  · rw [if_neg h]
    exact ⟨fun q => ⟨⟨fun e => h (Or.inl e), by omega⟩, q⟩, fun q => q.2⟩
theorem wp_gz {b : Bool} {x : Option ρ} : wp (gz b x) Q ↔ b = true ∧ wp x Q := by
  unfold gz; cases b
  · simp [wp_none]
  · simp
theorem wp_gb {j : Int32} {x : Option ρ} : wp (gb j x) Q ↔ (j = 0 ∨ j = 1) ∧ wp x Q := by
  unfold gb; by_cases h : j = 0 ∨ j = 1
  · rw [if_pos h]; exact ⟨fun q => ⟨h, q⟩, fun q => q.2⟩
  · rw [if_neg h, wp_none]; exact ⟨False.elim, fun q => h q.1⟩
theorem wp_gq {j : Int32} {x : Option ρ} : wp (gq j x) Q ↔ j ≠ 0 ∧ wp x Q := by
  unfold gq; by_cases h : j = 0
  · rw [if_pos h, wp_none]; exact ⟨False.elim, fun q => q.1 h⟩
  · rw [if_neg h]; exact ⟨fun q => ⟨h, q⟩, fun q => q.2⟩
theorem wp_gl {j : Int64} {x : Option ρ} : wp (gl j x) Q ↔ j ≠ 0 ∧ wp x Q := by
  unfold gl; by_cases h : j = 0
  · rw [if_pos h, wp_none]; exact ⟨False.elim, fun q => q.1 h⟩
  · rw [if_neg h]; exact ⟨fun q => ⟨h, q⟩, fun q => q.2⟩
theorem wp_mono {x : Option ρ} {P : ρ → Prop} (h : wp x P) (hPQ : ∀ r, P r → Q r) : wp x Q := by
  obtain ⟨r, e, q⟩ := h; exact ⟨r, e, hPQ r q⟩
theorem wp_ko {x : Option ρ} {p : ρ → mm_S} {P : Nat → Nat → Prop} {σ : mm_S} (h : wp x Q) (hk : ko p P σ x) : wp x (fun r => Q r ∧ ko_K P σ (p r)) := by
  obtain ⟨r, e, q⟩ := h; exact ⟨r, e, q, hk r e⟩
/-- a loop with a measure m that falls -/
theorem wp_lp {V : Type} {F : (V → mm_S → Option ρ) → V → mm_S → Option ρ} (I : Nat → V → mm_S → Prop)
    (hF : ∀ n rec v σ, I n v σ → (∀ m v' σ', m < n → I m v' σ' → wp (rec v' σ') Q) → wp (F rec v σ) Q) :
    ∀ (N n : Nat) (v : V) (σ : mm_S), n < N → I n v σ → wp (lp N F v σ) Q := by
  intro N
  induction N with
  | zero => intro n v σ h; omega
  | succ N ih =>
    intro n v σ hn hi
    exact hF n (lp N F) v σ hi (fun m v' σ' hm hi' => ih m v' σ' (by omega) hi')
/-- two loops in step -/
theorem wp_lp2 {ρ' V W : Type} {Q : ρ → ρ' → Prop} {F : (V → mm_S → Option ρ) → V → mm_S → Option ρ} {G : (W → mm_S → Option ρ') → W → mm_S → Option ρ'} (I : Nat → V → mm_S → W → mm_S → Prop)
    (hF : ∀ n rec rec' v σ w τ, I n v σ w τ → (∀ m v' σ' w' τ', m < n → I m v' σ' w' τ' → wp (rec v' σ') (fun r => wp (rec' w' τ') (fun r' => Q r r'))) → wp (F rec v σ) (fun r => wp (G rec' w τ) (fun r' => Q r r'))) :
    ∀ (N n : Nat) (v : V) (σ : mm_S) (w : W) (τ : mm_S), n < N → I n v σ w τ → wp (lp N F v σ) (fun r => wp (lp N G w τ) (fun r' => Q r r')) := by
  intro N
  induction N with
  | zero => intro n v σ w τ h; omega
  | succ N ih =>
    intro n v σ w τ hn hi
    exact hF n (lp N F) (lp N G) v σ w τ hi (fun m v' σ' w' τ' hm hi' => ih m v' σ' w' τ' (by omega) hi')
end
theorem wp_swap {ρ ρ' : Type} {x : Option ρ} {y : Option ρ'} {Q : ρ → ρ' → Prop} : wp x (fun r => wp y (fun r' => Q r r')) ↔ wp y (fun r' => wp x (fun r => Q r r')) := by
  constructor
  · rintro ⟨r, e, r', e', q⟩; exact ⟨r', e', r, e, q⟩
  · rintro ⟨r, e, r', e', q⟩; exact ⟨r', e', r, e, q⟩
/-! reads over writes -/
theorem rd_ii (σ : mm_S) (a k b j : Nat) (x : Int32) : (su_i σ b j x).1 a k = if a = b ∧ k = j then x else σ.1 a k := Eq.trans rfl rfl
theorem rd_is (σ : mm_S) (a k : Nat) (x : Int32) : (su_i σ a k x).1 a k = x := if_pos ⟨rfl, rfl⟩
theorem rd_ia (σ : mm_S) (a k b j : Nat) (x : Int32) (h : a ≠ b) : (su_i σ b j x).1 a k = σ.1 a k := if_neg (fun q => h q.1)
theorem rd_ik (σ : mm_S) (a k b j : Nat) (x : Int32) (h : k ≠ j) : (su_i σ b j x).1 a k = σ.1 a k := if_neg (fun q => h q.2)
theorem rd_ij (σ : mm_S) (b j : Nat) (x : Int32) : (su_i σ b j x).2 = σ.2 := Eq.trans rfl rfl
theorem rd_ji (σ : mm_S) (b j : Nat) (x : Int64) : (su_j σ b j x).1 = σ.1 := Eq.trans rfl rfl
theorem rd_jj (σ : mm_S) (a k b j : Nat) (x : Int64) : (su_j σ b j x).2.1 a k = if a = b ∧ k = j then x else σ.2.1 a k := Eq.trans rfl rfl
theorem rd_jw (σ : mm_S) (b j : Nat) (x : Int64) : (su_j σ b j x).2.2 = σ.2.2 := Eq.trans rfl rfl
theorem rd_wi (σ : mm_S) (x : Nat) : (su_w σ x).1 = σ.1 := Eq.trans rfl rfl
theorem rd_wj (σ : mm_S) (x : Nat) : (su_w σ x).2.1 = σ.2.1 := Eq.trans rfl rfl
theorem rd_ww (σ : mm_S) (x : Nat) : (su_w σ x).2.2 = x := Eq.trans rfl rfl
theorem rd_ca (σ : mm_S) (c sp b dp n a k : Nat) (h : a ≠ b) : (su_c σ c sp b dp n).1 a k = σ.1 a k := if_neg h
theorem rd_cs (σ : mm_S) (c sp b dp n k : Nat) : (su_c σ c sp b dp n).1 b k = if dp ≤ k ∧ k < dp + n then σ.1 c (sp + (k - dp)) else σ.1 b k := if_pos rfl
theorem rd_cj (σ : mm_S) (c sp b dp n : Nat) : (su_c σ c sp b dp n).2 = σ.2 := Eq.trans rfl rfl
/-! small numbers -/
theorem n_lit (n : Nat) : (OfNat.ofNat n : Int32) = Int32.ofNat n := Eq.trans rfl rfl
theorem n_idx {k : Nat} (h : k < 2147483648) : (Int32.ofNat k).toNatClampNeg = k := by
  rw [Int32.toNatClampNeg_ofNat_of_lt (by omega)]
theorem n_int {k : Nat} (h : k < 2147483648) : (Int32.ofNat k).toInt = (k : Int) := by
  rw [Int32.toInt_ofNat_of_lt (by omega)]
theorem n_lt {k m : Nat} (h : k < 2147483648) (h' : m < 2147483648) : (Int32.ofNat k < Int32.ofNat m) ↔ k < m := by
  rw [Int32.lt_iff_toInt_lt, n_int h, n_int h']; omega
theorem n_le {k m : Nat} (h : k < 2147483648) (h' : m < 2147483648) : (Int32.ofNat k ≤ Int32.ofNat m) ↔ k ≤ m := by
  rw [Int32.le_iff_toInt_le, n_int h, n_int h']; omega
theorem n_eq {k m : Nat} (h : k < 2147483648) (h' : m < 2147483648) : (Int32.ofNat k = Int32.ofNat m) ↔ k = m := by
  rw [← Int32.toInt_inj, n_int h, n_int h']; omega
theorem n_add (k m : Nat) : Int32.ofNat k + Int32.ofNat m = Int32.ofNat (k + m) := (Int32.ofNat_add k m).symm
theorem n_addI (k : Nat) : Int32.ofNat k + Int32.ofInt 1 = Int32.ofNat (k + 1) := n_add k 1
theorem n_addI2 (k : Nat) : Int32.ofNat k + Int32.ofInt 2 = Int32.ofNat (k + 2) := n_add k 2
theorem n_mul (k m : Nat) : Int32.ofNat k * Int32.ofNat m = Int32.ofNat (k * m) := (Int32.ofNat_mul k m).symm
theorem n_sub {k m : Nat} (h : m ≤ k) : Int32.ofNat k - Int32.ofNat m = Int32.ofNat (k - m) := (Int32.ofNat_sub _ _ h).symm
theorem n_subI {k : Nat} (h : 1 ≤ k) : Int32.ofNat k + Int32.ofInt (-1) = Int32.ofNat (k - 1) := by
  have : Int32.ofInt (-1) = - Int32.ofNat 1 := by decide
  rw [this, ← Int32.sub_eq_add_neg, n_sub h]
theorem n_subI2 {k : Nat} (h : 2 ≤ k) : Int32.ofNat k + Int32.ofInt (-2) = Int32.ofNat (k - 2) := by
  have : Int32.ofInt (-2) = - Int32.ofNat 2 := by decide
  rw [this, ← Int32.sub_eq_add_neg, n_sub h]
theorem n_neg {k : Nat} (h : k < 2147483648) : ¬ (Int32.ofNat k < 0) := by
  rw [show (0 : Int32) = Int32.ofNat 0 from rfl, n_lt h (by omega)]; omega
theorem n_ne1 {k : Nat} (h : k < 2147483648) : (Int32.ofNat k = -1) ↔ False := by
  rw [← Int32.toInt_inj, n_int h, show (-1 : Int32).toInt = -1 from by decide]; constructor
  · intro q; omega
  · exact False.elim
theorem n_lt1 {k : Nat} (h : k < 2147483648) : (Int32.ofNat k < -1) ↔ False := by
  rw [Int32.lt_iff_toInt_lt, n_int h, show (-1 : Int32).toInt = -1 from by decide]; constructor
  · intro q; omega
  · exact False.elim
theorem n_div {k m : Nat} (h : k < 2147483648) (h' : m < 2147483648) : Int32.ofNat k / Int32.ofNat m = Int32.ofNat (k / m) := by
  rw [← Int32.toInt_inj, Int32.toInt_div, n_int h, n_int h', n_int (Nat.lt_of_le_of_lt (Nat.div_le_self _ _) h), ← Int.ofNat_tdiv, Int.bmod_eq_of_le]
  · have h0 : (0 : Int) ≤ (k : Int) / m := Int.ediv_nonneg (by omega) (by omega)
    omega
  · have h0 : ((k / m : Nat) : Int) = (k : Int) / m := Int.natCast_ediv k m
    have := Nat.div_le_self k m; omega
theorem n_rem {k m : Nat} (h : k < 2147483648) (h' : m < 2147483648) : Int32.ofNat k - Int32.ofNat k / Int32.ofNat m * Int32.ofNat m = Int32.ofNat (k % m) := by
  rw [n_div h h', n_mul, n_sub (by rw [Nat.mul_comm]; exact Nat.mul_div_le k m)]
  congr 1
  have := Nat.div_add_mod k m; rw [Nat.mul_comm] at this; omega
theorem gd_n {ρ : Type} {k n : Nat} {x : Option ρ} (h : k < n) (h' : k < 2147483648) : gd (Int32.ofNat k) n x = x := by
  unfold gd; rw [if_neg]; rw [n_idx h']; intro q; rcases q with q | q
  · exact n_neg h' q
  · omega
theorem bd_s {α ρ : Type} {a : α} {τ : mm_S} {k : α → mm_S → Option ρ} : bd (some (a, τ)) k = k a τ := Eq.trans rfl rfl
theorem bv_s {ρ : Type} {τ : mm_S} {k : mm_S → Option ρ} : bv (some τ) k = k τ := Eq.trans rfl rfl
theorem lt_eq {α ρ : Type} {x : α} {k : α → Option ρ} : lt x k = k x := Eq.trans rfl rfl
theorem n_zero {k : Nat} (h : k < 2147483648) : (Int32.ofNat k = 0) ↔ k = 0 := n_eq (m := 0) h (by omega)
theorem n_and31 {l : Nat} (h : l < 32) : Int32.ofNat l &&& 31 = Int32.ofNat l := by
  have : ∀ l, l < 32 → Int32.ofNat l &&& 31 = Int32.ofNat l := by decide +kernel
  exact this l h
/-- a number that is one of 0 .. n-1, or none of them -/
theorem isl_cases {n : Nat} (hn : n < 2147483648) (i : Int32) : (∃ l, l < n ∧ i = Int32.ofNat l) ∨ (i < 0 ∨ Int32.ofNat n ≤ i) := by
  by_cases c : i < 0
  · exact Or.inr (Or.inl c)
  · by_cases c2 : Int32.ofNat n ≤ i
    · exact Or.inr (Or.inr c2)
    · left
      rw [show (0 : Int32) = Int32.ofNat 0 from rfl, Int32.lt_iff_toInt_lt, n_int (by omega)] at c
      rw [Int32.le_iff_toInt_le, n_int (by omega)] at c2
      refine ⟨i.toInt.toNat, by omega, ?_⟩
      rw [← Int32.toInt_inj, n_int (by omega)]; omega
theorem isl_no {n l : Nat} (hn : n < 2147483648) (hl : l < n) : ¬ (Int32.ofNat l < 0 ∨ Int32.ofNat n ≤ Int32.ofNat l) := by
  rw [n_le hn (by omega)]; rintro (q | q)
  · exact n_neg (by omega) q
  · omega
/-- in(v, low, high) of the reference -/
theorem l_cmp (x y : Int64) : (lg_cmp x y < 0 ↔ x < y) ∧ (0 < lg_cmp x y ↔ y < x) ∧ (lg_cmp x y = 0 ↔ x = y) := by
  unfold lg_cmp
  by_cases h : x > y
  · rw [if_pos h]
    have h1 : ¬ x < y := fun q => by rw [gt_iff_lt] at h; rw [Int64.lt_iff_toInt_lt] at h q; omega
    have h2 : ¬ x = y := fun q => by subst q; rw [gt_iff_lt, Int64.lt_iff_toInt_lt] at h; omega
    simp only [h1, h2, show y < x from h]; decide
  · rw [if_neg h]
    by_cases h2 : x = y
    · rw [if_pos h2]; subst h2
      have : ¬ x < x := fun q => by rw [Int64.lt_iff_toInt_lt] at q; omega
      simp only [this]; decide
    · rw [if_neg h2]
      have h1 : x < y := by
        rw [gt_iff_lt, Int64.lt_iff_toInt_lt] at h; rw [← Int64.toInt_inj] at h2; rw [Int64.lt_iff_toInt_lt]; omega
      simp only [h1, h2, show ¬ y < x from h]; decide
theorem x64_lt (a b : Int32) : a.toInt64 < b.toInt64 ↔ a < b := by
  rw [Int64.lt_iff_toInt_lt, Int32.lt_iff_toInt_lt, Int32.toInt_toInt64, Int32.toInt_toInt64]
theorem r_in (v low high : Int32) (σ : mm_S) : f_X10_in v.toInt64 low.toInt64 high.toInt64 σ = some (if v < low ∨ high < v then 0 else 1, σ) := by
  unfold f_X10_in
  simp only [(l_cmp _ _).1, (l_cmp _ _).2.1, x64_lt]
  by_cases c : v < low
  · simp [c]
  · by_cases c2 : high < v
    · simp [c, c2]
    · simp [c, c2]
theorem lp_s {V ρ : Type} (n : Nat) (F : (V → mm_S → Option ρ) → V → mm_S → Option ρ) (v : V) (σ : mm_S) : lp (n + 1) F v σ = F (lp n F) v σ := rfl
