/-! bestRow: the rows, by numbers (0 nobody, j + 1 LODGER j) -/
def lof (k free later : Nat) : Nat → Nat → Option Nat
  | 0, _ => none
  | m + 1, j => if j ≠ k ∧ free / 2 ^ j % 2 = 1 ∧ ¬ (pcn later = 1 ∧ free - (free &&& 2 ^ j) = later) then some j else lof k free later m (j + 1)
def lat (o k : Nat) : Nat := o / 2 ^ (k + 1) * 2 ^ (k + 1)
def grl (n o : Nat) : Nat → Nat → Nat → Nat → List Nat
  | 0, _, _, _ => []
  | m + 1, k, free, left =>
    if left ≤ pcn (lat o k) then 0 :: grl n o m (k + 1) free left
    else match lof k free (lat o k) n 0 with
      | none => 0 :: grl n o m (k + 1) free (left - 1)
      | some j => (j + 1) :: grl n o m (k + 1) (free - (free &&& 2 ^ j)) (left - 1)
def Rw (n o s : Nat) (l : Nat) : Nat := (grl n o n 0 (2 ^ n - 1) s).getD l 0
def Uo (p : Nat → Nat) : Nat → Nat
  | 0 => 0
  | k + 1 => if p k = 0 then Uo p k else Uo p k ||| 2 ^ (p k - 1)
def Co (p : Nat → Nat) : Nat → Nat
  | 0 => 0
  | k + 1 => if p k = 0 then Co p k else Co p k + 1
/-- can it be gone on with, so that s seek, all of them others -/
def exb (n o s : Nat) : Nat → Nat → Nat → Nat → Bool
  | 0, _, _, cnt => cnt == s
  | m + 1, k, used, cnt => (decide (cnt ≤ s) && decide (s ≤ cnt + pcn (o / 2 ^ k * 2 ^ k))) && (exb n o s m (k + 1) used cnt || (decide (o / 2 ^ k % 2 = 1) && (List.range n).any (fun j => decide (j ≠ k) && decide (used / 2 ^ j % 2 = 0) && exb n o s m (k + 1) (used ||| 2 ^ j) (cnt + 1))))
def okR (n o s : Nat) : Bool := decide (∀ l, l < n → Rw n o s l ≤ n ∧ Rw n o s l ≠ l + 1 ∧ (o / 2 ^ l % 2 = 0 → Rw n o s l = 0)) && decide (pcn (Uo (Rw n o s) n) = s) && decide (Co (Rw n o s) n = s) &&
  decide (∀ i, i < n → ∀ v, v < Rw n o s i → v ≠ i + 1 → (v = 0 ∨ Uo (Rw n o s) i / 2 ^ (v - 1) % 2 = 0) → exb n o s (n - (i + 1)) (i + 1) (if v = 0 then Uo (Rw n o s) i else Uo (Rw n o s) i ||| 2 ^ (v - 1)) (if v = 0 then Co (Rw n o s) i else Co (Rw n o s) i + 1) = false)
def smx (n o : Nat) : Nat := if n < 2 then 0 else pcn o
set_option maxRecDepth 100000 in
theorem fin_R : ∀ n, n < 7 → ∀ o, o < 2 ^ n → ∀ s, s < 7 → s ≤ smx n o → okR n o s = true := by decide +kernel
theorem pcn_or : ∀ u, u < 64 → ∀ j, j < 6 → pcn (u ||| 2 ^ j) = (if u / 2 ^ j % 2 = 1 then pcn u else pcn u + 1) ∧ u ||| 2 ^ j < 64 := by decide +kernel
theorem pcn_hi : ∀ o, o < 64 → ∀ k, k < 6 → pcn (o / 2 ^ k * 2 ^ k) = pcn (o / 2 ^ (k + 1) * 2 ^ (k + 1)) + o / 2 ^ k % 2 := by decide +kernel
theorem pcn_top : ∀ o, o < 64 → ∀ n, n ≤ 6 → o < 2 ^ n → pcn (o / 2 ^ n * 2 ^ n) = 0 := by decide +kernel
/-- a row that may be -/
def okp (n o : Nat) (p : Nat → Nat) (k : Nat) : Prop := ∀ l, l < k → p l ≤ n ∧ p l ≠ l + 1 ∧ (o / 2 ^ l % 2 = 0 → p l = 0)
theorem Uo_lt {n o : Nat} {p : Nat → Nat} (hn : n ≤ 6) : ∀ k, k ≤ n → okp n o p k → Uo p k < 64
  | 0, _, _ => by show 0 < 64; omega
  | k + 1, hk, h => by
    have ih := Uo_lt hn k (by omega) (fun l hl => h l (by omega))
    show (if p k = 0 then Uo p k else Uo p k ||| 2 ^ (p k - 1)) < 64
    split
    · exact ih
    · have := (h k (by omega)).1
      exact (pcn_or _ ih (p k - 1) (by omega)).2
theorem Uo_step {n o : Nat} {p : Nat → Nat} (hn : n ≤ 6) {k : Nat} (hk : k < n) (h : okp n o p (k + 1)) : pcn (Uo p (k + 1)) + Co p k ≤ pcn (Uo p k) + Co p (k + 1) ∧ (p k ≠ 0 → Uo p k / 2 ^ (p k - 1) % 2 = 1 → pcn (Uo p (k + 1)) + Co p k + 1 ≤ pcn (Uo p k) + Co p (k + 1)) := by
  have u := Uo_lt hn k (by omega) (fun l hl => h l (by omega))
  have := (h k (by omega)).1
  show pcn (if p k = 0 then Uo p k else Uo p k ||| 2 ^ (p k - 1)) + Co p k ≤ pcn (Uo p k) + (if p k = 0 then Co p k else Co p k + 1) ∧ (p k ≠ 0 → Uo p k / 2 ^ (p k - 1) % 2 = 1 → pcn (if p k = 0 then Uo p k else Uo p k ||| 2 ^ (p k - 1)) + Co p k + 1 ≤ pcn (Uo p k) + (if p k = 0 then Co p k else Co p k + 1))
  by_cases c : p k = 0
  · rw [if_pos c, if_pos c]; exact ⟨by omega, fun q => absurd c q⟩
  · rw [if_neg c, if_neg c, (pcn_or _ u (p k - 1) (by omega)).1]
    constructor
    · split <;> omega
    · intro _ q; rw [if_pos q]; omega
theorem Uo_mono {n o : Nat} {p : Nat → Nat} (hn : n ≤ 6) {k : Nat} : ∀ m, k + m ≤ n → okp n o p (k + m) → pcn (Uo p (k + m)) + Co p k ≤ pcn (Uo p k) + Co p (k + m)
  | 0, _, _ => Nat.le_refl _
  | m + 1, hm, h => by
    have ih := Uo_mono (n := n) (o := o) (k := k) hn m (by omega) (fun l hl => h l (by omega))
    have := (Uo_step hn (k := k + m) (by omega) h).1
    show pcn (Uo p (k + m + 1)) + Co p k ≤ pcn (Uo p k) + Co p (k + m + 1)
    omega
theorem Uo_C {n o : Nat} {p : Nat → Nat} (hn : n ≤ 6) {k : Nat} (hk : k ≤ n) (h : okp n o p k) : pcn (Uo p k) ≤ Co p k := by
  have := Uo_mono (k := 0) hn k (by omega) (by rw [Nat.zero_add]; exact h)
  rw [Nat.zero_add] at this
  show pcn (Uo p k) ≤ Co p k
  have h0 : pcn (Uo p 0) = 0 := by show pcn 0 = 0; decide
  have h1 : Co p 0 = 0 := rfl
  omega
/-- all of them others -/
theorem Uo_dis {n o : Nat} {p : Nat → Nat} (hn : n ≤ 6) (h : okp n o p n) (e : pcn (Uo p n) = Co p n) {k : Nat} (hk : k < n) (c : p k ≠ 0) : Uo p k / 2 ^ (p k - 1) % 2 = 0 := by
  by_cases q : Uo p k / 2 ^ (p k - 1) % 2 = 1
  · exfalso
    have s1 := (Uo_step hn hk (fun l hl => h l (by omega))).2 c q
    have s2 := Uo_mono (k := k + 1) hn (n - (k + 1)) (by omega) (fun l hl => h l (by omega))
    have s3 := Uo_C hn (k := k) (by omega) (fun l hl => h l (by omega))
    rw [show k + 1 + (n - (k + 1)) = n by omega] at s2
    omega
  · omega
theorem Co_hi {n o : Nat} {p : Nat → Nat} (hn : n ≤ 6) (ho : o < 2 ^ n) (h : okp n o p n) : ∀ m k, k + m = n → Co p n ≤ Co p k + pcn (o / 2 ^ k * 2 ^ k)
  | 0, k, hk => by rw [show k = n by omega]; omega
  | m + 1, k, hk => by
    have o64 : o < 64 := Nat.lt_of_lt_of_le ho (Nat.pow_le_pow_right (by omega) hn)
    have ih := Co_hi hn ho h m (k + 1) (by omega)
    have hp := pcn_hi o o64 k (by omega)
    have hl := h k (by omega)
    have : Co p (k + 1) ≤ Co p k + o / 2 ^ k % 2 := by
      show (if p k = 0 then Co p k else Co p k + 1) ≤ _
      split
      · omega
      · rename_i c
        have : o / 2 ^ k % 2 ≠ 0 := fun q => c (hl.2.2 q)
        omega
    omega
theorem Co_mono (p : Nat → Nat) {k : Nat} : ∀ m, Co p k ≤ Co p (k + m)
  | 0 => Nat.le_refl _
  | m + 1 => by
    have := Co_mono p (k := k) m
    show _ ≤ (if p (k + m) = 0 then Co p (k + m) else Co p (k + m) + 1)
    split <;> omega
theorem exb_yes {n o s : Nat} {p : Nat → Nat} (hn : n ≤ 6) (ho : o < 2 ^ n) (h : okp n o p n) (e : pcn (Uo p n) = Co p n) (es : Co p n = s) : ∀ m k, k + m = n → exb n o s m k (Uo p k) (Co p k) = true
  | 0, k, hk => by
    rw [show k = n by omega]
    show (Co p n == s) = true
    rw [es]; exact beq_self_eq_true s
  | m + 1, k, hk => by
    have ih := exb_yes hn ho h e es m (k + 1) (by omega)
    have a1 : Co p k ≤ s := by have := Co_mono p (k := k) (n - k); rw [show k + (n - k) = n by omega] at this; omega
    have a2 := Co_hi hn ho h (n - k) k (by omega)
    have hl := h k (by omega)
    show ((decide (Co p k ≤ s) && decide (s ≤ Co p k + pcn (o / 2 ^ k * 2 ^ k))) && (exb n o s m (k + 1) (Uo p k) (Co p k) || (decide (o / 2 ^ k % 2 = 1) && (List.range n).any (fun j => decide (j ≠ k) && decide (Uo p k / 2 ^ j % 2 = 0) && exb n o s m (k + 1) (Uo p k ||| 2 ^ j) (Co p k + 1))))) = true
    rw [decide_eq_true a1, decide_eq_true (show s ≤ Co p k + pcn (o / 2 ^ k * 2 ^ k) by omega), Bool.true_and, Bool.true_and, Bool.or_eq_true]
    by_cases c : p k = 0
    · left
      have e1 : Uo p (k + 1) = Uo p k := if_pos c
      have e2 : Co p (k + 1) = Co p k := if_pos c
      rw [e1, e2] at ih; exact ih
    · right
      have e1 : Uo p (k + 1) = Uo p k ||| 2 ^ (p k - 1) := if_neg c
      have e2 : Co p (k + 1) = Co p k + 1 := if_neg c
      rw [e1, e2] at ih
      have b1 : o / 2 ^ k % 2 = 1 := by
        have : o / 2 ^ k % 2 ≠ 0 := fun q => c (hl.2.2 q)
        omega
      rw [decide_eq_true b1, Bool.true_and, List.any_eq_true]
      refine ⟨p k - 1, List.mem_range.mpr (by omega), ?_⟩
      rw [decide_eq_true (show p k - 1 ≠ k by omega), decide_eq_true (Uo_dis hn h e (by omega) c), Bool.true_and, Bool.true_and]; exact ih
/-- no row ahead of R has as many -/
theorem ahead_R {n o s : Nat} {p : Nat → Nat} (hn : n ≤ 6) (ho : o < 2 ^ n) (h : okp n o p n) (R : okR n o s = true) {i : Nat} (hi : i < n) (he : ∀ j, j < i → p j = Rw n o s j) (hl : p i < Rw n o s i) (hc : Co p n ≤ s) : pcn (Uo p n) < s := by
  have hu := Uo_C hn (Nat.le_refl n) h
  by_cases c : pcn (Uo p n) < s
  · exact c
  · exfalso
    unfold okR at R
    simp only [Bool.and_eq_true, decide_eq_true_eq] at R
    have yes := exb_yes hn ho h (by omega) (show Co p n = s by omega) (n - (i + 1)) (i + 1) (by omega)
    have eU : ∀ k, k ≤ i → Uo p k = Uo (Rw n o s) k ∧ Co p k = Co (Rw n o s) k := by
      intro k
      induction k with
      | zero => intro _; exact ⟨rfl, rfl⟩
      | succ k ih =>
        intro hk
        obtain ⟨i1, i2⟩ := ih (by omega)
        refine ⟨?_, ?_⟩
        · show (if p k = 0 then Uo p k else Uo p k ||| 2 ^ (p k - 1)) = (if Rw n o s k = 0 then Uo (Rw n o s) k else Uo (Rw n o s) k ||| 2 ^ (Rw n o s k - 1)); rw [he k (by omega), i1]
        · show (if p k = 0 then Co p k else Co p k + 1) = (if Rw n o s k = 0 then Co (Rw n o s) k else Co (Rw n o s) k + 1); rw [he k (by omega), i2]
    have nox := R.2 i hi (p i) hl (h i hi).2.1 (by
      by_cases q : p i = 0
      · exact Or.inl q
      · right; rw [← (eU i (Nat.le_refl _)).1]; exact Uo_dis hn h (by omega) hi q)
    have e1 : Uo p (i + 1) = if p i = 0 then Uo (Rw n o s) i else Uo (Rw n o s) i ||| 2 ^ (p i - 1) := by
      show (if p i = 0 then Uo p i else Uo p i ||| 2 ^ (p i - 1)) = _; rw [(eU i (Nat.le_refl _)).1]
    have e2 : Co p (i + 1) = if p i = 0 then Co (Rw n o s) i else Co (Rw n o s) i + 1 := by
      show (if p i = 0 then Co p i else Co p i + 1) = _; rw [(eU i (Nat.le_refl _)).2]
    rw [e1, e2, nox] at yes
    exact absurd yes (by decide)
