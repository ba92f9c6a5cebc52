/-! bestRow: the reference, all rows in turn -/
def EQr (R p : Nat → Nat) : Nat → Prop
  | 0 => True
  | k + 1 => EQr R p k ∧ p k = R k
def LTr (R p : Nat → Nat) : Nat → Prop
  | 0 => False
  | k + 1 => LTr R p k ∨ (EQr R p k ∧ p k < R k)
def Wt (n : Nat) : Nat → Nat
  | 0 => 1
  | d + 1 => (n + 1) * (Wt n d + 1) + 1
def St (n : Nat) (p : Nat → Nat) : Nat → Nat
  | 0 => 0
  | k + 1 => St n p k + (n - p k) * (Wt n (n - (k + 1)) + 1) + 1
theorem Wt_pos (n : Nat) : ∀ d, 1 ≤ Wt n d
  | 0 => Nat.le_refl 1
  | d + 1 => Nat.le_add_left 1 _
theorem Wt_top : ∀ n, n < 7 → Wt n n < 1000000 := by decide +kernel
theorem EQr_all {R p : Nat → Nat} : ∀ k, EQr R p k → ∀ l, l < k → p l = R l
  | 0, _, l, h => by omega
  | k + 1, h, l, hl => by
    by_cases c : l = k
    · rw [c]; exact h.2
    · exact EQr_all k h.1 l (by omega)
theorem LTr_ex {R p : Nat → Nat} : ∀ k, LTr R p k → ∃ i, i < k ∧ (∀ j, j < i → p j = R j) ∧ p i < R i
  | 0, h => absurd h id
  | k + 1, h => by
    rcases h with h | h
    · obtain ⟨i, a, b, c⟩ := LTr_ex k h; exact ⟨i, by omega, b, c⟩
    · exact ⟨k, by omega, EQr_all k h.1, h.2⟩
theorem r_congr {n : Nat} {R p q : Nat → Nat} : ∀ k, (∀ l, l < k → p l = q l) → (EQr R p k ↔ EQr R q k) ∧ (LTr R p k ↔ LTr R q k) ∧ St n p k = St n q k ∧ Uo p k = Uo q k ∧ Co p k = Co q k
  | 0, _ => ⟨Iff.rfl, Iff.rfl, rfl, rfl, rfl⟩
  | k + 1, h => by
    obtain ⟨h1, h2, h3, h4, h5⟩ := r_congr (n := n) (R := R) k (fun l hl => h l (by omega))
    have e := h k (by omega)
    refine ⟨?_, ?_, ?_, ?_, ?_⟩
    · show (EQr R p k ∧ p k = R k) ↔ (EQr R q k ∧ q k = R k); rw [h1, e]
    · show (LTr R p k ∨ (EQr R p k ∧ p k < R k)) ↔ (LTr R q k ∨ (EQr R q k ∧ q k < R k)); rw [h1, h2, e]
    · show St n p k + (n - p k) * (Wt n (n - (k + 1)) + 1) + 1 = St n q k + (n - q k) * (Wt n (n - (k + 1)) + 1) + 1; rw [h3, e]
    · show (if p k = 0 then Uo p k else Uo p k ||| 2 ^ (p k - 1)) = (if q k = 0 then Uo q k else Uo q k ||| 2 ^ (q k - 1)); rw [h4, e]
    · show (if p k = 0 then Co p k else Co p k + 1) = (if q k = 0 then Co q k else Co q k + 1); rw [h5, e]
def BS (n s : Nat) (R : Nat → Nat) (N : Prop) (τ : mm_S) : Prop := (N → ∃ b, b ≤ s ∧ τ.1 214 35 = Int32.ofNat b - 1) ∧ (¬ N → τ.1 214 35 = Int32.ofNat s ∧ τ.1 214 36 = Int32.ofNat s ∧ ∀ l, l < n → τ.1 231 l = Int32.ofNat (R l) - 1)
theorem BS_iff {n s : Nat} {R : Nat → Nat} {N N' : Prop} {τ : mm_S} (e : N ↔ N') (h : BS n s R N τ) : BS n s R N' τ := ⟨fun q => h.1 (e.mpr q), fun q => h.2 (fun z => q (e.mp z))⟩
theorem BS_keep {n s : Nat} {R : Nat → Nat} {N : Prop} {τ τ' : mm_S} (e : ∀ a j, a ≠ 230 → τ'.1 a j = τ.1 a j) (h : BS n s R N τ) : BS n s R N τ' := by
  unfold BS
  rw [e 214 35 (by omega), e 214 36 (by omega)]
  exact ⟨h.1, fun q => ⟨(h.2 q).1, (h.2 q).2.1, fun l hl => by rw [e 231 l (by omega)]; exact (h.2 q).2.2 l hl⟩⟩
theorem okR_use {n o s : Nat} (h : okR n o s = true) : (∀ l, l < n → Rw n o s l ≤ n ∧ Rw n o s l ≠ l + 1 ∧ (o / 2 ^ l % 2 = 0 → Rw n o s l = 0)) ∧ pcn (Uo (Rw n o s) n) = s ∧ Co (Rw n o s) n = s := by
  unfold okR at h
  simp only [Bool.and_eq_true, decide_eq_true_eq] at h
  exact ⟨h.1.1.1, h.1.1.2, h.1.2⟩
theorem r_leafrow {n o s t : Nat} {p : Nat → Nat} {ρ : mm_S} (e3 : ρ.1 224 3 = Int32.ofNat n) (e2 : ρ.1 224 2 = Int32.ofNat t) (hn : n ≤ 6) (ht : t ≤ 7) (ho : o < 2 ^ n) (hR : okR n o s = true) (hst : s ≤ t) (hC : ∀ p, okp n o p n → Co p n ≤ t → Co p n ≤ s) (hp : okp n o p n) (er : ∀ l, l < n → ρ.1 230 l = Int32.ofNat (p l))
    (hB : BS n s (Rw n o s) (LTr (Rw n o s) p n ∨ EQr (Rw n o s) p n) ρ) : wp (f_X10_weighsRow 214 ρ) (fun τ => BS n s (Rw n o s) (LTr (Rw n o s) p n) τ ∧ ∀ a j, a ≠ 231 → ¬ (a = 214 ∧ (j = 35 ∨ j = 36)) → τ.1 a j = ρ.1 a j) := by
  obtain ⟨r1, r2, r3⟩ := okR_use hR
  have hu := Uo_C hn (Nat.le_refl n) hp
  have cn := Co_le p n
  have eqs : EQr (Rw n o s) p n → pcn (Uo p n) = s ∧ Co p n = s := fun q => by
    obtain ⟨_, _, _, a, b⟩ := r_congr (n := n) (R := Rw n o s) n (EQr_all n q)
    rw [a, b]; exact ⟨r2, r3⟩
  refine wp_mono (r_weigh e3 e2 hn ht hp er) ?_
  rintro τ (⟨⟨a1, a2, a3⟩, h35, h36, h231, hf⟩ | ⟨na, rfl⟩)
  · have cs := hC p hp a1
    refine ⟨⟨fun L => ?_, fun L => ?_⟩, hf⟩
    · obtain ⟨i, hi, he, hl⟩ := LTr_ex n L
      have := ahead_R hn ho hp hR hi he hl cs
      exact ⟨pcn (Uo p n) + 1, by omega, by rw [h35, br_s (by omega), Nat.add_sub_cancel]⟩
    · by_cases E : EQr (Rw n o s) p n
      · obtain ⟨q1, q2⟩ := eqs E
        refine ⟨by rw [h35, q1], by rw [h36, q2], fun l hl => by rw [h231 l hl, EQr_all n E l hl]⟩
      · exfalso
        obtain ⟨b1, b2, _⟩ := hB.2 (fun q => q.elim L E)
        rw [b1] at a2 a3
        rw [b2] at a3
        rw [n_lt (by omega) (by omega)] at a2 a3
        rw [n_eq (by omega) (by omega)] at a3
        omega
  · refine ⟨⟨fun L => hB.1 (Or.inl L), fun L => ?_⟩, fun _ _ _ _ => rfl⟩
    by_cases E : EQr (Rw n o s) p n
    · exfalso
      obtain ⟨q1, q2⟩ := eqs E
      obtain ⟨b, hb, eb⟩ := hB.1 (Or.inr E)
      apply na
      rw [q1, q2, eb]
      have s6 : s ≤ 6 := by omega
      rcases Nat.eq_zero_or_pos b with rfl | pb
      · rw [show Int32.ofNat 0 - 1 = (-1 : Int32) by decide]
        refine ⟨hst, fun q => ?_, fun q => ?_⟩
        · exact ((n_lt1 (by omega)).mp q)
        · exfalso
          have : ¬ (Int32.ofNat s < 0) := n_neg (by omega)
          rw [q] at this; exact this (by decide)
      · rw [br_s pb, n_lt (by omega) (by omega), n_eq (by omega) (by omega)]
        exact ⟨hst, by omega, fun q => by omega⟩
    · exact hB.2 (fun q => q.elim L E)
