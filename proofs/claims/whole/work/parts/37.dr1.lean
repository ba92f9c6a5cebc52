/-! words: five bits a letter on one side, letter by letter on the other -/
def pkf (g : Nat → Nat) : Nat → Nat
  | 0 => 0
  | n + 1 => 32 * pkf g n + g n
theorem wk_inj {g h : Nat → Nat} : ∀ {n m : Nat}, (∀ i, i < n → 1 ≤ g i ∧ g i < 32) → (∀ i, i < m → 1 ≤ h i ∧ h i < 32) → pkf g n = pkf h m → n = m ∧ ∀ i, i < n → g i = h i
  | 0, 0, _, _, _ => ⟨rfl, fun i q => by omega⟩
  | 0, m + 1, _, hh, e => by have := hh m (by omega); have e' : 0 = 32 * pkf h m + h m := e; omega
  | n + 1, 0, hg, _, e => by have := hg n (by omega); have e' : 32 * pkf g n + g n = 0 := e; omega
  | n + 1, m + 1, hg, hh, e => by
    have a1 := hg n (by omega)
    have a2 := hh m (by omega)
    have e' : 32 * pkf g n + g n = 32 * pkf h m + h m := e
    obtain ⟨q1, q2⟩ := wk_inj (fun i q => hg i (by omega)) (fun i q => hh i (by omega)) (show pkf g n = pkf h m by omega)
    subst q1
    refine ⟨rfl, fun i q => ?_⟩
    by_cases c : i = n
    · subst c; omega
    · exact q2 i (by omega)
theorem wk_lt {g : Nat → Nat} : ∀ {n : Nat}, (∀ i, i < n → g i < 32) → pkf g n < 32 ^ n
  | 0, _ => by show 0 < 1; decide
  | n + 1, h => by
    have a := wk_lt (n := n) (fun i q => h i (by omega))
    have b := h n (by omega)
    show 32 * pkf g n + g n < 32 ^ (n + 1)
    rw [Nat.pow_succ]; omega
theorem wk_congr {g h : Nat → Nat} : ∀ {n : Nat}, (∀ i, i < n → g i = h i) → pkf g n = pkf h n
  | 0, _ => rfl
  | n + 1, q => by show 32 * pkf g n + g n = 32 * pkf h n + h n; rw [wk_congr (fun i c => q i (by omega)), q n (by omega)]
theorem wk_step {v c : Nat} (hv : v < 2 ^ 58) (hc : c < 32) : (Int64.ofNat v <<< ((5 : Int32).toInt64 &&& 63)) ||| (Int32.ofNat c).toInt64 = Int64.ofNat (32 * v + c) := by
  have e1 : (Int32.ofNat c).toInt64 = Int64.ofNat c := by
    have : ∀ c, c < 32 → (Int32.ofNat c).toInt64 = Int64.ofNat c := by decide +kernel
    exact this c hc
  rw [e1]
  apply Int64.toBitVec_inj.mp
  rw [Int64.toBitVec_or, Int64.toBitVec_shiftLeft]
  apply BitVec.eq_of_toNat_eq
  have hy : ((5 : Int32).toInt64 &&& 63).toBitVec.smod 64 = BitVec.ofNat 64 5 := by decide +kernel
  have hb : (Int64.ofNat v).toBitVec.toNat = v := Nat.mod_eq_of_lt (by omega)
  have hc' : (Int64.ofNat c).toBitVec.toNat = c := Nat.mod_eq_of_lt (by omega)
  have hr : (Int64.ofNat (32 * v + c)).toBitVec.toNat = 32 * v + c := Nat.mod_eq_of_lt (by omega)
  have h5 : (BitVec.ofNat 64 5).toNat = 5 := rfl
  rw [hr, BitVec.toNat_or, hc', hy, BitVec.shiftLeft_eq', BitVec.toNat_shiftLeft, hb, h5, Nat.shiftLeft_eq, Nat.mod_eq_of_lt (show v * 2 ^ 5 < 2 ^ 64 by omega), ← Nat.shiftLeft_eq, ← Nat.shiftLeft_add_eq_or_of_lt (show c < 2 ^ 5 by omega), Nat.shiftLeft_eq]
  omega
def lc (x : Int32) : Nat := x.toInt.toNat - 96
theorem isl_of {x : Int32} (h : isl x = true) : x = Int32.ofNat (96 + lc x) ∧ 1 ≤ lc x ∧ lc x ≤ 26 := by
  have q := of_decide_eq_true h
  unfold lc
  refine ⟨?_, by omega, by omega⟩
  rw [← Int32.toInt_inj, n_int (by omega)]; omega
theorem lc_and {x : Int32} (h : isl x = true) : x &&& 31 = Int32.ofNat (lc x) := by
  obtain ⟨e, h1, h2⟩ := isl_of h
  have : ∀ c, c < 27 → Int32.ofNat (96 + c) &&& 31 = Int32.ofNat c := by decide +kernel
  have e2 := this (lc x) (by omega)
  rw [← e] at e2; exact e2
theorem ofn64 {a c : Nat} (ha : a < 2 ^ 63) (hc : c < 2 ^ 63) (h : Int64.ofNat a = Int64.ofNat c) : a = c := by
  have := congrArg (fun x => x.toBitVec.toNat) h
  have h1 : (Int64.ofNat a).toBitVec.toNat = a := Nat.mod_eq_of_lt (by omega)
  have h2 : (Int64.ofNat c).toBitVec.toNat = c := Nat.mod_eq_of_lt (by omega)
  simp only [h1, h2] at this
  exact this
section
variable {b : Nat → Int32} {L q : Nat} {ρ : mm_S}
theorem r_isWord (W : Int64) (T : TP b L ρ) (hq : q ≤ L) (e : ρ.1 214 8 = Int32.ofNat q) {p n : Nat} (hp : p = sk b L q) (hn : n = ed isl b L p - p) :
    f_X10_isWord 214 W ρ = some (if 0 < n ∧ n < 13 ∧ Int64.ofNat (pkf (fun i => lc (b (p + i))) n) = W then 1 else 0, mv ρ p) := by
  have hL := T.1
  have p1 : p ≤ L := by rw [hp]; exact ed_lt _ _ hq
  have e1 := ed_le isl b L p
  have e2 := ed_lt isl b p1
  have ein : ∀ i, i < n → p + i < L ∧ isl (b (p + i)) = true := fun i hi => ed_in isl b (L := L) (i := p) (by omega) (by omega)
  have eno : ¬ (p + n < L ∧ isl (b (p + n)) = true) := by
    have := ed_at isl b L p; rw [show ed isl b L p = p + n by omega] at this; exact this
  unfold f_X10_isWord
  rw [r_see T hq e, bd_s, ← hp]
  unfold f_X10_isWord_10
  refine wp_eq (wp_lp (fun m v τ => τ = mv ρ p ∧ ∃ i, i ≤ n ∧ m = n - i ∧ v = (Int64.ofNat (pkf (fun i => lc (b (p + i))) (min i 12)), Int32.ofNat i)) ?_ lpN n _ _ (Nat.lt_of_le_of_lt (show n ≤ 400 by omega) (by decide)) ⟨rfl, 0, by omega, rfl, rfl⟩)
  rintro m rec v τ ⟨rfl, i, hi, rfl, rfl⟩ hrec
  rw [mv_8, n_add, r_isLetter (p + i) (TP_mv p T) (by omega), bd_s]
  by_cases c : i = n
  · subst c
    rw [if_neg eno, if_pos rfl]
    simp only [(l_cmp _ _).2.2]
    rw [show (0 : Int32) = Int32.ofNat 0 from rfl, show (13 : Int32) = Int32.ofNat 13 from rfl]
    simp (disch := omega) only [n_le]
    by_cases c0 : i ≤ 0
    · rw [if_pos c0, if_neg (by omega), wp_some]
    · rw [if_neg c0]
      by_cases c1 : 13 ≤ i
      · rw [if_pos c1, if_neg (by omega), wp_some]
      · rw [if_neg c1, show min i 12 = i by omega]
        by_cases c2 : Int64.ofNat (pkf (fun i => lc (b (p + i))) i) = W
        · rw [if_pos c2, if_pos ⟨by omega, by omega, c2⟩, wp_some]
        · rw [if_neg c2, if_neg (fun q => c2 q.2.2), wp_some]
  · have hl := ein i (by omega)
    rw [if_pos hl, if_neg (by decide), show (12 : Int32) = Int32.ofNat 12 from rfl]
    simp (disch := omega) only [n_le, lt_eq, n_addI]
    by_cases c1 : 12 ≤ i
    · rw [if_pos c1]
      exact hrec (n - (i + 1)) _ _ (by omega) ⟨rfl, i + 1, by omega, rfl, by rw [show min i 12 = 12 by omega, show min (i + 1) 12 = 12 by omega]⟩
    · rw [if_neg c1, mv_8, n_add, gd_n (by omega) (by omega), n_idx (by omega), mv_o _ _ (by omega), T.2.2, lc_and hl.2]
      have lt1 : pkf (fun i => lc (b (p + i))) i < 32 ^ i := wk_lt (fun j hj => by have := isl_of (ein j (by omega)).2; omega)
      have lt2 : 32 ^ i ≤ 32 ^ 11 := Nat.pow_le_pow_right (by decide) (by omega)
      have lt3 : (32 : Nat) ^ 11 = 2 ^ 55 := by decide
      have ll := isl_of hl.2
      rw [show min i 12 = i by omega, wk_step (by omega) (by omega)]
      exact hrec (n - (i + 1)) _ _ (by omega) ⟨rfl, i + 1, by omega, rfl, by rw [show min (i + 1) 12 = i + 1 by omega]; rfl⟩
end
/-! the table of words -/
def wml (k : Nat) : Nat := [6, 5, 5, 10, 5, 10, 4, 4, 7, 6, 7, 5, 4, 5, 5, 4, 2, 3, 2, 3].getD k 0
def wms (k : Nat) : Nat := [0, 7, 13, 19, 30, 36, 47, 52, 57, 65, 72, 80, 86, 91, 97, 103, 108, 111, 115, 118, 122].getD k 0
def WK (k : Nat) : Int64 := [(418520242 : Int64), 16392370, 21285028, 550036685768868, 16955493, 550036681439333, 136242, 66667, 20574475859, 317301893, 21997134003, 3554411, 278194, 8902245, 3659220, 627883, 294, 1476, 498, 14836].getD k 0
def wc (k i : Nat) : Nat := lc (wch (Int32.ofNat (wms k + i)))
theorem w_tab : ∀ k, k < 20 → wms (k + 1) = wms k + wml k + 1 ∧ wch (Int32.ofNat (wms k + wml k)) = 32 ∧ 1 ≤ wml k ∧ wml k ≤ 10 ∧ wms k + wml k < 122 ∧ Int64.ofNat (pkf (wc k) (wml k)) = WK k ∧ ∀ i, i < wml k → isl (wch (Int32.ofNat (wms k + i))) = true := by decide +kernel
theorem w_dis : ∀ k, k < 20 → ∀ j, j < 20 → WK k = WK j → k = j := by decide +kernel
def mt (b : Nat → Int32) (p e k : Nat) : Prop := p + wml k = e ∧ ∀ i, i < wml k → b (p + i) = wch (Int32.ofNat (wms k + i))
def WV (b : Nat → Int32) (p e : Nat) (v : Int32) : Prop := (∃ k, k < 20 ∧ mt b p e k ∧ v = Int32.ofNat k) ∨ (v = -1 ∧ ∀ k, k < 20 → ¬ mt b p e k)
theorem mt_wk {b : Nat → Int32} {p e k : Nat} (hk : k < 20) (h : mt b p e k) : Int64.ofNat (pkf (fun i => lc (b (p + i))) (e - p)) = WK k := by
  obtain ⟨h1, h2⟩ := h
  rw [← (w_tab k hk).2.2.2.2.2.1, show e - p = wml k by omega]
  congr 1
  exact wk_congr (fun i hi => by show lc (b (p + i)) = lc _; rw [h2 i hi])
theorem WV_iff {b : Nat → Int32} {p e k : Nat} {v : Int32} (hk : k < 20) (h : WV b p e v) : v = Int32.ofNat k ↔ mt b p e k := by
  rcases h with ⟨j, hj, m, rfl⟩ | ⟨rfl, m⟩
  · rw [n_eq (by omega) (by omega)]
    constructor
    · intro q; rw [← q]; exact m
    · intro q; exact w_dis _ hj _ hk ((mt_wk hj m).symm.trans (mt_wk hk q))
  · constructor
    · intro q; exact absurd q.symm (by rw [n_ne1 (by omega)]; exact id)
    · intro q; exact absurd q (m k hk)
theorem mt_iff {b : Nat → Int32} {L p n k : Nat} (hk : k < 20) (hn : n = ed isl b L p - p) : (0 < n ∧ n < 13 ∧ Int64.ofNat (pkf (fun i => lc (b (p + i))) n) = WK k) ↔ mt b p (ed isl b L p) k := by
  have e1 := ed_le isl b L p
  have ein : ∀ i, i < n → p + i < L ∧ isl (b (p + i)) = true := fun i hi => ed_in isl b (L := L) (i := p) (by omega) (by omega)
  obtain ⟨-, -, w1, w2, -, w3, w4⟩ := w_tab k hk
  constructor
  · rintro ⟨c1, c2, c3⟩
    rw [← w3] at c3
    have lt1 : pkf (fun i => lc (b (p + i))) n < 32 ^ n := wk_lt (fun j hj => by have := isl_of (ein j (by omega)).2; omega)
    have lt2 : 32 ^ n ≤ 32 ^ 12 := Nat.pow_le_pow_right (by decide) (by omega)
    have lt3 : (32 : Nat) ^ 12 = 2 ^ 60 := by decide
    have lt4 : pkf (wc k) (wml k) < 32 ^ (wml k) := wk_lt (fun j hj => by have := isl_of (w4 j (by omega)); show lc _ < 32; omega)
    have lt5 : 32 ^ (wml k) ≤ 32 ^ 12 := Nat.pow_le_pow_right (by decide) (by omega)
    obtain ⟨q1, q2⟩ := wk_inj (fun i hi => by have := isl_of (ein i (by omega)).2; exact ⟨this.2.1, by show lc _ < 32; omega⟩) (fun i hi => by have := isl_of (w4 i (by omega)); exact ⟨this.2.1, by show lc _ < 32; omega⟩) (ofn64 (by omega) (by omega) c3)
    refine ⟨by omega, fun i hi => ?_⟩
    have x1 := isl_of (ein i (by omega)).2
    have x2 := isl_of (w4 i hi)
    rw [x1.1, x2.1]
    congr 2
    exact q2 i (by omega)
  · intro h
    have := h.1
    refine ⟨by omega, by omega, ?_⟩
    rw [hn]; exact mt_wk hk h
