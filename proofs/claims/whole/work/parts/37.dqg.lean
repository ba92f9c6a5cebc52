/-! ruled, look: the answers -/
def nzv (i : Int32) : Int32 := match f_J6_numberOfTrailingZeros_0f7a4 i (fun _ _ => 0, fun _ _ => 0, 0) with | some r => r.1 | none => 0
theorem nt_74 (i0 i1 : Int32) : ∃ x, ∀ σ, f_J6_numberOfTrailingZeros_0f7a4_74 i0 i1 σ = some (x, σ) := ⟨_, fun _ => rfl⟩
theorem nt_62 (i0 i1 : Int32) : ∃ x, ∀ σ, f_J6_numberOfTrailingZeros_0f7a4_62 i0 i1 σ = some (x, σ) := by
  unfold f_J6_numberOfTrailingZeros_0f7a4_62
  by_cases c : i0 ≤ (4 : Int32)
  · simp only [if_pos c]; exact nt_74 _ _
  · simp only [if_neg c, lt_eq]; exact nt_74 _ _
theorem nt_49 (i0 i1 : Int32) : ∃ x, ∀ σ, f_J6_numberOfTrailingZeros_0f7a4_49 i0 i1 σ = some (x, σ) := by
  unfold f_J6_numberOfTrailingZeros_0f7a4_49
  by_cases c : i0 ≤ (16 : Int32)
  · simp only [if_pos c]; exact nt_62 _ _
  · simp only [if_neg c, lt_eq]; exact nt_62 _ _
theorem nt_34 (i0 i1 : Int32) : ∃ x, ∀ σ, f_J6_numberOfTrailingZeros_0f7a4_34 i0 i1 σ = some (x, σ) := by
  unfold f_J6_numberOfTrailingZeros_0f7a4_34
  by_cases c : i0 ≤ (256 : Int32)
  · simp only [if_pos c]; exact nt_49 _ _
  · simp only [if_neg c, lt_eq]; exact nt_49 _ _
theorem nt_0 (i : Int32) : ∃ x, ∀ σ, f_J6_numberOfTrailingZeros_0f7a4 i σ = some (x, σ) := by
  unfold f_J6_numberOfTrailingZeros_0f7a4
  simp only [lt_eq]
  by_cases c : 0 < ((i ^^^ (-1 : Int32)) &&& (i - (1 : Int32)))
  · simp only [if_pos c]
    by_cases c2 : ((i ^^^ (-1 : Int32)) &&& (i - (1 : Int32))) ≤ (65536 : Int32)
    · simp only [if_pos c2]; exact nt_34 _ _
    · simp only [if_neg c2]; exact nt_34 _ _
  · simp only [if_neg c]; exact ⟨_, fun _ => rfl⟩
theorem x_ntz (i : Int32) (σ : mm_S) : f_J6_numberOfTrailingZeros_0f7a4 i σ = some (nzv i, σ) := by
  obtain ⟨x, hx⟩ := nt_0 i
  have : nzv i = x := by unfold nzv; rw [hx]
  rw [this]; exact hx σ
def pc7 (i : Nat) : Nat := i % 2 + i / 2 % 2 + i / 4 % 2 + i / 8 % 2 + i / 16 % 2 + i / 32 % 2 + i / 64 % 2
def lw (F j : Nat) : Int32 := if F / 2 ^ j = 0 then -2 else nzv (Int32.ofNat (F / 2 ^ j * 2 ^ j)) - 1
theorem pc7_s : ∀ F, F < 128 → ∀ j, j < 7 → Int32.ofNat (pc7 (F / 2 ^ j)) = if bt (Int32.ofNat F) j = 0 then Int32.ofNat (pc7 (F / 2 ^ (j + 1))) else Int32.ofNat (pc7 (F / 2 ^ (j + 1))) + 1 := by decide +kernel
theorem lw_s : ∀ F, F < 128 → ∀ j, j < 7 → lw F j = if bt (Int32.ofNat F) j = 0 then lw F (j + 1) else Int32.ofNat j - 1 := by decide +kernel
theorem bc_7 : ∀ F, F < 128 → bc (Int32.ofNat F) = Int32.ofNat (pc7 F) := by decide +kernel
theorem r_ruled {r F : Nat} {i1 : Int32} {τ υ : mm_S} (hr : r ≤ 6) (T : FT (r + 1) F τ υ) : f_X10_ruled_35 214 i1 0 (-2) (Int32.ofNat r) υ = some (if i1 = 0 then Int32.ofNat (pc7 F) else lw F 0, υ) := by
  obtain ⟨h1, h2, -⟩ := T
  have F128 : F < 128 := Nat.lt_of_lt_of_le h1 (Nat.pow_le_pow_right (by omega) (show r + 1 ≤ 7 by omega))
  have z : F / 2 ^ (r + 1) = 0 := Nat.div_eq_of_lt h1
  unfold f_X10_ruled_35
  refine wp_eq (wp_lp (fun m v υ' => υ' = υ ∧ m ≤ r + 1 ∧ v = (Int32.ofNat (pc7 (F / 2 ^ m)), lw F m, vz m)) ?_ lpN (r + 1) _ _ (Nat.lt_of_le_of_lt (show r + 1 ≤ 7 by omega) (by decide)) ⟨rfl, Nat.le_refl _, ?_⟩)
  · rintro m rec v υ' ⟨rfl, hm, rfl⟩ hrec
    cases m with
    | zero =>
      simp only [vz_0]
      rw [if_pos (by decide)]
      by_cases c : i1 = 0
      · rw [if_pos c, if_pos c, wp_some, show (2 : Nat) ^ 0 = 1 from rfl, Nat.div_one]
      · rw [if_neg c, if_neg c, wp_some]
    | succ m =>
      simp only [vz_s]
      rw [if_neg (n_neg (by omega)), gd_n (by omega) (by omega), n_idx (by omega), h2 m (by omega), lt_eq, lt_eq, lt_eq, lt_eq]
      have e : Int32.ofNat m + Int32.ofInt (-1) = vz m := by unfold vz; rw [Int32.sub_eq_add_neg]; rfl
      have p1 := pc7_s F F128 m (by omega)
      have p2 := lw_s F F128 m (by omega)
      by_cases c : bt (Int32.ofNat F) m = 0
      · rw [if_pos c] at p1 p2
        rw [if_pos c, e]
        exact hrec m _ _ (by omega) ⟨rfl, by omega, by rw [p1, p2]⟩
      · rw [if_neg c] at p1 p2
        rw [if_neg c, e]
        exact hrec m _ _ (by omega) ⟨rfl, by omega, by rw [p1, p2]; rfl⟩
  · rw [vz_s]; unfold lw; rw [z, if_pos rfl]; rfl
theorem m_ruled (i : Int32) : RM (f_X9_ruled 0 i) (f_X10_ruled 214 i) := by
  intro σ ρ H
  obtain ⟨r, n, h, m, Y⟩ := id H
  unfold f_X9_ruled f_X10_ruled
  rcases RY_hs Y with ⟨s1, s2⟩ | ⟨s1, s2⟩
  · rw [show σ.1 (26 + 1) 0 = 0 from s1, if_pos rfl, r_isHouse0 s2, bd_s, if_pos rfl, wp_some, wp_some]; exact ⟨rfl, H⟩
  · rw [show σ.1 (26 + 1) 0 = 1 from s1, if_neg (show ¬ ((1 : Int32) = 0) by decide), r_isHouse1 s2, bd_s, if_neg (show ¬ ((1 : Int32) = 0) by decide)]
    rcases in_cases 0 1 (by omega) (by omega) i with ⟨w, _, hw, rfl⟩ | c
    · obtain ⟨F, τ, υ, e1, e2, g, us, T⟩ := h_fits Y
      have fin : RZ τ υ := ⟨r, n, h, m, RY_back Y g us⟩
      have hr := Y.2.2.1.1
      have er : υ.1 214 2 = Int32.ofNat r := (us.2.1 _ _ (by unfold rT rS; omega)).trans Y.2.2.1.2.2.1
      have F128 : F < 128 := Nat.lt_of_lt_of_le T.1 (Nat.pow_le_pow_right (by omega) (show r + 1 ≤ 7 by omega))
      rw [r_in1 (a := 0) (b := 1) (by omega) (by omega) hw, bd_s, if_neg (show ¬ ((1 : Int32) = 0) by decide), e2, bv_s, lt_eq, er, r_ruled hr T]
      rw [if_neg (n_neg (by omega)), if_pos (show Int32.ofNat w ≤ 1 by rw [show (1 : Int32) = Int32.ofNat 1 from rfl, n_le (by omega) (by omega)]; exact hw), e1, bd_s]
      by_cases cw : Int32.ofNat w = 0
      · rw [if_pos cw, if_pos cw, x_bits, bd_s, wp_some, wp_some]; exact ⟨bc_7 F F128, fin⟩
      · rw [if_neg cw, if_neg cw]
        unfold lw
        rw [show (2 : Nat) ^ 0 = 1 from rfl, Nat.div_one, Nat.mul_one]
        by_cases cf : F = 0
        · rw [if_pos ((n_zero (by omega)).mpr cf), if_pos cf, wp_some, wp_some]; exact ⟨rfl, fin⟩
        · rw [if_neg (fun q => cf ((n_zero (by omega)).mp q)), if_neg cf, x_ntz, bd_s, wp_some, wp_some]; exact ⟨rfl, fin⟩
    · rw [r_in0 (a := 0) (b := 1) (by omega) (by omega) c, bd_s, if_pos rfl]
      rw [show (0 : Int32) = Int32.ofNat 0 from rfl, show (1 : Int32) = Int32.ofNat 1 from rfl, rng_b c, wp_some, wp_some]; exact ⟨rfl, H⟩
/-! how many go alike -/
def cj (g : Nat → Bool) : Nat → Nat
  | 0 => 0
  | n + 1 => if g n then cj g n + 1 else cj g n
theorem cj_le (g : Nat → Bool) : ∀ n, cj g n ≤ n
  | 0 => Nat.le_refl _
  | n + 1 => by have := cj_le g n; show (if g n then cj g n + 1 else cj g n) ≤ n + 1; split <;> omega
theorem cj_0 {g : Nat → Bool} : ∀ n, (∀ j, j < n → g j = false) → cj g n = 0
  | 0, _ => rfl
  | n + 1, h => by show (if g n then cj g n + 1 else cj g n) = 0; rw [h n (by omega), cj_0 n (fun j hj => h j (by omega))]; rfl
theorem cj_1 {g : Nat → Bool} {j : Nat} (hj : g j = true) : ∀ n, j < n → 0 < cj g n
  | 0, h => by omega
  | n + 1, h => by
    show 0 < (if g n then cj g n + 1 else cj g n)
    by_cases c : g n = true
    · rw [if_pos c]; omega
    · rw [if_neg c]; refine cj_1 hj n ?_
      rcases Nat.lt_or_ge j n with q | q
      · exact q
      · rw [show j = n by omega] at hj; exact absurd hj c
def mx (c : Nat → Nat) : Nat → Nat
  | 0 => 0
  | n + 1 => if mx c n < c n then c n else mx c n
theorem mx_le {c : Nat → Nat} {B : Nat} (h : ∀ k, c k ≤ B) : ∀ n, mx c n ≤ B
  | 0 => Nat.zero_le _
  | n + 1 => by show (if mx c n < c n then c n else mx c n) ≤ B; split; exact h n; exact mx_le h n
theorem mx_ge {c : Nat → Nat} {k : Nat} : ∀ n, k < n → c k ≤ mx c n
  | 0, h => by omega
  | n + 1, h => by
    show c k ≤ (if mx c n < c n then c n else mx c n)
    by_cases q : k = n
    · subst q; split <;> omega
    · have := mx_ge (c := c) (k := k) n (by omega)
      split <;> omega
theorem mx_0 {c : Nat → Nat} : ∀ n, (∀ k, k < n → c k = 0) → mx c n = 0
  | 0, _ => rfl
  | n + 1, h => by show (if mx c n < c n then c n else mx c n) = 0; rw [h n (by omega), mx_0 n (fun j hj => h j (by omega))]; rfl
def gk (F : Nat) (S : Nat → Int32) (k j : Nat) : Bool := decide (bt (Int32.ofNat F) k = 1 ∧ bt (Int32.ofNat F) j = 1 ∧ S k = S j)
/-- how many go alike at most -/
def AK (r F : Nat) (S : Nat → Int32) : Nat := mx (fun k => cj (gk F S k) (r + 1)) (r + 1)
theorem AK_le (r F : Nat) (S : Nat → Int32) : AK r F S ≤ r + 1 := mx_le (fun k => cj_le _ _) _
theorem AK_0 {r F : Nat} {S : Nat → Int32} (hr : r ≤ 6) (hF : F < 2 ^ (r + 1)) : AK r F S = 0 ↔ F = 0 := by
  have F128 : F < 128 := Nat.lt_of_lt_of_le hF (Nat.pow_le_pow_right (by omega) (show r + 1 ≤ 7 by omega))
  constructor
  · intro e
    by_cases c : F = 0
    · exact c
    · obtain ⟨l, hl, q⟩ := bt_zero7 F F128 c
      have hlr : l < r + 1 := by
        rcases Nat.lt_or_ge l (r + 1) with q' | q'
        · exact q'
        · rw [bt_hi7 F F128 l hl (Nat.lt_of_lt_of_le hF (Nat.pow_le_pow_right (by omega) q'))] at q; exact absurd q (by decide)
      have h1 := mx_ge (c := fun k => cj (gk F S k) (r + 1)) (k := l) (r + 1) hlr
      have h2 : 0 < cj (gk F S l) (r + 1) := cj_1 (j := l) (decide_eq_true ⟨q, q, rfl⟩) _ hlr
      unfold AK at e; omega
  · rintro rfl
    refine mx_0 _ (fun k hk => cj_0 _ (fun j hj => decide_eq_false (fun q => ?_)))
    rw [bt_one7 k (by omega)] at q; exact absurd q.1 (by decide)
theorem bt_is {F k : Nat} : (((Int32.ofNat F >>> (Int32.ofNat k &&& 31)) &&& (1 : Int32)) = (1 : Int32)) ↔ bt (Int32.ofNat F) k = 1 := by
  unfold bt; split
  · rename_i q; exact ⟨fun _ => rfl, fun _ => q⟩
  · rename_i q; exact ⟨fun e => absurd e q, fun e => absurd e (by decide)⟩
theorem x_alike {r F at' : Nat} {τ : mm_S} (hr : r ≤ 6) (e4 : τ.1 0 4 = Int32.ofNat r) (ha : at' < 61) : f_X9_mostAlike 0 (Int32.ofNat F) (Int32.ofNat at') τ = some (Int32.ofNat (AK r F (fun k => τ.1 213 (61 * k + at'))), τ) := by
  unfold f_X9_mostAlike f_X9_mostAlike_5
  refine wp_eq (wp_lp (fun m v τ' => τ' = τ ∧ ∃ k, k ≤ r + 1 ∧ m = r + 1 - k ∧ v = (Int32.ofNat (mx (fun k => cj (gk F (fun k => τ.1 213 (61 * k + at')) k) (r + 1)) k), Int32.ofNat k)) ?_ lpN (r + 1) _ _ (Nat.lt_of_le_of_lt (show r + 1 ≤ 7 by omega) (by decide)) ⟨rfl, 0, by omega, by omega, rfl⟩)
  rintro m rec v τ' ⟨rfl, k, hk, rfl, rfl⟩ hrec
  simp (disch := omega) only [e4, n_lt]
  by_cases ck : r < k
  · rw [if_pos ck, wp_some, show k = r + 1 by omega]; rfl
  · rw [if_neg ck]
    unfold f_X9_mostAlike_20
    refine wp_lp (fun m v τ'' => τ'' = τ' ∧ ∃ j, j ≤ r + 1 ∧ m = r + 1 - j ∧ v = (Int32.ofNat (cj (gk F (fun k => τ'.1 213 (61 * k + at')) k) j), Int32.ofNat j)) ?_ lpN (r + 1) _ _ (Nat.lt_of_le_of_lt (show r + 1 ≤ 7 by omega) (by decide)) ⟨rfl, 0, by omega, by omega, rfl⟩
    rintro m rec2 v τ'' ⟨rfl, j, hj, rfl, rfl⟩ hrec2
    have b1 := mx_le (c := fun k => cj (gk F (fun k => τ''.1 213 (61 * k + at')) k) (r + 1)) (B := r + 1) (fun k => cj_le _ _) k
    have b2 := cj_le (gk F (fun k => τ''.1 213 (61 * k + at')) k) j
    simp (disch := omega) only [e4, n_lt, lt_eq, n_addI]
    by_cases cj' : r < j
    · rw [if_pos cj']
      have ej : j = r + 1 := by omega
      subst ej
      refine hrec (r + 1 - (k + 1)) _ _ (by omega) ⟨rfl, k + 1, by omega, rfl, ?_⟩
      show _ = (Int32.ofNat (if _ < _ then _ else _), _)
      split <;> rfl
    · rw [if_neg cj']
      have st : ∀ b, gk F (fun k => τ''.1 213 (61 * k + at')) k j = b → wp (rec2 (Int32.ofNat (if b then cj (gk F (fun k => τ''.1 213 (61 * k + at')) k) j + 1 else cj (gk F (fun k => τ''.1 213 (61 * k + at')) k) j), Int32.ofNat (j + 1)) τ'') (fun r_1 => r_1 = (Int32.ofNat (AK r F fun k => τ''.1 213 (61 * k + at')), τ'')) := fun b hb =>
        hrec2 (r + 1 - (j + 1)) _ _ (by omega) ⟨rfl, j + 1, by omega, rfl, by rw [← hb]; rfl⟩
      unfold f_X9_mostAlike_54
      have j1 : k * 61 + at' = 61 * k + at' := by omega
      have j2 : j * 61 + at' = 61 * j + at' := by omega
      rw [show (61 : Int32) = Int32.ofNat 61 from rfl]
      simp (disch := omega) only [n_mul, n_add, gd_n, n_idx, lt_eq, n_addI, j1, j2]
      by_cases c1 : bt (Int32.ofNat F) k = 1
      · rw [if_pos (bt_is.mpr c1)]
        by_cases c2 : bt (Int32.ofNat F) j = 1
        · rw [if_pos (bt_is.mpr c2), if_neg (show ¬ ((1 : Int32) = 0) by decide)]
          by_cases c3 : τ''.1 213 (61 * k + at') = τ''.1 213 (61 * j + at')
          · rw [if_pos c3]; exact st true (decide_eq_true ⟨c1, c2, c3⟩)
          · rw [if_neg c3]; exact st false (decide_eq_false (fun q => c3 q.2.2))
        · rw [if_neg (fun q => c2 (bt_is.mp q)), if_pos trivial]; exact st false (decide_eq_false (fun q => c2 q.2.1))
      · rw [if_neg (fun q => c1 (bt_is.mp q)), if_pos trivial]; exact st false (decide_eq_false (fun q => c1 q.1))
