/-! what the codes mean on both sides -/
theorem n_15 {n : Nat} (h : n < 2147483648) : Int32.ofNat n &&& 15 = Int32.ofNat (n % 16) := by
  apply Int32.toBitVec_inj.mp
  rw [Int32.toBitVec_and]
  apply BitVec.eq_of_toNat_eq
  have h1 : (Int32.ofNat n).toBitVec.toNat = n := Nat.mod_eq_of_lt (by omega)
  have h2 : (Int32.ofNat (n % 16)).toBitVec.toNat = n % 16 := Nat.mod_eq_of_lt (by omega)
  have h3 : (15 : Int32).toBitVec.toNat = 2 ^ 4 - 1 := by decide
  rw [h2, BitVec.toNat_and, h1, h3, Nat.and_two_pow_sub_one_eq_mod]
theorem n_sr4 {n : Nat} (h : n < 2147483648) : Int32.ofNat n >>> ((4 : Int32) &&& 31) = Int32.ofNat (n / 16) := by
  rw [← Int32.toInt_inj, n_int (by omega)]
  show ((Int32.ofNat n).toBitVec.sshiftRight' (((4 : Int32) &&& 31).toBitVec.smod 32)).toInt = _
  rw [show (((4 : Int32) &&& 31).toBitVec.smod 32) = 4#32 by decide, BitVec.sshiftRight_eq', BitVec.toInt_sshiftRight, show (4#32).toNat = 4 by decide]
  have e : (Int32.ofNat n).toBitVec.toInt = (n : Int) := n_int h
  rw [e, Int.shiftRight_eq_div_pow]
  omega
theorem jn_x (c : Int32) (x y : Int64) (σ : mm_S) (h : 20 ≤ c ∧ c ≤ 32) (h30 : c ≠ 30) : f_X7_joined c x y σ = some (jn c x y, σ) := by
  obtain ⟨k, hk, rfl⟩ : ∃ k, (20 ≤ k ∧ k ≤ 32) ∧ c = Int32.ofNat k := by
    rw [Int32.le_iff_toInt_le, Int32.le_iff_toInt_le, show (20 : Int32).toInt = 20 by decide, show (32 : Int32).toInt = 32 by decide] at h
    exact ⟨c.toInt.toNat, by omega, by rw [← Int32.toInt_inj, n_int (by omega)]; omega⟩
  have : k = 20 ∨ k = 21 ∨ k = 22 ∨ k = 23 ∨ k = 24 ∨ k = 25 ∨ k = 26 ∨ k = 27 ∨ k = 28 ∨ k = 29 ∨ k = 30 ∨ k = 31 ∨ k = 32 := by omega
  have a1 : (0 ≤ lg_cmp x y) ↔ ¬ (x < y) := by rw [← (l_cmp x y).1, Int32.not_lt]
  have a2 : (lg_cmp x y ≤ 0) ↔ ¬ (y < x) := by rw [← (l_cmp x y).2.1, Int32.not_lt]
  unfold f_X7_joined jn
  simp only [(l_cmp _ _).2.2, (l_cmp _ _).2.1, (l_cmp _ _).1, a1, a2]
  rcases this with rfl | rfl | rfl | rfl | rfl | rfl | rfl | rfl | rfl | rfl | rfl | rfl | rfl
  · rfl
  · rfl
  · rfl
  · simp only [show (Int32.ofNat 23 = 20) = False from eq_false (by decide), show (Int32.ofNat 23 = 21) = False from eq_false (by decide), show (Int32.ofNat 23 = 22) = False from eq_false (by decide), show (Int32.ofNat 23 = 23) = True from eq_true (by decide), if_true, if_false]
    by_cases c : y = 0
    · rw [if_pos c, if_pos c]
    · rw [if_neg c, if_neg c]; unfold gl; rw [if_neg c]
  · simp only [show (Int32.ofNat 24 = 20) = False from eq_false (by decide), show (Int32.ofNat 24 = 21) = False from eq_false (by decide), show (Int32.ofNat 24 = 22) = False from eq_false (by decide), show (Int32.ofNat 24 = 23) = False from eq_false (by decide), show (Int32.ofNat 24 = 24) = True from eq_true (by decide), if_true, if_false]
    by_cases c : y = 0
    · rw [if_pos c, if_pos c]
    · rw [if_neg c, if_neg c]; unfold gl; rw [if_neg c]
  · show (if ¬ (x < y) then some ((0 : Int64), σ) else some (1, σ)) = some (if x < y then 1 else 0, σ)
    by_cases c : x < y <;> simp [c]
  · show (if y < x then some ((0 : Int64), σ) else some (1, σ)) = some (if y < x then 0 else 1, σ)
    by_cases c : y < x <;> simp [c]
  · show (if x = y then some ((1 : Int64), σ) else some (0, σ)) = some (if x = y then 1 else 0, σ)
    by_cases c : x = y <;> simp [c]
  · show (if x < y then some ((0 : Int64), σ) else some (1, σ)) = some (if x < y then 0 else 1, σ)
    by_cases c : x < y <;> simp [c]
  · show (if ¬ (y < x) then some ((0 : Int64), σ) else some (1, σ)) = some (if y < x then 1 else 0, σ)
    by_cases c : y < x <;> simp [c]
  · exact absurd rfl h30
  · rfl
  · rfl
theorem jn_r (c : Int32) (x y : Int64) (σ : mm_S) (h : 20 ≤ c ∧ c ≤ 32) (h30 : c ≠ 30) : f_X10_one (en c) x y σ = some (jn c x y, σ) ∧ ∃ s, s < 16 ∧ en c = Int32.ofNat s ∧ s ≠ 0 ∧ s ≠ 1 ∧ s ≠ 11 := by
  obtain ⟨k, hk, rfl⟩ : ∃ k, (20 ≤ k ∧ k ≤ 32) ∧ c = Int32.ofNat k := by
    rw [Int32.le_iff_toInt_le, Int32.le_iff_toInt_le, show (20 : Int32).toInt = 20 by decide, show (32 : Int32).toInt = 32 by decide] at h
    exact ⟨c.toInt.toNat, by omega, by rw [← Int32.toInt_inj, n_int (by omega)]; omega⟩
  have : k = 20 ∨ k = 21 ∨ k = 22 ∨ k = 23 ∨ k = 24 ∨ k = 25 ∨ k = 26 ∨ k = 27 ∨ k = 28 ∨ k = 29 ∨ k = 30 ∨ k = 31 ∨ k = 32 := by omega
  have a1 : (0 ≤ lg_cmp x y) ↔ ¬ (x < y) := by rw [← (l_cmp x y).1, Int32.not_lt]
  have a2 : (lg_cmp x y ≤ 0) ↔ ¬ (y < x) := by rw [← (l_cmp x y).2.1, Int32.not_lt]
  unfold f_X10_one jn
  simp only [(l_cmp _ _).2.2, (l_cmp _ _).2.1, (l_cmp _ _).1, a1, a2]
  rcases this with rfl | rfl | rfl | rfl | rfl | rfl | rfl | rfl | rfl | rfl | rfl | rfl | rfl
  · exact ⟨rfl, 2, by decide⟩
  · exact ⟨rfl, 3, by decide⟩
  · exact ⟨rfl, 4, by decide⟩
  · refine ⟨?_, 5, by decide⟩
    show (if y = 0 then some ((0 : Int64), σ) else gl y (some (x / y, σ))) = some (if y = 0 then 0 else x / y, σ)
    by_cases c : y = 0
    · rw [if_pos c, if_pos c]
    · rw [if_neg c, if_neg c]; unfold gl; rw [if_neg c]
  · refine ⟨?_, 14, by decide⟩
    show (if y = 0 then some ((0 : Int64), σ) else gl y (some (x - x / y * y, σ))) = some (if y = 0 then 0 else x - x / y * y, σ)
    by_cases c : y = 0
    · rw [if_pos c, if_pos c]
    · rw [if_neg c, if_neg c]; unfold gl; rw [if_neg c]
  · refine ⟨?_, 6, by decide⟩
    show (if ¬ (x < y) then some ((0 : Int64), σ) else some (1, σ)) = some (if x < y then 1 else 0, σ)
    by_cases c : x < y <;> simp [c]
  · refine ⟨?_, 7, by decide⟩
    show (if y < x then some ((0 : Int64), σ) else some (1, σ)) = some (if y < x then 0 else 1, σ)
    by_cases c : y < x <;> simp [c]
  · refine ⟨?_, 8, by decide⟩
    show (if x = y then some ((1 : Int64), σ) else some (0, σ)) = some (if x = y then 1 else 0, σ)
    by_cases c : x = y <;> simp [c]
  · refine ⟨?_, 9, by decide⟩
    show (if x < y then some ((0 : Int64), σ) else some (1, σ)) = some (if x < y then 0 else 1, σ)
    by_cases c : x < y <;> simp [c]
  · refine ⟨?_, 10, by decide⟩
    show (if ¬ (y < x) then some ((0 : Int64), σ) else some (1, σ)) = some (if y < x then 1 else 0, σ)
    by_cases c : y < x <;> simp [c]
  · exact absurd rfl h30
  · exact ⟨rfl, 12, by decide⟩
  · exact ⟨rfl, 13, by decide⟩
/-! rows of longs -/
def STC (c : Nat) (σ : mm_S) : List Int64 → Prop
  | [] => True
  | x :: S => σ.2.1 c S.length = x ∧ STC c σ S
theorem STC_keep {c : Nat} {σ τ : mm_S} : ∀ {S : List Int64}, (∀ i, i < S.length → τ.2.1 c i = σ.2.1 c i) → STC c σ S → STC c τ S
  | [], _, _ => trivial
  | x :: S, h, T => ⟨(h _ (by rw [List.length_cons]; omega)).trans T.1, STC_keep (fun i hi => h i (by rw [List.length_cons]; omega)) T.2⟩
theorem STC_push {c : Nat} {σ : mm_S} {S : List Int64} (T : STC c σ S) (x : Int64) : STC c (su_j σ c S.length x) (x :: S) :=
  ⟨by rw [rd_jj, if_pos ⟨rfl, rfl⟩], STC_keep (fun i hi => by rw [rd_jj, if_neg (by omega)]) T⟩
def wF (a0 : Nat) (k4 : (Int32 × Int32) → mm_S → Option (Int64 × mm_S)) (v : Int32 × Int32) (σ : mm_S) : Option (Int64 × mm_S) :=
    gz (decide ((mm_K σ.2.2).1 = 5)) <|
    if (σ.1 σ.2.2 1) ≤ v.2 then
      some ((0 : Int64), σ)
    else
      gz (decide ((mm_K σ.2.2).1 = 5)) <|
      if (Int32.ofNat 400) ≤ v.2 then
        some ((0 : Int64), σ)
      else
        gz (decide ((mm_K σ.2.2).1 = 5)) <|
        gd v.2 400 <|
        lt ((σ.1 (σ.2.2 + 1) v.2.toNatClampNeg)) fun x56 =>
        if x56 < (40 : Int32) then
          f_X7_worthByRule_66 k4 a0 v.1 v.2 x56 σ
        else
          if (48 : Int32) ≤ v.1 then
            f_X7_worthByRule_66 k4 a0 v.1 v.2 x56 σ
          else
            gd v.1 48 <|
            lt (su_j σ 210 v.1.toNatClampNeg ((x56 - (40 : Int32)) : Int32).toInt64) fun σ61 =>
            lt (v.1 + Int32.ofInt (1)) fun x63 =>
            lt (v.2 + Int32.ofInt (1)) fun x65 =>
            k4 (x63, x65) σ61
theorem wor_eq (σ : mm_S) : f_X7_worthByRule 200 σ = lp lpN (wF 200) (0, 0) σ := by
  unfold f_X7_worthByRule f_X7_worthByRule_4; exact congrFun (congrFun (congrArg (lp lpN) (funext fun k => funext fun v => funext fun σ => rfl)) (0, 0)) σ
/-- same but for the row of longs c -/
def SL (c : Nat) (σ τ : mm_S) : Prop := τ.1 = σ.1 ∧ τ.2.2 = σ.2.2 ∧ ∀ a i, a ≠ c → τ.2.1 a i = σ.2.1 a i
theorem SL_trans {c : Nat} {σ τ υ : mm_S} (h : SL c σ τ) (h' : SL c τ υ) : SL c σ υ := ⟨h'.1.trans h.1, h'.2.1.trans h.2.1, fun a i q => (h'.2.2 a i q).trans (h.2.2 a i q)⟩
theorem SL_j (c i : Nat) (σ : mm_S) (x : Int64) : SL c σ (su_j σ c i x) := ⟨rfl, rfl, fun a j q => by rw [rd_jj, if_neg (by omega)]⟩
theorem lp_so {V ρ : Type} {F : (V → mm_S → Option ρ) → V → mm_S → Option ρ} (n : Nat) (v : V) (σ : mm_S) : lp (n + 1) F v σ = F (lp n F) v σ := rfl
theorem x_one {w : Nat → Int64} {c : Int32} {S S' : List Int64} {a k len n : Nat} {σ : mm_S} (hc : cst w 48 c S = some S') (h2 : σ.2.2 = a) (hK : (mm_K a).1 = 5) (hl : σ.1 a 1 = Int32.ofNat len) (hlen : len ≤ 400) (hk : k < len) (ec : σ.1 (a + 1) k = c)
    (hS : S.length ≤ 48) (T : STC 210 σ S) (hw : ∀ i, i < 13 → σ.2.1 209 i = w i) :
    ∃ σ', lp (n + 1) (wF 200) (Int32.ofNat S.length, Int32.ofNat k) σ = lp n (wF 200) (Int32.ofNat S'.length, Int32.ofNat (k + 1)) σ' ∧ STC 210 σ' S' ∧ SL 210 σ σ' ∧ S'.length ≤ 48 := by
  rw [lp_so, wF]
  have z : ∀ y : Option (Int64 × mm_S), gz (decide ((mm_K σ.2.2).1 = 5)) y = y := fun y => by unfold gz; rw [h2, if_pos (decide_eq_true hK)]
  rw [z, z, z, h2, hl]
  dsimp only
  simp (disch := omega) only [n_le]
  rw [if_neg (by omega), if_neg (by omega), gd_n (by omega) (by omega), n_idx (by omega), lt_eq, ec]
  unfold cst at hc
  by_cases c0 : c < 0 ∨ 100040 ≤ c
  · rw [if_pos c0] at hc; exact absurd hc (by simp)
  · rw [if_neg c0] at hc
    have cneg : ¬ (c < 0) := fun q => c0 (Or.inl q)
    by_cases c40 : 40 ≤ c
    · rw [if_pos c40] at hc
      by_cases cB : S.length < 48
      · rw [if_pos cB] at hc
        cases hc
        rw [if_neg (by rw [Int32.not_lt]; exact c40), show (48 : Int32) = Int32.ofNat 48 from rfl]
        simp (disch := omega) only [n_le]
        rw [if_neg (by omega), gd_n (by omega) (by omega), n_idx (by omega), lt_eq, lt_eq, lt_eq, n_addI, n_addI]
        exact ⟨_, rfl, STC_push T _, SL_j _ _ _ _, by rw [List.length_cons]; omega⟩
      · rw [if_neg cB] at hc; exact absurd hc (by simp)
    · rw [if_neg c40] at hc
      rw [if_pos (by rw [Int32.not_le] at c40; exact c40)]
      unfold f_X7_worthByRule_66
      rw [if_neg cneg]
      by_cases c13 : c < 13
      · rw [if_pos c13] at hc
        by_cases cB : S.length < 48
        · rw [if_pos cB] at hc
          cases hc
          obtain ⟨j, hj, rfl⟩ : ∃ j, j < 13 ∧ c = Int32.ofNat j := by
            rw [Int32.lt_iff_toInt_lt, show (13 : Int32).toInt = 13 by decide] at c13
            rw [Int32.lt_iff_toInt_lt, show (0 : Int32).toInt = 0 by decide] at cneg
            exact ⟨c.toInt.toNat, by omega, by rw [← Int32.toInt_inj, n_int (by omega)]; omega⟩
          rw [show (48 : Int32) = Int32.ofNat 48 from rfl, show (13 : Int32) = Int32.ofNat 13 from rfl]
          simp (disch := omega) only [n_le]
          rw [if_neg (by omega), if_neg (by omega), gd_n (by omega) (by omega), gd_n (by omega) (by omega), n_idx (by omega), n_idx (by omega), lt_eq, lt_eq, lt_eq, n_addI, n_addI, hw j hj]
          exact ⟨_, rfl, STC_push T _, SL_j _ _ _ _, by rw [List.length_cons]; omega⟩
        · rw [if_neg cB] at hc; exact absurd hc (by simp)
      · rw [if_neg c13] at hc
        rw [if_pos (by rw [Int32.not_lt] at c13; exact c13)]
        unfold f_X7_worthByRule_100 f_X7_worthByRule_120 f_X7_worthByRule_154
        by_cases c30 : c = 30
        · rw [if_pos c30] at hc
          match S, hS, T, hc with
          | x :: S1, hS, T, hc =>
            cases hc
            rw [List.length_cons] at hS
            rw [c30, if_neg (by decide), if_neg (by decide), if_pos rfl, List.length_cons, show (1 : Int32) = Int32.ofNat 1 from rfl, if_neg (by rw [n_lt (by omega) (by omega)]; omega), n_sub (by omega), Nat.add_sub_cancel, gd_n (by omega) (by omega), gd_n (by omega) (by omega), n_idx (by omega), lt_eq, lt_eq, n_addI, T.1]
            exact ⟨_, rfl, STC_push T.2 _, SL_j _ _ _ _, by rw [List.length_cons]; omega⟩
        · rw [if_neg c30] at hc
          by_cases cr : 20 ≤ c ∧ c ≤ 32
          · rw [if_pos cr] at hc
            match S, hS, T, hc with
            | y :: x :: S1, hS, T, hc =>
              cases hc
              rw [List.length_cons, List.length_cons] at hS
              have n33 : ¬ (c = 33) := fun q => by rw [q] at cr; exact absurd cr.2 (by decide)
              have n34 : ¬ (c = 34) := fun q => by rw [q] at cr; exact absurd cr.2 (by decide)
              unfold f_X7_worthByRule_186
              rw [if_neg n33, if_neg n34, if_neg c30, List.length_cons, List.length_cons, show (2 : Int32) = Int32.ofNat 2 from rfl, if_neg (by rw [n_lt (by omega) (by omega)]; omega), n_subI (by omega), lt_eq, show S1.length + 1 + 1 - 1 = S1.length + 1 by omega, show (1 : Int32) = Int32.ofNat 1 from rfl, n_sub (by omega), Nat.add_sub_cancel, gd_n (by omega) (by omega), gd_n (by omega) (by omega), n_idx (by omega), n_idx (by omega), show σ.2.1 210 S1.length = x from T.2.1, show σ.2.1 210 (S1.length + 1) = y from T.1, jn_x c x y σ cr c30, bd_s, gd_n (by omega) (by omega), lt_eq, lt_eq, n_addI]
              exact ⟨_, rfl, STC_push T.2.2 _, SL_j _ _ _ _, by rw [List.length_cons]; omega⟩
          · rw [if_neg cr] at hc; exact absurd hc (by simp)
theorem x_run {w : Nat → Int64} {a len : Nat} (hK : (mm_K a).1 = 5) (hlen : len ≤ 400) : ∀ (l : List Int32) (S S' : List Int64) (k n : Nat) (σ : mm_S), crn w 48 l S = some S' → σ.2.2 = a → σ.1 a 1 = Int32.ofNat len → k + l.length ≤ len → (∀ i, i < l.length → σ.1 (a + 1) (k + i) = l.getD i 0) → S.length ≤ 48 → STC 210 σ S → (∀ i, i < 13 → σ.2.1 209 i = w i) →
    ∃ σ', lp (n + l.length) (wF 200) (Int32.ofNat S.length, Int32.ofNat k) σ = lp n (wF 200) (Int32.ofNat S'.length, Int32.ofNat (k + l.length)) σ' ∧ STC 210 σ' S' ∧ SL 210 σ σ' ∧ S'.length ≤ 48
  | [], S, S', k, n, σ, hc, _, _, _, _, hS, T, _ => by
    cases hc
    exact ⟨σ, rfl, T, ⟨rfl, rfl, fun _ _ _ => rfl⟩, hS⟩
  | c :: l, S, S', k, n, σ, hc, h2, hl, hk, hcode, hS, T, hw => by
    have hc' : (cst w 48 c S).bind (crn w 48 l) = some S' := hc
    match e : cst w 48 c S, hc' with
    | some S1, hc' =>
      rw [List.length_cons] at hk
      have ec : σ.1 (a + 1) k = c := hcode 0 (by rw [List.length_cons]; omega)
      obtain ⟨σ1, e1, T1, L1, hS1⟩ := x_one (n := n + l.length) e h2 hK hl hlen (by omega) ec hS T hw
      obtain ⟨σ2, e2, T2, L2, hS2⟩ := x_run hK hlen l S1 S' (k + 1) n σ1 hc' (L1.2.1.trans h2) (by rw [L1.1]; exact hl) (by omega) (fun i hi => by rw [L1.1, Nat.add_assoc, Nat.add_comm 1 i]; exact hcode (i + 1) (by rw [List.length_cons]; omega)) hS1 T1 (fun i hi => by rw [L1.2.2 _ _ (by omega)]; exact hw i hi)
      refine ⟨σ2, ?_, T2, SL_trans L1 L2, hS2⟩
      rw [List.length_cons, show n + (l.length + 1) = n + l.length + 1 from rfl, e1, e2, show k + 1 + l.length = k + (l.length + 1) by omega]
