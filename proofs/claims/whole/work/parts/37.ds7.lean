/-! the reference's codes; all clauses: RULES mean the same -/
def rkF (i1 i3 : Int32) (k8 : Int32 → mm_S → Option (Int64 × mm_S)) (v : Int32) (σ : mm_S) : Option (Int64 × mm_S) :=
    if i3 ≤ v then
      bd (f_X10_pop 214 σ) fun r4 σ3 =>
      some (r4, σ3)
    else
      gd (((400 : Int32) * i1) + v) 2400 <|
      lt (((σ.1 216 (((400 : Int32) * i1) + v).toNatClampNeg) &&& (15 : Int32))) fun x6 =>
      gd (((400 : Int32) * i1) + v) 2400 <|
      lt (((σ.1 216 (((400 : Int32) * i1) + v).toNatClampNeg) >>> ((4 : Int32) &&& 31))) fun x9 =>
      if x6 = 0 then
        bv (f_X10_push 214 (x9 : Int32).toInt64 σ) fun σ40 =>
        lt (v + Int32.ofInt (1)) fun x41 =>
        k8 x41 σ40
      else
        if x6 = (1 : Int32) then
          gd x9 13 <|
          bv (f_X10_push 214 (σ.2.1 223 x9.toNatClampNeg) σ) fun σ36 =>
          lt (v + Int32.ofInt (1)) fun x37 =>
          k8 x37 σ36
        else
          if x6 = (11 : Int32) then
            bd (f_X10_pop 214 σ) fun r29 σ28 =>
            bv (f_X10_push 214 ((1 : Int64) - r29) σ28) fun σ31 =>
            lt (v + Int32.ofInt (1)) fun x32 =>
            k8 x32 σ31
          else
            bd (f_X10_pop 214 σ) fun r16 σ15 =>
            bd (f_X10_pop 214 σ15) fun r19 σ18 =>
            bd (f_X10_one x6 r19 r16 σ18) fun r22 σ21 =>
            bv (f_X10_push 214 r22 σ21) fun σ24 =>
            lt (v + Int32.ofInt (1)) fun x25 =>
            k8 x25 σ24
theorem rec_eq (i1 i2 i3 : Int32) (ρ : mm_S) : f_X10_reckons 214 i1 i2 i3 ρ = lp lpN (rkF i1 i3) i2 (su_i ρ 214 18 0) := by
  unfold f_X10_reckons f_X10_reckons_8; rw [lt_eq]; exact congrFun (congrFun (congrArg (lp lpN) (funext fun k => funext fun v => funext fun σ => rfl)) i2) _
/-- same but for the row of longs 222 and its height -/
def SR (σ τ : mm_S) : Prop := (∀ a k, ¬ (a = 214 ∧ k = 18) → τ.1 a k = σ.1 a k) ∧ ∀ i, τ.2.1 223 i = σ.2.1 223 i
theorem SR_trans {σ τ υ : mm_S} (h : SR σ τ) (h' : SR τ υ) : SR σ υ := ⟨fun a k q => (h'.1 a k q).trans (h.1 a k q), fun i => (h'.2 i).trans (h.2 i)⟩
def RS (ρ : mm_S) (S : List Int64) : Prop := ρ.1 214 18 = Int32.ofNat S.length ∧ STC 222 ρ S ∧ S.length ≤ 64
theorem r_push {S : List Int64} {ρ : mm_S} (h : RS ρ S) (hS : S.length < 64) (x : Int64) : ∃ ρ', f_X10_push 214 x ρ = some ρ' ∧ RS ρ' (x :: S) ∧ SR ρ ρ' := by
  unfold f_X10_push
  rw [h.1, gd_n (by omega) (by omega), n_idx (by omega), lt_eq, lt_eq, rd_ji, h.1, show Int32.ofNat S.length + 1 = Int32.ofNat (S.length + 1) from n_add _ 1]
  refine ⟨_, rfl, ⟨rd_is _ _ _ _, STC_keep (σ := su_j ρ 222 S.length x) (fun i _ => rfl) (STC_push h.2.1 x), by rw [List.length_cons]; omega⟩, fun a k q => by rw [rd_ii, if_neg q, rd_ji], fun i => ?_⟩
  show (su_j ρ 222 S.length x).2.1 223 i = _
  rw [rd_jj, if_neg (by omega)]
theorem r_pop {S : List Int64} {x : Int64} {ρ : mm_S} (h : RS ρ (x :: S)) : ∃ ρ', f_X10_pop 214 ρ = some (x, ρ') ∧ RS ρ' S ∧ SR ρ ρ' := by
  have hl := h.2.2
  rw [List.length_cons] at hl
  unfold f_X10_pop
  rw [h.1, List.length_cons, lt_eq, show (1 : Int32) = Int32.ofNat 1 from rfl, n_sub (by omega), Nat.add_sub_cancel, rd_is, gd_n (by omega) (by omega), n_idx (by omega)]
  refine ⟨su_i ρ 214 18 (Int32.ofNat S.length), ?_, ⟨rd_is _ _ _ _, STC_keep (σ := ρ) (fun i _ => rfl) h.2.1.2, by omega⟩, fun a k q => by rw [rd_ii, if_neg q], fun i => rfl⟩
  show some (ρ.2.1 222 S.length, _) = _
  rw [h.2.1.1]
theorem r_one {w : Nat → Int64} {c : Int32} {S S' : List Int64} {t v e n : Nat} {ρ : mm_S} (hc : cst w 64 c S = some S') (ht : t < 6) (hv : v < e) (he : e ≤ 400) (ec : ρ.1 216 (400 * t + v) = en c) (h : RS ρ S) (hw : ∀ i, i < 13 → ρ.2.1 223 i = w i) :
    ∃ ρ', lp (n + 1) (rkF (Int32.ofNat t) (Int32.ofNat e)) (Int32.ofNat v) ρ = lp n (rkF (Int32.ofNat t) (Int32.ofNat e)) (Int32.ofNat (v + 1)) ρ' ∧ RS ρ' S' ∧ SR ρ ρ' := by
  rw [lp_so, rkF, show (400 : Int32) = Int32.ofNat 400 from rfl, n_mul, n_add, if_neg (by rw [n_le (by omega) (by omega)]; omega), gd_n (by omega) (by omega), lt_eq, gd_n (by omega) (by omega), n_idx (by omega), ec, lt_eq]
  unfold cst at hc
  by_cases c0 : c < 0 ∨ 100040 ≤ c
  · rw [if_pos c0] at hc; exact absurd hc (by simp)
  · rw [if_neg c0] at hc
    have cneg : ¬ (c < 0) := fun q => c0 (Or.inl q)
    have cbig : ¬ (100040 ≤ c) := fun q => c0 (Or.inr q)
    obtain ⟨j, hj, rfl⟩ : ∃ j, j < 100040 ∧ c = Int32.ofNat j := by
      rw [Int32.le_iff_toInt_le, show (100040 : Int32).toInt = 100040 by decide] at cbig
      rw [Int32.lt_iff_toInt_lt, show (0 : Int32).toInt = 0 by decide] at cneg
      exact ⟨c.toInt.toNat, by omega, by rw [← Int32.toInt_inj, n_int (by omega)]; omega⟩
    rw [show (40 : Int32) = Int32.ofNat 40 from rfl, show (13 : Int32) = Int32.ofNat 13 from rfl] at hc
    simp (disch := omega) only [n_le, n_lt] at hc
    by_cases c40 : 40 ≤ j
    · rw [if_pos c40] at hc
      by_cases cB : S.length < 64
      · rw [if_pos cB] at hc
        cases hc
        obtain ⟨u, rfl⟩ : ∃ u, j = 40 + u := ⟨j - 40, by omega⟩
        have e1 : en (Int32.ofNat (40 + u)) = Int32.ofNat (16 * u) := by rw [en_num (by omega), Int32.zero_add, show (16 : Int32) = Int32.ofNat 16 from rfl, n_mul]
        obtain ⟨ρ1, p1, R1, L1⟩ := r_push h cB (Int32.ofNat u).toInt64
        rw [e1, n_15 (by omega), n_sr4 (by omega), show 16 * u % 16 = 0 by omega, show 16 * u / 16 = u by omega, if_pos (show Int32.ofNat 0 = 0 from rfl), p1, bv_s, lt_eq, n_addI]
        refine ⟨ρ1, rfl, ?_, L1⟩
        rw [n_sub (by omega), show 40 + u - 40 = u by omega]; exact R1
      · rw [if_neg cB] at hc; exact absurd hc (by simp)
    · rw [if_neg c40] at hc
      by_cases c13 : j < 13
      · rw [if_pos c13] at hc
        by_cases cB : S.length < 64
        · rw [if_pos cB] at hc
          cases hc
          have e1 : en (Int32.ofNat j) = Int32.ofNat (1 + 16 * j) := by rw [en_word c13, show (1 : Int32) = Int32.ofNat 1 from rfl, show (16 : Int32) = Int32.ofNat 16 from rfl, n_mul, n_add]
          obtain ⟨ρ1, p1, R1, L1⟩ := r_push h cB (w j)
          rw [e1, n_15 (by omega), n_sr4 (by omega), show (1 + 16 * j) % 16 = 1 by omega, show (1 + 16 * j) / 16 = j by omega, if_neg (by decide), if_pos (show Int32.ofNat 1 = 1 from rfl), gd_n (by omega) (by omega), n_idx (by omega), hw j c13, p1, bv_s, lt_eq, n_addI]
          exact ⟨ρ1, rfl, R1, L1⟩
        · rw [if_neg cB] at hc; exact absurd hc (by simp)
      · rw [if_neg c13] at hc
        by_cases c30 : Int32.ofNat j = 30
        · rw [if_pos c30] at hc
          match S, h, hc with
          | x :: S1, h, hc =>
            cases hc
            have hl := h.2.2
            rw [List.length_cons] at hl
            obtain ⟨ρ1, p1, R1, L1⟩ := r_pop h
            obtain ⟨ρ2, p2, R2, L2⟩ := r_push R1 (by omega) (1 - x)
            rw [c30, show en 30 &&& 15 = 11 by decide, if_neg (by decide), if_neg (by decide), if_pos rfl, p1, bd_s, p2, bv_s, lt_eq, n_addI]
            exact ⟨ρ2, rfl, R2, SR_trans L1 L2⟩
        · rw [if_neg c30] at hc
          by_cases cr : 20 ≤ Int32.ofNat j ∧ Int32.ofNat j ≤ 32
          · rw [if_pos cr] at hc
            match S, h, hc with
            | y :: x :: S1, h, hc =>
              cases hc
              have hl := h.2.2
              rw [List.length_cons, List.length_cons] at hl
              obtain ⟨ρ1, p1, R1, L1⟩ := r_pop h
              obtain ⟨ρ2, p2, R2, L2⟩ := r_pop R1
              obtain ⟨j1, s, hs, es, s0, s1, s11⟩ := jn_r (Int32.ofNat j) x y ρ2 cr c30
              obtain ⟨ρ3, p3, R3, L3⟩ := r_push R2 (by omega) (jn (Int32.ofNat j) x y)
              have e15 : en (Int32.ofNat j) &&& 15 = en (Int32.ofNat j) := by rw [es, n_15 (by omega), Nat.mod_eq_of_lt hs]
              rw [e15, if_neg (by rw [es, n_zero (by omega)]; exact s0), if_neg (by rw [es, show (1 : Int32) = Int32.ofNat 1 from rfl, n_eq (by omega) (by omega)]; exact s1), if_neg (by rw [es, show (11 : Int32) = Int32.ofNat 11 from rfl, n_eq (by omega) (by omega)]; exact s11), p1, bd_s, p2, bd_s, j1, bd_s, p3, bv_s, lt_eq, n_addI]
              exact ⟨ρ3, rfl, R3, SR_trans (SR_trans L1 L2) L3⟩
          · rw [if_neg cr] at hc; exact absurd hc (by simp)
theorem r_run {w : Nat → Int64} {t e : Nat} (ht : t < 6) (he : e ≤ 400) : ∀ (l : List Int32) (S S' : List Int64) (v n : Nat) (ρ : mm_S), crn w 64 l S = some S' → v + l.length ≤ e → (∀ i, i < l.length → ρ.1 216 (400 * t + (v + i)) = en (l.getD i 0)) → RS ρ S → (∀ i, i < 13 → ρ.2.1 223 i = w i) →
    ∃ ρ', lp (n + l.length) (rkF (Int32.ofNat t) (Int32.ofNat e)) (Int32.ofNat v) ρ = lp n (rkF (Int32.ofNat t) (Int32.ofNat e)) (Int32.ofNat (v + l.length)) ρ' ∧ RS ρ' S' ∧ SR ρ ρ'
  | [], S, S', v, n, ρ, hc, _, _, h, _ => by
    cases hc
    exact ⟨ρ, rfl, h, ⟨fun _ _ _ => rfl, fun _ => rfl⟩⟩
  | c :: l, S, S', v, n, ρ, hc, hv, hcode, h, hw => by
    have hc' : (cst w 64 c S).bind (crn w 64 l) = some S' := hc
    match e' : cst w 64 c S, hc' with
    | some S1, hc' =>
      rw [List.length_cons] at hv
      have ec : ρ.1 216 (400 * t + v) = en c := hcode 0 (by rw [List.length_cons]; omega)
      obtain ⟨ρ1, e1, R1, L1⟩ := r_one (n := n + l.length) e' ht (by omega) he ec h hw
      obtain ⟨ρ2, e2, R2, L2⟩ := r_run ht he l S1 S' (v + 1) n ρ1 hc' (by omega) (fun i hi => by rw [L1.1 _ _ (by omega), show v + 1 + i = v + (i + 1) by omega]; exact hcode (i + 1) (by rw [List.length_cons]; omega)) R1 (fun i hi => by rw [L1.2]; exact hw i hi)
      refine ⟨ρ2, ?_, R2, SR_trans L1 L2⟩
      rw [List.length_cons, show n + (l.length + 1) = n + l.length + 1 from rfl, e1, e2, show v + 1 + l.length = v + (l.length + 1) by omega]
/-- a row of codes reckoned by the reference -/
theorem r_reck {w : Nat → Int64} {t v : Nat} {l : List Int32} {ρ : mm_S} {x : Int64} (ht : t < 6) (hv : v + l.length ≤ 400) (hx : crn w 64 l [] = some [x]) (hcode : ∀ i, i < l.length → ρ.1 216 (400 * t + (v + i)) = en (l.getD i 0)) (hw : ∀ i, i < 13 → ρ.2.1 223 i = w i) :
    ∃ ρ', f_X10_reckons 214 (Int32.ofNat t) (Int32.ofNat v) (Int32.ofNat (v + l.length)) ρ = some (x, ρ') ∧ SR ρ ρ' := by
  rw [rec_eq]
  have h0 : RS (su_i ρ 214 18 0) [] := ⟨rd_is _ _ _ _, trivial, by simp⟩
  have L0 : SR ρ (su_i ρ 214 18 0) := ⟨fun a k q => by rw [rd_ii, if_neg q], fun i => rfl⟩
  obtain ⟨ρ1, e1, R1, L1⟩ := r_run ht hv l [] [x] v (lpN - l.length) (su_i ρ 214 18 0) hx (Nat.le_refl _) (fun i hi => by rw [rd_ia _ _ _ _ _ _ (by omega)]; exact hcode i hi) h0 hw
  have hN : l.length ≤ 400 := by omega
  have hb : 401 ≤ lpN := by decide
  have hN2 : lpN - l.length = (lpN - l.length - 1) + 1 := by omega
  have hN3 : lpN - l.length + l.length = lpN := by omega
  rw [hN3] at e1
  obtain ⟨ρ2, p2, R2, L2⟩ := r_pop R1
  refine ⟨ρ2, ?_, SR_trans (SR_trans L0 L1) L2⟩
  rw [e1, hN2, lp_so, rkF, if_pos (by rw [n_le (by omega) (by omega)]; omega), p2, bd_s]
