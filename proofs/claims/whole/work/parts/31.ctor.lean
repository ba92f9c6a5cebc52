def dq (r : mm_M) (n : Nat) : Value → mm_M → Prop := fun v u => (v = .null ∧ u = r) ∧ mn u = n
def lpM {V ρ : Type} : Nat → ((V → mm_M → Option ρ) → V → mm_M → Option ρ) → V → mm_M → Option ρ
  | 0, _, _, _ => none
  | n + 1, F, v, σ => F (lpM n F) v σ
theorem lpM_ind {V ρ : Type} {F : (V → mm_M → Option ρ) → V → mm_M → Option ρ} {res : ρ} {P : V → mm_M → Prop} (step : ∀ self : V → mm_M → Option ρ, (∀ v σ, self v σ = some res → P v σ) → ∀ v σ, F self v σ = some res → P v σ) : ∀ n v σ, lpM n F v σ = some res → P v σ := by
  intro n
  induction n with
  | zero => intro v σ h; cases h
  | succ n ih => intro v σ h; exact step _ ih v σ h
def br {ρ : Type} (x : Option Nat) (k : Nat → Option ρ) : Option ρ := match x with
  | none => none
  | some q => k q
theorem br_some {ρ : Type} {x : Option Nat} {k : Nat → Option ρ} {r : ρ} (h : br x k = some r) : ∃ a, x = some a ∧ k a = some r := by
  cases x with
  | none => cases h
  | some q => exact ⟨q, rfl, h⟩
def bm {ρ : Type} (x : Option mm_M) (k : mm_M → Option ρ) : Option ρ := match x with
  | none => none
  | some q => k q
theorem bm_some {ρ : Type} {x : Option mm_M} {k : mm_M → Option ρ} {r : ρ} (h : bm x k = some r) : ∃ σ, x = some σ ∧ k σ = some r := by
  cases x with
  | none => cases h
  | some q => exact ⟨q, rfl, h⟩
section MDR
variable {g : mm_G} {d : Nat} {y : mm_Y} {k n0 pc : Nat} {L : mm_L} {st : List Value} {Q : Value → mm_M → Prop}
theorem m_nm {x s2 : mm_M} (hx : x = s2) (hk : mm_EV g d y k n0 pc L st x Q) : mm_EV g d y k n0 pc L st s2 Q := by subst hx; exact hk
theorem m_pick {μ : mm_M} {L' : mm_L} (ks : List Nat) (h : ks.filterMap (fun k => L[k]?) = L') (hk : mm_EV g d y k n0 pc L' st μ Q) : mm_EV g d y k n0 pc L st μ Q := by
  subst h
  refine e_sub (fun q hq => ?_) hk
  obtain ⟨i, -, hi⟩ := List.mem_filterMap.mp hq
  exact List.mem_of_getElem? hi
end MDR
theorem oi_RX2_3 : Cond.methodLink RX2 3 Lib.objectInit ∈ mm_T ∧ Cond.instanceMethod Lib.objectInit ∈ mm_T ∧ Cond.code Lib.objectInit ⟨#[0xb1]⟩ 1 none ∈ mm_T := ⟨(tw1 166 rfl rfl), (tw1 26 rfl rfl), (tw1 27 rfl rfl)⟩
theorem mz_RX2_24 : mm_mlS RX2 24 (yJ7_fill_53178, cJ7_fill_53178, 4, none) 2 := ⟨⟨(tw1 167 rfl rfl), (tw1 8 rfl rfl), (tw1 169 rfl rfl), ⟨by decide +kernel, by decide +kernel, by decide +kernel⟩, by decide⟩, (tw1 168 rfl rfl)⟩
theorem oi_RX1_3 : Cond.methodLink RX1 3 Lib.objectInit ∈ mm_T ∧ Cond.instanceMethod Lib.objectInit ∈ mm_T ∧ Cond.code Lib.objectInit ⟨#[0xb1]⟩ 1 none ∈ mm_T := ⟨(tw1 92 rfl rfl), (tw1 26 rfl rfl), (tw1 27 rfl rfl)⟩
theorem oi_RX3_3 : Cond.methodLink RX3 3 Lib.objectInit ∈ mm_T ∧ Cond.instanceMethod Lib.objectInit ∈ mm_T ∧ Cond.code Lib.objectInit ⟨#[0xb1]⟩ 1 none ∈ mm_T := ⟨(tw1 206 rfl rfl), (tw1 26 rfl rfl), (tw1 27 rfl rfl)⟩
theorem oi_RX5_3 : Cond.methodLink RX5 3 Lib.objectInit ∈ mm_T ∧ Cond.instanceMethod Lib.objectInit ∈ mm_T ∧ Cond.code Lib.objectInit ⟨#[0xb1]⟩ 1 none ∈ mm_T := ⟨(tw1 138 rfl rfl), (tw1 26 rfl rfl), (tw1 27 rfl rfl)⟩
theorem oi_RX6_3 : Cond.methodLink RX6 3 Lib.objectInit ∈ mm_T ∧ Cond.instanceMethod Lib.objectInit ∈ mm_T ∧ Cond.code Lib.objectInit ⟨#[0xb1]⟩ 1 none ∈ mm_T := ⟨(tw1 33 rfl rfl), (tw1 26 rfl rfl), (tw1 27 rfl rfl)⟩
theorem oi_RX8_3 : Cond.methodLink RX8 3 Lib.objectInit ∈ mm_T ∧ Cond.instanceMethod Lib.objectInit ∈ mm_T ∧ Cond.code Lib.objectInit ⟨#[0xb1]⟩ 1 none ∈ mm_T := ⟨(tw1 158 rfl rfl), (tw1 26 rfl rfl), (tw1 27 rfl rfl)⟩
theorem nl_RX8_9 : mm_nl RX8 9 1 := ⟨by decide, (tw1 159 rfl rfl), (tw1 88 rfl rfl), (tw1 4 rfl rfl)⟩
theorem mn_RX8_11 : mm_mlN 11 (yX1_init, cX1_init, 1, none) 0 := ⟨(tw1 4 rfl rfl), (tw1 91 rfl rfl), ⟨by decide +kernel, by decide +kernel, by decide +kernel⟩, by decide, rfl, (tw1 90 rfl rfl), rfl⟩
theorem nl_RX8_18 : mm_nl RX8 18 2 := ⟨by decide, (tw1 161 rfl rfl), (tw1 162 rfl rfl), (tw1 7 rfl rfl)⟩
theorem mi_RX8_20 : mm_mlI RX8 20 (yX2_init, cX2_init, 1, none) 0 := ⟨⟨(tw1 163 rfl rfl), (tw1 7 rfl rfl), (tw1 165 rfl rfl), ⟨by decide +kernel, by decide +kernel, by decide +kernel⟩, by decide⟩, rfl, (tw1 164 rfl rfl), rfl⟩
theorem nl_RX8_25 : mm_nl RX8 25 3 := ⟨by decide, (tw1 201 rfl rfl), (tw1 202 rfl rfl), (tw1 9 rfl rfl)⟩
theorem mn_RX8_27 : mm_mlN 27 (yX3_init, cX3_init, 1, none) 0 := ⟨(tw1 9 rfl rfl), (tw1 205 rfl rfl), ⟨by decide +kernel, by decide +kernel, by decide +kernel⟩, by decide, rfl, (tw1 204 rfl rfl), rfl⟩
theorem oi_RX4_3 : Cond.methodLink RX4 3 Lib.objectInit ∈ mm_T ∧ Cond.instanceMethod Lib.objectInit ∈ mm_T ∧ Cond.code Lib.objectInit ⟨#[0xb1]⟩ 1 none ∈ mm_T := ⟨(tw1 50 rfl rfl), (tw1 26 rfl rfl), (tw1 27 rfl rfl)⟩
theorem nl_RX0_9 : mm_nl RX0 9 2 := ⟨by decide, (tw2 9 rfl rfl), (tw1 162 rfl rfl), (tw1 7 rfl rfl)⟩
theorem mi_RX0_17 : mm_mlI RX0 17 (yX2_init, cX2_init, 1, none) 0 := ⟨⟨(tw2 11 rfl rfl), (tw1 7 rfl rfl), (tw1 165 rfl rfl), ⟨by decide +kernel, by decide +kernel, by decide +kernel⟩, by decide⟩, rfl, (tw1 164 rfl rfl), rfl⟩
theorem oi_RX0_3 : Cond.methodLink RX0 3 Lib.objectInit ∈ mm_T ∧ Cond.instanceMethod Lib.objectInit ∈ mm_T ∧ Cond.code Lib.objectInit ⟨#[0xb1]⟩ 1 none ∈ mm_T := ⟨(tw2 8 rfl rfl), (tw1 26 rfl rfl), (tw1 27 rfl rfl)⟩
theorem oi_RX7_3 : Cond.methodLink RX7 3 Lib.objectInit ∈ mm_T ∧ Cond.instanceMethod Lib.objectInit ∈ mm_T ∧ Cond.code Lib.objectInit ⟨#[0xb1]⟩ 1 none ∈ mm_T := ⟨(tw2 29 rfl rfl), (tw1 26 rfl rfl), (tw1 27 rfl rfl)⟩
theorem nl_RX7_9 : mm_nl RX7 9 2 := ⟨by decide, (tw2 30 rfl rfl), (tw1 162 rfl rfl), (tw1 7 rfl rfl)⟩
theorem mi_RX7_11 : mm_mlI RX7 11 (yX2_init, cX2_init, 1, none) 0 := ⟨⟨(tw2 31 rfl rfl), (tw1 7 rfl rfl), (tw1 165 rfl rfl), ⟨by decide +kernel, by decide +kernel, by decide +kernel⟩, by decide⟩, rfl, (tw1 164 rfl rfl), rfl⟩
theorem nl_RX9_62 : mm_nl RX9 62 0 := ⟨by decide, (tw2 3 rfl rfl), (tw2 4 rfl rfl), (tw1 10 rfl rfl)⟩
theorem mi_RX9_64 : mm_mlI RX9 64 (yX0_init, cX0_init, 2, none) 0 := ⟨⟨(tw2 5 rfl rfl), (tw1 10 rfl rfl), (tw2 7 rfl rfl), ⟨by decide +kernel, by decide +kernel, by decide +kernel⟩, by decide⟩, rfl, (tw2 6 rfl rfl), rfl⟩
theorem nl_RX9_69 : mm_nl RX9 69 7 := ⟨by decide, (tw2 24 rfl rfl), (tw2 25 rfl rfl), (tw1 11 rfl rfl)⟩
theorem mi_RX9_74 : mm_mlI RX9 74 (yX7_init, cX7_init, 3, none) 2 := ⟨⟨(tw2 26 rfl rfl), (tw1 11 rfl rfl), (tw2 28 rfl rfl), ⟨by decide +kernel, by decide +kernel, by decide +kernel⟩, by decide⟩, rfl, (tw2 27 rfl rfl), rfl⟩
theorem nl_RX9_47 : mm_nl RX9 47 8 := ⟨by decide, (tw1 153 rfl rfl), (tw1 154 rfl rfl), (tw1 6 rfl rfl)⟩
theorem mn_RX9_49 : mm_mlN 49 (yX8_init, cX8_init, 1, none) 0 := ⟨(tw1 6 rfl rfl), (tw1 157 rfl rfl), ⟨by decide +kernel, by decide +kernel, by decide +kernel⟩, by decide, rfl, (tw1 156 rfl rfl), rfl⟩
theorem mz_RX9_39 : mm_mlV RX9 39 (yX5_add, cX5_add, 2, none) 5 1 := ⟨by decide, rfl, ⟨(tw1 149 rfl rfl), (tw1 5 rfl rfl), (tw1 152 rfl rfl), ⟨by decide +kernel, by decide +kernel, by decide +kernel⟩, by decide⟩, (tw1 150 rfl rfl), (tw1 151 rfl rfl)⟩
theorem nl_RX9_32 : mm_nl RX9 32 5 := ⟨by decide, (tw1 132 rfl rfl), (tw1 134 rfl rfl), (tw1 5 rfl rfl)⟩
theorem mn_RX9_38 : mm_mlN 38 (yX5_init, cX5_init, 1, none) 0 := ⟨(tw1 5 rfl rfl), (tw1 137 rfl rfl), ⟨by decide +kernel, by decide +kernel, by decide +kernel⟩, by decide, rfl, (tw1 136 rfl rfl), rfl⟩
theorem oi_RX9_3 : Cond.methodLink RX9 3 Lib.objectInit ∈ mm_T ∧ Cond.instanceMethod Lib.objectInit ∈ mm_T ∧ Cond.code Lib.objectInit ⟨#[0xb1]⟩ 1 none ∈ mm_T := ⟨(tw1 25 rfl rfl), (tw1 26 rfl rfl), (tw1 27 rfl rfl)⟩
theorem nl_RX9_9 : mm_nl RX9 9 6 := ⟨by decide, (tw1 28 rfl rfl), (tw1 29 rfl rfl), (tw1 2 rfl rfl)⟩
theorem mn_RX9_11 : mm_mlN 11 (yX6_init, cX6_init, 1, none) 0 := ⟨(tw1 2 rfl rfl), (tw1 32 rfl rfl), ⟨by decide +kernel, by decide +kernel, by decide +kernel⟩, by decide, rfl, (tw1 31 rfl rfl), rfl⟩
theorem nl_RX9_16 : mm_nl RX9 16 4 := ⟨by decide, (tw1 45 rfl rfl), (tw1 46 rfl rfl), (tw1 3 rfl rfl)⟩
theorem mi_RX9_18 : mm_mlI RX9 18 (yX4_init, cX4_init, 2, none) 1 := ⟨⟨(tw1 47 rfl rfl), (tw1 3 rfl rfl), (tw1 49 rfl rfl), ⟨by decide +kernel, by decide +kernel, by decide +kernel⟩, by decide⟩, rfl, (tw1 48 rfl rfl), rfl⟩
theorem nl_RX9_25 : mm_nl RX9 25 1 := ⟨by decide, (tw1 87 rfl rfl), (tw1 88 rfl rfl), (tw1 4 rfl rfl)⟩
theorem mn_RX9_27 : mm_mlN 27 (yX1_init, cX1_init, 1, none) 0 := ⟨(tw1 4 rfl rfl), (tw1 91 rfl rfl), ⟨by decide +kernel, by decide +kernel, by decide +kernel⟩, by decide, rfl, (tw1 90 rfl rfl), rfl⟩
theorem oi_RX10_1 : Cond.methodLink RX10 1 Lib.objectInit ∈ mm_T ∧ Cond.instanceMethod Lib.objectInit ∈ mm_T ∧ Cond.code Lib.objectInit ⟨#[0xb1]⟩ 1 none ∈ mm_T := ⟨(tw4 151 rfl rfl), (tw1 26 rfl rfl), (tw1 27 rfl rfl)⟩
def fD_J7_fill_53178_5 (n0 : Nat) (a0 : Nat) (i1 : Int32) (i2 : Int32) (i3 : Int32) (μ : mm_M) : Option mm_M :=
  lpM lpN (fun (k5 : (Int32) → mm_M → Option mm_M) (v : Int32) (μ : mm_M) =>
    if i3 ≤ v then
      gz (decide (mn μ = n0 + 0)) <|
      some μ
    else
      gz (decide ((mm_K a0).1 = 12 ∧ a0 < mn μ)) <|
      gd v (mm_K a0).2 <|
      lt (mu_i μ a0 v.toNatClampNeg i1) fun μ5 =>
      lt (v + Int32.ofInt (1)) fun x7 =>
      k5 x7 μ5) i2 μ
theorem vD_J7_fill_53178_5 {g : mm_G} (d : Nat) {n0 : Nat} {a0 : Nat} {i1 : Int32} {i2 : Int32} {i3 : Int32} {μ res : mm_M}  (h : fD_J7_fill_53178_5 n0 a0 i1 i2 i3 μ = some res) : mm_EV g (d + 0) yy_J7_fill_53178 0 n0 5 [(0, .ref a0), (1, .int i1), (2, .int i2), (3, .int i3)] [] μ (dq res (n0 + 0)) := by
  unfold fD_J7_fill_53178_5 at h
  refine lpM_ind (P := fun v μ => mm_EV g (d + 0) yy_J7_fill_53178 0 n0 5 [(0, .ref a0), (1, .int i1), (2, .int v), (3, .int i3)] [] μ (dq res (n0 + 0))) (fun k5 H5 v μ h => ?_) _ i2 μ h
  refine e_iload_n 2 dJ7_fill_53178_5 rfl rfl ?_
  refine e_iload_n 3 dJ7_fill_53178_6 rfl rfl ?_
  refine e_icmp_ge 20 dJ7_fill_53178_7 (by decide) (fun c1 => ?_) (fun c1 => ?_)
  · rw [if_pos c1] at h
    obtain ⟨q2, h⟩ := gz_some h
    replace q2 := of_decide_eq_true q2
    obtain rfl := Option.some.inj h
    exact e_ret rfl ⟨⟨rfl, rfl⟩, q2⟩ rfl dJ7_fill_53178_20
  · rw [if_neg c1] at h
    refine e_aload_n 0 dJ7_fill_53178_10 rfl rfl ?_
    refine e_iload_n 2 dJ7_fill_53178_11 rfl rfl ?_
    refine e_iload_n 1 dJ7_fill_53178_12 rfl rfl ?_
    obtain ⟨q3, h⟩ := gz_some h
    replace q3 := of_decide_eq_true q3
    obtain ⟨q4, h⟩ := gd_some h
    refine e_iast dJ7_fill_53178_13 (ka_2 q3.1) q3.2 q4 ?_
    obtain ⟨μ5, q6, h⟩ := lt_some h
    refine m_nm q6 ?_
    obtain ⟨x7, q8, h⟩ := lt_some h
    refine e_iinc (v := x7) (L' := [(0, .ref a0), (1, .int i1), (2, .int x7), (3, .int i3)]) 2 dJ7_fill_53178_14 rfl q8.symm (by decide) rfl ?_
    refine e_goto 5 dJ7_fill_53178_17 (by decide) ?_
    refine m_pick (L' := [(0, .ref a0), (1, .int i1), (2, .int x7), (3, .int i3)]) [0, 1, 2, 3] rfl ?_
    exact H5 x7 μ5 h
def fD_J7_fill_53178 (a0 : Nat) (i1 : Int32) (μ : mm_M) : Option mm_M :=
    lt (mn μ) fun n0 =>
    gz (decide ((mm_K a0).1 = 12 ∧ a0 < mn μ)) <|
    fD_J7_fill_53178_5 n0 a0 i1 (0 : Int32) (Int32.ofNat (mm_K a0).2) μ
theorem vD_J7_fill_53178 {g : mm_G} (d : Nat) {a0 : Nat} {i1 : Int32} {μ res : mm_M} (h : fD_J7_fill_53178 a0 i1 μ = some res) : mm_MV g (d + 0) yy_J7_fill_53178 0 [.ref a0, .int i1] μ (fun v u => v = .null ∧ u = res) := by
  refine mm_of_EV (by decide) (by rw [mm_lgl]; exact Nat.le_of_ble_eq_true rfl) ?_
  unfold fD_J7_fill_53178 at h
  obtain ⟨n0, hn0, h⟩ := lt_some h
  rw [← hn0]
  show mm_EV g (d + 0) yy_J7_fill_53178 0 n0 0 [(0, .ref a0), (1, .int i1)] [] μ (dq res (n0 + 0))
  refine e_iconst (v := (0 : Int32)) dJ7_fill_53178_0 (by decide) ?_
  refine e_istore_n (L' := [(0, .ref a0), (1, .int i1), (2, .int (0 : Int32))]) dJ7_fill_53178_1 rfl (by decide) rfl ?_
  refine e_aload_n 0 dJ7_fill_53178_2 rfl rfl ?_
  obtain ⟨q9, h⟩ := gz_some h
  replace q9 := of_decide_eq_true q9
  refine e_alen dJ7_fill_53178_3 (ka_2 q9.1) ⟨by decide, by decide⟩ q9.2 rfl ?_
  refine e_istore_n (L' := [(0, .ref a0), (1, .int i1), (2, .int (0 : Int32)), (3, .int (Int32.ofNat (mm_K a0).2))]) dJ7_fill_53178_4 rfl (by decide) rfl ?_
  refine m_pick (L' := [(0, .ref a0), (1, .int i1), (2, .int (0 : Int32)), (3, .int (Int32.ofNat (mm_K a0).2))]) [0, 1, 2, 3] rfl ?_
  exact vD_J7_fill_53178_5 d  h
def fD_X5_add (a0 : Nat) (i1 : Int32) (μ : mm_M) : Option mm_M :=
    lt (mn μ) fun n0 =>
    gz (decide ((mm_K a0).1 = 5 ∧ a0 < mn μ)) <|
    gz (decide ((mm_K a0).1 = 5 ∧ a0 < mn μ)) <|
    br (mr μ a0 0) fun r3 =>
    gz (decide ((mm_K r3).1 = 12 ∧ r3 < mn μ)) <|
    if (Int32.ofNat (mm_K r3).2) ≤ (μ.1 a0 1) then
      gz (decide (mn μ = n0 + 0)) <|
      some μ
    else
      gz (decide ((mm_K a0).1 = 5 ∧ a0 < mn μ)) <|
      br (mr μ a0 0) fun r9 =>
      gz (decide ((mm_K a0).1 = 5 ∧ a0 < mn μ)) <|
      gz (decide ((mm_K r9).1 = 12 ∧ r9 < mn μ)) <|
      gd (μ.1 a0 1) (mm_K r9).2 <|
      lt (mu_i μ r9 (μ.1 a0 1).toNatClampNeg i1) fun μ14 =>
      gz (decide ((mm_K a0).1 = 5 ∧ a0 < mn μ14)) <|
      gz (decide ((mm_K a0).1 = 5 ∧ a0 < mn μ14)) <|
      lt (mu_i μ14 a0 1 ((μ14.1 a0 1) + (1 : Int32))) fun μ18 =>
      gz (decide (mn μ18 = n0 + 0)) <|
      some μ18
theorem vD_X5_add {g : mm_G} (d : Nat) {a0 : Nat} {i1 : Int32} {μ res : mm_M} (h : fD_X5_add a0 i1 μ = some res) : mm_MV g (d + 0) yy_X5_add 0 [.ref a0, .int i1] μ (fun v u => v = .null ∧ u = res) := by
  refine mm_of_EV (by decide) (by rw [mm_lgl]; exact Nat.le_of_ble_eq_true rfl) ?_
  unfold fD_X5_add at h
  obtain ⟨n0, hn0, h⟩ := lt_some h
  rw [← hn0]
  show mm_EV g (d + 0) yy_X5_add 0 n0 0 [(0, .ref a0), (1, .int i1)] [] μ (dq res (n0 + 0))
  refine e_aload_n 0 dX5_add_0 rfl rfl ?_
  obtain ⟨q1, h⟩ := gz_some h
  replace q1 := of_decide_eq_true q1
  refine e_geti dX5_add_1 fl_RX5_15 q1.1 q1.2 ?_
  refine e_aload_n 0 dX5_add_4 rfl rfl ?_
  obtain ⟨q2, h⟩ := gz_some h
  replace q2 := of_decide_eq_true q2
  obtain ⟨r3, q4, h⟩ := br_some h
  refine e_getr dX5_add_5 fl_RX5_9 q2.1 q2.2 q4 ?_
  obtain ⟨q5, h⟩ := gz_some h
  replace q5 := of_decide_eq_true q5
  refine e_alen dX5_add_8 (ka_2 q5.1) ⟨by decide, by decide⟩ q5.2 rfl ?_
  refine e_icmp_ge 32 dX5_add_9 (by decide) (fun c6 => ?_) (fun c6 => ?_)
  · rw [if_pos c6] at h
    obtain ⟨q7, h⟩ := gz_some h
    replace q7 := of_decide_eq_true q7
    obtain rfl := Option.some.inj h
    exact e_ret rfl ⟨⟨rfl, rfl⟩, q7⟩ rfl dX5_add_32
  · rw [if_neg c6] at h
    refine e_aload_n 0 dX5_add_12 rfl rfl ?_
    obtain ⟨q8, h⟩ := gz_some h
    replace q8 := of_decide_eq_true q8
    obtain ⟨r9, q10, h⟩ := br_some h
    refine e_getr dX5_add_13 fl_RX5_9 q8.1 q8.2 q10 ?_
    refine e_aload_n 0 dX5_add_16 rfl rfl ?_
    obtain ⟨q11, h⟩ := gz_some h
    replace q11 := of_decide_eq_true q11
    refine e_geti dX5_add_17 fl_RX5_15 q11.1 q11.2 ?_
    refine e_iload_n 1 dX5_add_20 rfl rfl ?_
    obtain ⟨q12, h⟩ := gz_some h
    replace q12 := of_decide_eq_true q12
    obtain ⟨q13, h⟩ := gd_some h
    refine e_iast dX5_add_21 (ka_2 q12.1) q12.2 q13 ?_
    obtain ⟨μ14, q15, h⟩ := lt_some h
    refine m_nm q15 ?_
    refine e_aload_n 0 dX5_add_22 rfl rfl ?_
    refine e_dup dX5_add_23 rfl ?_
    obtain ⟨q16, h⟩ := gz_some h
    replace q16 := of_decide_eq_true q16
    refine e_geti dX5_add_24 fl_RX5_15 q16.1 q16.2 ?_
    refine e_iconst (v := (1 : Int32)) dX5_add_27 (by decide) ?_
    refine e_iadd dX5_add_28 ?_
    obtain ⟨q17, h⟩ := gz_some h
    replace q17 := of_decide_eq_true q17
    refine e_puti dX5_add_29 fl_RX5_15 q17.1 q17.2 rfl rfl rfl ?_
    obtain ⟨μ18, q19, h⟩ := lt_some h
    refine m_nm q19 ?_
    obtain ⟨q20, h⟩ := gz_some h
    replace q20 := of_decide_eq_true q20
    obtain rfl := Option.some.inj h
    exact e_ret rfl ⟨⟨rfl, rfl⟩, q20⟩ rfl dX5_add_32
abbrev yy_X2_init : mm_Y := (yX2_init, cX2_init, 1, none)
theorem dX2_init_0 : decode cX2_init 0 = .ok (.aload_n 0, 1) := by decide +kernel
theorem dX2_init_1 : decode cX2_init 1 = .ok (.invokespecial 3, 3) := by decide +kernel
theorem dX2_init_4 : decode cX2_init 4 = .ok (.aload_n 0, 1) := by decide +kernel
theorem dX2_init_5 : decode cX2_init 5 = .ok (.bipush 6, 2) := by decide +kernel
theorem dX2_init_7 : decode cX2_init 7 = .ok (.newarray .int, 2) := by decide +kernel
theorem dX2_init_9 : decode cX2_init 9 = .ok (.putfield 9, 3) := by decide +kernel
theorem dX2_init_12 : decode cX2_init 12 = .ok (.aload_n 0, 1) := by decide +kernel
theorem dX2_init_13 : decode cX2_init 13 = .ok (.bipush 6, 2) := by decide +kernel
theorem dX2_init_15 : decode cX2_init 15 = .ok (.newarray .int, 2) := by decide +kernel
theorem dX2_init_17 : decode cX2_init 17 = .ok (.putfield 15, 3) := by decide +kernel
theorem dX2_init_20 : decode cX2_init 20 = .ok (.aload_n 0, 1) := by decide +kernel
theorem dX2_init_21 : decode cX2_init 21 = .ok (.bipush 6, 2) := by decide +kernel
theorem dX2_init_23 : decode cX2_init 23 = .ok (.newarray .int, 2) := by decide +kernel
theorem dX2_init_25 : decode cX2_init 25 = .ok (.putfield 18, 3) := by decide +kernel
theorem dX2_init_28 : decode cX2_init 28 = .ok (.aload_n 0, 1) := by decide +kernel
theorem dX2_init_29 : decode cX2_init 29 = .ok (.bipush 6, 2) := by decide +kernel
theorem dX2_init_31 : decode cX2_init 31 = .ok (.newarray .int, 2) := by decide +kernel
theorem dX2_init_33 : decode cX2_init 33 = .ok (.putfield 21, 3) := by decide +kernel
theorem dX2_init_36 : decode cX2_init 36 = .ok (.aload_n 0, 1) := by decide +kernel
theorem dX2_init_37 : decode cX2_init 37 = .ok (.getfield 18, 3) := by decide +kernel
theorem dX2_init_40 : decode cX2_init 40 = .ok (.iconst (-1), 1) := by decide +kernel
theorem dX2_init_41 : decode cX2_init 41 = .ok (.invokestatic 24, 3) := by decide +kernel
theorem dX2_init_44 : decode cX2_init 44 = .ok (.return_, 1) := by decide +kernel
def fD_X2_init (a0 : Nat) (μ : mm_M) : Option mm_M :=
    lt (mn μ) fun n0 =>
    gz (decide (mm_K (mn μ) = (12, 6) ∧ n0 ≤ mn μ ∧ mn μ + 1 ≤ n0 + 4)) <|
    lt (mn μ) fun z2 =>
    lt (mu_n μ) fun μ4 =>
    gz (decide ((mm_K a0).1 = 2 ∧ a0 < mn μ4)) <|
    lt (mu_r μ4 a0 2 (some z2)) fun μ7 =>
    gz (decide (mm_K (mn μ7) = (12, 6) ∧ n0 ≤ mn μ7 ∧ mn μ7 + 1 ≤ n0 + 4)) <|
    lt (mn μ7) fun z10 =>
    lt (mu_n μ7) fun μ12 =>
    gz (decide ((mm_K a0).1 = 2 ∧ a0 < mn μ12)) <|
    lt (mu_r μ12 a0 3 (some z10)) fun μ15 =>
    gz (decide (mm_K (mn μ15) = (12, 6) ∧ n0 ≤ mn μ15 ∧ mn μ15 + 1 ≤ n0 + 4)) <|
    lt (mn μ15) fun z18 =>
    lt (mu_n μ15) fun μ20 =>
    gz (decide ((mm_K a0).1 = 2 ∧ a0 < mn μ20)) <|
    lt (mu_r μ20 a0 4 (some z18)) fun μ23 =>
    gz (decide (mm_K (mn μ23) = (12, 6) ∧ n0 ≤ mn μ23 ∧ mn μ23 + 1 ≤ n0 + 4)) <|
    lt (mn μ23) fun z26 =>
    lt (mu_n μ23) fun μ28 =>
    gz (decide ((mm_K a0).1 = 2 ∧ a0 < mn μ28)) <|
    lt (mu_r μ28 a0 5 (some z26)) fun μ31 =>
    gz (decide ((mm_K a0).1 = 2 ∧ a0 < mn μ31)) <|
    br (mr μ31 a0 4) fun r34 =>
    gz (decide (n0 ≤ mn μ31 ∧ mn μ31 + 0 ≤ n0 + 4)) <|
    bm (fD_J7_fill_53178 r34 (-1 : Int32) μ31) fun μ37 =>
    gz (decide (mn μ37 = n0 + 4)) <|
    some μ37
theorem vD_X2_init {g : mm_G} (d : Nat) {a0 : Nat} {μ res : mm_M} (h : fD_X2_init a0 μ = some res) : mm_MV g (d + 1) yy_X2_init 4 [.ref a0] μ (fun v u => v = .null ∧ u = res) := by
  refine mm_of_EV (by decide) (by rw [mm_lgl]; exact Nat.le_of_ble_eq_true rfl) ?_
  unfold fD_X2_init at h
  obtain ⟨n0, hn0, h⟩ := lt_some h
  rw [← hn0]
  show mm_EV g (d + 1) yy_X2_init 4 n0 0 [(0, .ref a0)] [] μ (dq res (n0 + 4))
  refine e_aload_n 0 dX2_init_0 rfl rfl ?_
  refine e_objI dX2_init_1 oi_RX2_3 (Nat.le_of_ble_eq_true rfl) ?_
  refine e_aload_n 0 dX2_init_4 rfl rfl ?_
  refine e_bipush (v := (6 : Int32)) dX2_init_5 (by decide) ?_
  obtain ⟨q1, h⟩ := gz_some h
  replace q1 := of_decide_eq_true q1
  refine e_newaI dX2_init_7 (tw1 86 rfl rfl) q1.1 (by decide) (by decide) (by decide) q1.2.1 q1.2.2 ?_
  obtain ⟨z2, q3, h⟩ := lt_some h
  rw [← q3]
  obtain ⟨μ4, q5, h⟩ := lt_some h
  refine m_nm q5 ?_
  obtain ⟨q6, h⟩ := gz_some h
  replace q6 := of_decide_eq_true q6
  refine e_putrF dX2_init_9 fl_RX2_9 q6.1 q6.2 rfl rfl rfl ⟨rfl, fun _ => ⟨rfl, rfl⟩⟩ ?_
  obtain ⟨μ7, q8, h⟩ := lt_some h
  refine m_nm q8 ?_
  refine e_aload_n 0 dX2_init_12 rfl rfl ?_
  refine e_bipush (v := (6 : Int32)) dX2_init_13 (by decide) ?_
  obtain ⟨q9, h⟩ := gz_some h
  replace q9 := of_decide_eq_true q9
  refine e_newaI dX2_init_15 (tw1 86 rfl rfl) q9.1 (by decide) (by decide) (by decide) q9.2.1 q9.2.2 ?_
  obtain ⟨z10, q11, h⟩ := lt_some h
  rw [← q11]
  obtain ⟨μ12, q13, h⟩ := lt_some h
  refine m_nm q13 ?_
  obtain ⟨q14, h⟩ := gz_some h
  replace q14 := of_decide_eq_true q14
  refine e_putrF dX2_init_17 fl_RX2_15 q14.1 q14.2 rfl rfl rfl ⟨rfl, fun _ => ⟨rfl, rfl⟩⟩ ?_
  obtain ⟨μ15, q16, h⟩ := lt_some h
  refine m_nm q16 ?_
  refine e_aload_n 0 dX2_init_20 rfl rfl ?_
  refine e_bipush (v := (6 : Int32)) dX2_init_21 (by decide) ?_
  obtain ⟨q17, h⟩ := gz_some h
  replace q17 := of_decide_eq_true q17
  refine e_newaI dX2_init_23 (tw1 86 rfl rfl) q17.1 (by decide) (by decide) (by decide) q17.2.1 q17.2.2 ?_
  obtain ⟨z18, q19, h⟩ := lt_some h
  rw [← q19]
  obtain ⟨μ20, q21, h⟩ := lt_some h
  refine m_nm q21 ?_
  obtain ⟨q22, h⟩ := gz_some h
  replace q22 := of_decide_eq_true q22
  refine e_putrF dX2_init_25 fl_RX2_18 q22.1 q22.2 rfl rfl rfl ⟨rfl, fun _ => ⟨rfl, rfl⟩⟩ ?_
  obtain ⟨μ23, q24, h⟩ := lt_some h
  refine m_nm q24 ?_
  refine e_aload_n 0 dX2_init_28 rfl rfl ?_
  refine e_bipush (v := (6 : Int32)) dX2_init_29 (by decide) ?_
  obtain ⟨q25, h⟩ := gz_some h
  replace q25 := of_decide_eq_true q25
  refine e_newaI dX2_init_31 (tw1 86 rfl rfl) q25.1 (by decide) (by decide) (by decide) q25.2.1 q25.2.2 ?_
  obtain ⟨z26, q27, h⟩ := lt_some h
  rw [← q27]
  obtain ⟨μ28, q29, h⟩ := lt_some h
  refine m_nm q29 ?_
  obtain ⟨q30, h⟩ := gz_some h
  replace q30 := of_decide_eq_true q30
  refine e_putrF dX2_init_33 fl_RX2_21 q30.1 q30.2 rfl rfl rfl ⟨rfl, fun _ => ⟨rfl, rfl⟩⟩ ?_
  obtain ⟨μ31, q32, h⟩ := lt_some h
  refine m_nm q32 ?_
  refine e_aload_n 0 dX2_init_36 rfl rfl ?_
  obtain ⟨q33, h⟩ := gz_some h
  replace q33 := of_decide_eq_true q33
  obtain ⟨r34, q35, h⟩ := br_some h
  refine e_getr dX2_init_37 fl_RX2_18 q33.1 q33.2 q35 ?_
  refine e_iconst (v := (-1 : Int32)) dX2_init_40 (by decide) ?_
  obtain ⟨q36, h⟩ := gz_some h
  replace q36 := of_decide_eq_true q36
  obtain ⟨μ37, q38, h⟩ := bm_some h
  refine e_callSv (av := [.ref r34, .int (-1 : Int32)]) dX2_init_41 mz_RX2_24 rfl rfl (vD_J7_fill_53178 (d + 0) q38) q36.1 q36.2 (Nat.le_of_ble_eq_true rfl) (fun u hu _ => ?_)
  obtain ⟨_, rfl⟩ := hu
  obtain ⟨q39, h⟩ := gz_some h
  replace q39 := of_decide_eq_true q39
  obtain rfl := Option.some.inj h
  exact e_ret rfl ⟨⟨rfl, rfl⟩, q39⟩ rfl dX2_init_44
abbrev yy_X1_init : mm_Y := (yX1_init, cX1_init, 1, none)
theorem dX1_init_0 : decode cX1_init 0 = .ok (.aload_n 0, 1) := by decide +kernel
theorem dX1_init_1 : decode cX1_init 1 = .ok (.invokespecial 3, 3) := by decide +kernel
theorem dX1_init_4 : decode cX1_init 4 = .ok (.aload_n 0, 1) := by decide +kernel
theorem dX1_init_5 : decode cX1_init 5 = .ok (.bipush 6, 2) := by decide +kernel
theorem dX1_init_7 : decode cX1_init 7 = .ok (.newarray .int, 2) := by decide +kernel
theorem dX1_init_9 : decode cX1_init 9 = .ok (.putfield 9, 3) := by decide +kernel
theorem dX1_init_12 : decode cX1_init 12 = .ok (.aload_n 0, 1) := by decide +kernel
theorem dX1_init_13 : decode cX1_init 13 = .ok (.bipush 6, 2) := by decide +kernel
theorem dX1_init_15 : decode cX1_init 15 = .ok (.newarray .int, 2) := by decide +kernel
theorem dX1_init_17 : decode cX1_init 17 = .ok (.putfield 15, 3) := by decide +kernel
theorem dX1_init_20 : decode cX1_init 20 = .ok (.aload_n 0, 1) := by decide +kernel
theorem dX1_init_21 : decode cX1_init 21 = .ok (.bipush 36, 2) := by decide +kernel
theorem dX1_init_23 : decode cX1_init 23 = .ok (.newarray .int, 2) := by decide +kernel
theorem dX1_init_25 : decode cX1_init 25 = .ok (.putfield 18, 3) := by decide +kernel
theorem dX1_init_28 : decode cX1_init 28 = .ok (.return_, 1) := by decide +kernel
def fD_X1_init (a0 : Nat) (μ : mm_M) : Option mm_M :=
    lt (mn μ) fun n0 =>
    gz (decide (mm_K (mn μ) = (12, 6) ∧ n0 ≤ mn μ ∧ mn μ + 1 ≤ n0 + 3)) <|
    lt (mn μ) fun z2 =>
    lt (mu_n μ) fun μ4 =>
    gz (decide ((mm_K a0).1 = 1 ∧ a0 < mn μ4)) <|
    lt (mu_r μ4 a0 5 (some z2)) fun μ7 =>
    gz (decide (mm_K (mn μ7) = (12, 6) ∧ n0 ≤ mn μ7 ∧ mn μ7 + 1 ≤ n0 + 3)) <|
    lt (mn μ7) fun z10 =>
    lt (mu_n μ7) fun μ12 =>
    gz (decide ((mm_K a0).1 = 1 ∧ a0 < mn μ12)) <|
    lt (mu_r μ12 a0 6 (some z10)) fun μ15 =>
    gz (decide (mm_K (mn μ15) = (12, 36) ∧ n0 ≤ mn μ15 ∧ mn μ15 + 1 ≤ n0 + 3)) <|
    lt (mn μ15) fun z18 =>
    lt (mu_n μ15) fun μ20 =>
    gz (decide ((mm_K a0).1 = 1 ∧ a0 < mn μ20)) <|
    lt (mu_r μ20 a0 7 (some z18)) fun μ23 =>
    gz (decide (mn μ23 = n0 + 3)) <|
    some μ23
theorem vD_X1_init {g : mm_G} (d : Nat) {a0 : Nat} {μ res : mm_M} (h : fD_X1_init a0 μ = some res) : mm_MV g (d + 1) yy_X1_init 3 [.ref a0] μ (fun v u => v = .null ∧ u = res) := by
  refine mm_of_EV (by decide) (by rw [mm_lgl]; exact Nat.le_of_ble_eq_true rfl) ?_
  unfold fD_X1_init at h
  obtain ⟨n0, hn0, h⟩ := lt_some h
  rw [← hn0]
  show mm_EV g (d + 1) yy_X1_init 3 n0 0 [(0, .ref a0)] [] μ (dq res (n0 + 3))
  refine e_aload_n 0 dX1_init_0 rfl rfl ?_
  refine e_objI dX1_init_1 oi_RX1_3 (Nat.le_of_ble_eq_true rfl) ?_
  refine e_aload_n 0 dX1_init_4 rfl rfl ?_
  refine e_bipush (v := (6 : Int32)) dX1_init_5 (by decide) ?_
  obtain ⟨q1, h⟩ := gz_some h
  replace q1 := of_decide_eq_true q1
  refine e_newaI dX1_init_7 (tw1 86 rfl rfl) q1.1 (by decide) (by decide) (by decide) q1.2.1 q1.2.2 ?_
  obtain ⟨z2, q3, h⟩ := lt_some h
  rw [← q3]
  obtain ⟨μ4, q5, h⟩ := lt_some h
  refine m_nm q5 ?_
  obtain ⟨q6, h⟩ := gz_some h
  replace q6 := of_decide_eq_true q6
  refine e_putrF dX1_init_9 fl_RX1_9 q6.1 q6.2 rfl rfl rfl ⟨rfl, fun _ => ⟨rfl, rfl⟩⟩ ?_
  obtain ⟨μ7, q8, h⟩ := lt_some h
  refine m_nm q8 ?_
  refine e_aload_n 0 dX1_init_12 rfl rfl ?_
  refine e_bipush (v := (6 : Int32)) dX1_init_13 (by decide) ?_
  obtain ⟨q9, h⟩ := gz_some h
  replace q9 := of_decide_eq_true q9
  refine e_newaI dX1_init_15 (tw1 86 rfl rfl) q9.1 (by decide) (by decide) (by decide) q9.2.1 q9.2.2 ?_
  obtain ⟨z10, q11, h⟩ := lt_some h
  rw [← q11]
  obtain ⟨μ12, q13, h⟩ := lt_some h
  refine m_nm q13 ?_
  obtain ⟨q14, h⟩ := gz_some h
  replace q14 := of_decide_eq_true q14
  refine e_putrF dX1_init_17 fl_RX1_15 q14.1 q14.2 rfl rfl rfl ⟨rfl, fun _ => ⟨rfl, rfl⟩⟩ ?_
  obtain ⟨μ15, q16, h⟩ := lt_some h
  refine m_nm q16 ?_
  refine e_aload_n 0 dX1_init_20 rfl rfl ?_
  refine e_bipush (v := (36 : Int32)) dX1_init_21 (by decide) ?_
  obtain ⟨q17, h⟩ := gz_some h
  replace q17 := of_decide_eq_true q17
  refine e_newaI dX1_init_23 (tw1 86 rfl rfl) q17.1 (by decide) (by decide) (by decide) q17.2.1 q17.2.2 ?_
  obtain ⟨z18, q19, h⟩ := lt_some h
  rw [← q19]
  obtain ⟨μ20, q21, h⟩ := lt_some h
  refine m_nm q21 ?_
  obtain ⟨q22, h⟩ := gz_some h
  replace q22 := of_decide_eq_true q22
  refine e_putrF dX1_init_25 fl_RX1_18 q22.1 q22.2 rfl rfl rfl ⟨rfl, fun _ => ⟨rfl, rfl⟩⟩ ?_
  obtain ⟨μ23, q24, h⟩ := lt_some h
  refine m_nm q24 ?_
  obtain ⟨q25, h⟩ := gz_some h
  replace q25 := of_decide_eq_true q25
  obtain rfl := Option.some.inj h
  exact e_ret rfl ⟨⟨rfl, rfl⟩, q25⟩ rfl dX1_init_28
abbrev yy_X3_init : mm_Y := (yX3_init, cX3_init, 1, none)
theorem dX3_init_0 : decode cX3_init 0 = .ok (.aload_n 0, 1) := by decide +kernel
theorem dX3_init_1 : decode cX3_init 1 = .ok (.invokespecial 3, 3) := by decide +kernel
theorem dX3_init_4 : decode cX3_init 4 = .ok (.aload_n 0, 1) := by decide +kernel
theorem dX3_init_5 : decode cX3_init 5 = .ok (.bipush 10, 2) := by decide +kernel
theorem dX3_init_7 : decode cX3_init 7 = .ok (.newarray .int, 2) := by decide +kernel
theorem dX3_init_9 : decode cX3_init 9 = .ok (.putfield 9, 3) := by decide +kernel
theorem dX3_init_12 : decode cX3_init 12 = .ok (.aload_n 0, 1) := by decide +kernel
theorem dX3_init_13 : decode cX3_init 13 = .ok (.bipush 10, 2) := by decide +kernel
theorem dX3_init_15 : decode cX3_init 15 = .ok (.newarray .int, 2) := by decide +kernel
theorem dX3_init_17 : decode cX3_init 17 = .ok (.putfield 15, 3) := by decide +kernel
theorem dX3_init_20 : decode cX3_init 20 = .ok (.aload_n 0, 1) := by decide +kernel
theorem dX3_init_21 : decode cX3_init 21 = .ok (.bipush 10, 2) := by decide +kernel
theorem dX3_init_23 : decode cX3_init 23 = .ok (.newarray .int, 2) := by decide +kernel
theorem dX3_init_25 : decode cX3_init 25 = .ok (.putfield 18, 3) := by decide +kernel
theorem dX3_init_28 : decode cX3_init 28 = .ok (.return_, 1) := by decide +kernel
def fD_X3_init (a0 : Nat) (μ : mm_M) : Option mm_M :=
    lt (mn μ) fun n0 =>
    gz (decide (mm_K (mn μ) = (12, 10) ∧ n0 ≤ mn μ ∧ mn μ + 1 ≤ n0 + 3)) <|
    lt (mn μ) fun z2 =>
    lt (mu_n μ) fun μ4 =>
    gz (decide ((mm_K a0).1 = 3 ∧ a0 < mn μ4)) <|
    lt (mu_r μ4 a0 1 (some z2)) fun μ7 =>
    gz (decide (mm_K (mn μ7) = (12, 10) ∧ n0 ≤ mn μ7 ∧ mn μ7 + 1 ≤ n0 + 3)) <|
    lt (mn μ7) fun z10 =>
    lt (mu_n μ7) fun μ12 =>
    gz (decide ((mm_K a0).1 = 3 ∧ a0 < mn μ12)) <|
    lt (mu_r μ12 a0 2 (some z10)) fun μ15 =>
    gz (decide (mm_K (mn μ15) = (12, 10) ∧ n0 ≤ mn μ15 ∧ mn μ15 + 1 ≤ n0 + 3)) <|
    lt (mn μ15) fun z18 =>
    lt (mu_n μ15) fun μ20 =>
    gz (decide ((mm_K a0).1 = 3 ∧ a0 < mn μ20)) <|
    lt (mu_r μ20 a0 3 (some z18)) fun μ23 =>
    gz (decide (mn μ23 = n0 + 3)) <|
    some μ23
theorem vD_X3_init {g : mm_G} (d : Nat) {a0 : Nat} {μ res : mm_M} (h : fD_X3_init a0 μ = some res) : mm_MV g (d + 1) yy_X3_init 3 [.ref a0] μ (fun v u => v = .null ∧ u = res) := by
  refine mm_of_EV (by decide) (by rw [mm_lgl]; exact Nat.le_of_ble_eq_true rfl) ?_
  unfold fD_X3_init at h
  obtain ⟨n0, hn0, h⟩ := lt_some h
  rw [← hn0]
  show mm_EV g (d + 1) yy_X3_init 3 n0 0 [(0, .ref a0)] [] μ (dq res (n0 + 3))
  refine e_aload_n 0 dX3_init_0 rfl rfl ?_
  refine e_objI dX3_init_1 oi_RX3_3 (Nat.le_of_ble_eq_true rfl) ?_
  refine e_aload_n 0 dX3_init_4 rfl rfl ?_
  refine e_bipush (v := (10 : Int32)) dX3_init_5 (by decide) ?_
  obtain ⟨q1, h⟩ := gz_some h
  replace q1 := of_decide_eq_true q1
  refine e_newaI dX3_init_7 (tw1 86 rfl rfl) q1.1 (by decide) (by decide) (by decide) q1.2.1 q1.2.2 ?_
  obtain ⟨z2, q3, h⟩ := lt_some h
  rw [← q3]
  obtain ⟨μ4, q5, h⟩ := lt_some h
  refine m_nm q5 ?_
  obtain ⟨q6, h⟩ := gz_some h
  replace q6 := of_decide_eq_true q6
  refine e_putrF dX3_init_9 fl_RX3_9 q6.1 q6.2 rfl rfl rfl ⟨rfl, fun _ => ⟨rfl, rfl⟩⟩ ?_
  obtain ⟨μ7, q8, h⟩ := lt_some h
  refine m_nm q8 ?_
  refine e_aload_n 0 dX3_init_12 rfl rfl ?_
  refine e_bipush (v := (10 : Int32)) dX3_init_13 (by decide) ?_
  obtain ⟨q9, h⟩ := gz_some h
  replace q9 := of_decide_eq_true q9
  refine e_newaI dX3_init_15 (tw1 86 rfl rfl) q9.1 (by decide) (by decide) (by decide) q9.2.1 q9.2.2 ?_
  obtain ⟨z10, q11, h⟩ := lt_some h
  rw [← q11]
  obtain ⟨μ12, q13, h⟩ := lt_some h
  refine m_nm q13 ?_
  obtain ⟨q14, h⟩ := gz_some h
  replace q14 := of_decide_eq_true q14
  refine e_putrF dX3_init_17 fl_RX3_15 q14.1 q14.2 rfl rfl rfl ⟨rfl, fun _ => ⟨rfl, rfl⟩⟩ ?_
  obtain ⟨μ15, q16, h⟩ := lt_some h
  refine m_nm q16 ?_
  refine e_aload_n 0 dX3_init_20 rfl rfl ?_
  refine e_bipush (v := (10 : Int32)) dX3_init_21 (by decide) ?_
  obtain ⟨q17, h⟩ := gz_some h
  replace q17 := of_decide_eq_true q17
  refine e_newaI dX3_init_23 (tw1 86 rfl rfl) q17.1 (by decide) (by decide) (by decide) q17.2.1 q17.2.2 ?_
  obtain ⟨z18, q19, h⟩ := lt_some h
  rw [← q19]
  obtain ⟨μ20, q21, h⟩ := lt_some h
  refine m_nm q21 ?_
  obtain ⟨q22, h⟩ := gz_some h
  replace q22 := of_decide_eq_true q22
  refine e_putrF dX3_init_25 fl_RX3_18 q22.1 q22.2 rfl rfl rfl ⟨rfl, fun _ => ⟨rfl, rfl⟩⟩ ?_
  obtain ⟨μ23, q24, h⟩ := lt_some h
  refine m_nm q24 ?_
  obtain ⟨q25, h⟩ := gz_some h
  replace q25 := of_decide_eq_true q25
  obtain rfl := Option.some.inj h
  exact e_ret rfl ⟨⟨rfl, rfl⟩, q25⟩ rfl dX3_init_28
abbrev yy_X5_init : mm_Y := (yX5_init, cX5_init, 1, none)
theorem dX5_init_0 : decode cX5_init 0 = .ok (.aload_n 0, 1) := by decide +kernel
theorem dX5_init_1 : decode cX5_init 1 = .ok (.invokespecial 3, 3) := by decide +kernel
theorem dX5_init_4 : decode cX5_init 4 = .ok (.aload_n 0, 1) := by decide +kernel
theorem dX5_init_5 : decode cX5_init 5 = .ok (.sipush 400, 3) := by decide +kernel
theorem dX5_init_8 : decode cX5_init 8 = .ok (.newarray .int, 2) := by decide +kernel
theorem dX5_init_10 : decode cX5_init 10 = .ok (.putfield 9, 3) := by decide +kernel
theorem dX5_init_13 : decode cX5_init 13 = .ok (.return_, 1) := by decide +kernel
def fD_X5_init (a0 : Nat) (μ : mm_M) : Option mm_M :=
    lt (mn μ) fun n0 =>
    gz (decide (mm_K (mn μ) = (12, 400) ∧ n0 ≤ mn μ ∧ mn μ + 1 ≤ n0 + 1)) <|
    lt (mn μ) fun z2 =>
    lt (mu_n μ) fun μ4 =>
    gz (decide ((mm_K a0).1 = 5 ∧ a0 < mn μ4)) <|
    lt (mu_r μ4 a0 0 (some z2)) fun μ7 =>
    gz (decide (mn μ7 = n0 + 1)) <|
    some μ7
theorem vD_X5_init {g : mm_G} (d : Nat) {a0 : Nat} {μ res : mm_M} (h : fD_X5_init a0 μ = some res) : mm_MV g (d + 1) yy_X5_init 1 [.ref a0] μ (fun v u => v = .null ∧ u = res) := by
  refine mm_of_EV (by decide) (by rw [mm_lgl]; exact Nat.le_of_ble_eq_true rfl) ?_
  unfold fD_X5_init at h
  obtain ⟨n0, hn0, h⟩ := lt_some h
  rw [← hn0]
  show mm_EV g (d + 1) yy_X5_init 1 n0 0 [(0, .ref a0)] [] μ (dq res (n0 + 1))
  refine e_aload_n 0 dX5_init_0 rfl rfl ?_
  refine e_objI dX5_init_1 oi_RX5_3 (Nat.le_of_ble_eq_true rfl) ?_
  refine e_aload_n 0 dX5_init_4 rfl rfl ?_
  refine e_sipush (v := (400 : Int32)) dX5_init_5 (by decide) ?_
  obtain ⟨q1, h⟩ := gz_some h
  replace q1 := of_decide_eq_true q1
  refine e_newaI dX5_init_8 (tw1 86 rfl rfl) q1.1 (by decide) (by decide) (by decide) q1.2.1 q1.2.2 ?_
  obtain ⟨z2, q3, h⟩ := lt_some h
  rw [← q3]
  obtain ⟨μ4, q5, h⟩ := lt_some h
  refine m_nm q5 ?_
  obtain ⟨q6, h⟩ := gz_some h
  replace q6 := of_decide_eq_true q6
  refine e_putrF dX5_init_10 fl_RX5_9 q6.1 q6.2 rfl rfl rfl ⟨rfl, fun _ => ⟨rfl, rfl⟩⟩ ?_
  obtain ⟨μ7, q8, h⟩ := lt_some h
  refine m_nm q8 ?_
  obtain ⟨q9, h⟩ := gz_some h
  replace q9 := of_decide_eq_true q9
  obtain rfl := Option.some.inj h
  exact e_ret rfl ⟨⟨rfl, rfl⟩, q9⟩ rfl dX5_init_13
abbrev yy_X6_init : mm_Y := (yX6_init, cX6_init, 1, none)
theorem dX6_init_0 : decode cX6_init 0 = .ok (.aload_n 0, 1) := by decide +kernel
theorem dX6_init_1 : decode cX6_init 1 = .ok (.invokespecial 3, 3) := by decide +kernel
theorem dX6_init_4 : decode cX6_init 4 = .ok (.aload_n 0, 1) := by decide +kernel
theorem dX6_init_5 : decode cX6_init 5 = .ok (.sipush 400, 3) := by decide +kernel
theorem dX6_init_8 : decode cX6_init 8 = .ok (.newarray .byte, 2) := by decide +kernel
theorem dX6_init_10 : decode cX6_init 10 = .ok (.putfield 9, 3) := by decide +kernel
theorem dX6_init_13 : decode cX6_init 13 = .ok (.return_, 1) := by decide +kernel
def fD_X6_init (a0 : Nat) (μ : mm_M) : Option mm_M :=
    lt (mn μ) fun n0 =>
    gz (decide (mm_K (mn μ) = (11, 400) ∧ n0 ≤ mn μ ∧ mn μ + 1 ≤ n0 + 1)) <|
    lt (mn μ) fun z2 =>
    lt (mu_n μ) fun μ4 =>
    gz (decide ((mm_K a0).1 = 6 ∧ a0 < mn μ4)) <|
    lt (mu_r μ4 a0 0 (some z2)) fun μ7 =>
    gz (decide (mn μ7 = n0 + 1)) <|
    some μ7
theorem vD_X6_init {g : mm_G} (d : Nat) {a0 : Nat} {μ res : mm_M} (h : fD_X6_init a0 μ = some res) : mm_MV g (d + 1) yy_X6_init 1 [.ref a0] μ (fun v u => v = .null ∧ u = res) := by
  refine mm_of_EV (by decide) (by rw [mm_lgl]; exact Nat.le_of_ble_eq_true rfl) ?_
  unfold fD_X6_init at h
  obtain ⟨n0, hn0, h⟩ := lt_some h
  rw [← hn0]
  show mm_EV g (d + 1) yy_X6_init 1 n0 0 [(0, .ref a0)] [] μ (dq res (n0 + 1))
  refine e_aload_n 0 dX6_init_0 rfl rfl ?_
  refine e_objI dX6_init_1 oi_RX6_3 (Nat.le_of_ble_eq_true rfl) ?_
  refine e_aload_n 0 dX6_init_4 rfl rfl ?_
  refine e_sipush (v := (400 : Int32)) dX6_init_5 (by decide) ?_
  obtain ⟨q1, h⟩ := gz_some h
  replace q1 := of_decide_eq_true q1
  refine e_newaB dX6_init_8 (tw1 44 rfl rfl) q1.1 (by decide) (by decide) (by decide) q1.2.1 q1.2.2 ?_
  obtain ⟨z2, q3, h⟩ := lt_some h
  rw [← q3]
  obtain ⟨μ4, q5, h⟩ := lt_some h
  refine m_nm q5 ?_
  obtain ⟨q6, h⟩ := gz_some h
  replace q6 := of_decide_eq_true q6
  refine e_putrF dX6_init_10 fl_RX6_9 q6.1 q6.2 rfl rfl rfl ⟨rfl, fun _ => ⟨rfl, rfl⟩⟩ ?_
  obtain ⟨μ7, q8, h⟩ := lt_some h
  refine m_nm q8 ?_
  obtain ⟨q9, h⟩ := gz_some h
  replace q9 := of_decide_eq_true q9
  obtain rfl := Option.some.inj h
  exact e_ret rfl ⟨⟨rfl, rfl⟩, q9⟩ rfl dX6_init_13
abbrev yy_X8_init : mm_Y := (yX8_init, cX8_init, 1, none)
theorem dX8_init_0 : decode cX8_init 0 = .ok (.aload_n 0, 1) := by decide +kernel
theorem dX8_init_1 : decode cX8_init 1 = .ok (.invokespecial 3, 3) := by decide +kernel
theorem dX8_init_4 : decode cX8_init 4 = .ok (.aload_n 0, 1) := by decide +kernel
theorem dX8_init_5 : decode cX8_init 5 = .ok (.new 9, 3) := by decide +kernel
theorem dX8_init_8 : decode cX8_init 8 = .ok (.dup, 1) := by decide +kernel
theorem dX8_init_9 : decode cX8_init 9 = .ok (.invokespecial 11, 3) := by decide +kernel
theorem dX8_init_12 : decode cX8_init 12 = .ok (.putfield 12, 3) := by decide +kernel
theorem dX8_init_15 : decode cX8_init 15 = .ok (.aload_n 0, 1) := by decide +kernel
theorem dX8_init_16 : decode cX8_init 16 = .ok (.new 18, 3) := by decide +kernel
theorem dX8_init_19 : decode cX8_init 19 = .ok (.dup, 1) := by decide +kernel
theorem dX8_init_20 : decode cX8_init 20 = .ok (.invokespecial 20, 3) := by decide +kernel
theorem dX8_init_23 : decode cX8_init 23 = .ok (.putfield 21, 3) := by decide +kernel
theorem dX8_init_26 : decode cX8_init 26 = .ok (.aload_n 0, 1) := by decide +kernel
theorem dX8_init_27 : decode cX8_init 27 = .ok (.new 25, 3) := by decide +kernel
theorem dX8_init_30 : decode cX8_init 30 = .ok (.dup, 1) := by decide +kernel
theorem dX8_init_31 : decode cX8_init 31 = .ok (.invokespecial 27, 3) := by decide +kernel
theorem dX8_init_34 : decode cX8_init 34 = .ok (.putfield 28, 3) := by decide +kernel
theorem dX8_init_37 : decode cX8_init 37 = .ok (.aload_n 0, 1) := by decide +kernel
theorem dX8_init_38 : decode cX8_init 38 = .ok (.iconst (-1), 1) := by decide +kernel
theorem dX8_init_39 : decode cX8_init 39 = .ok (.putfield 32, 3) := by decide +kernel
theorem dX8_init_42 : decode cX8_init 42 = .ok (.return_, 1) := by decide +kernel
def fD_X8_init (a0 : Nat) (μ : mm_M) : Option mm_M :=
    lt (mn μ) fun n0 =>
    gz (decide ((mm_K (mn μ)).1 = 1 ∧ n0 ≤ mn μ ∧ mn μ + 1 ≤ n0 + 13)) <|
    lt (mn μ) fun z2 =>
    lt (mu_n μ) fun μ4 =>
    gz (decide (n0 ≤ mn μ4 ∧ mn μ4 + 3 ≤ n0 + 13)) <|
    bm (fD_X1_init z2 μ4) fun μ7 =>
    gz (decide ((mm_K a0).1 = 8 ∧ a0 < mn μ7)) <|
    lt (mu_r μ7 a0 0 (some z2)) fun μ10 =>
    gz (decide ((mm_K (mn μ10)).1 = 2 ∧ n0 ≤ mn μ10 ∧ mn μ10 + 1 ≤ n0 + 13)) <|
    lt (mn μ10) fun z13 =>
    lt (mu_n μ10) fun μ15 =>
    gz (decide (n0 ≤ mn μ15 ∧ mn μ15 + 4 ≤ n0 + 13)) <|
    bm (fD_X2_init z13 μ15) fun μ18 =>
    gz (decide ((mm_K a0).1 = 8 ∧ a0 < mn μ18)) <|
    lt (mu_r μ18 a0 1 (some z13)) fun μ21 =>
    gz (decide ((mm_K (mn μ21)).1 = 3 ∧ n0 ≤ mn μ21 ∧ mn μ21 + 1 ≤ n0 + 13)) <|
    lt (mn μ21) fun z24 =>
    lt (mu_n μ21) fun μ26 =>
    gz (decide (n0 ≤ mn μ26 ∧ mn μ26 + 3 ≤ n0 + 13)) <|
    bm (fD_X3_init z24 μ26) fun μ29 =>
    gz (decide ((mm_K a0).1 = 8 ∧ a0 < mn μ29)) <|
    lt (mu_r μ29 a0 2 (some z24)) fun μ32 =>
    gz (decide ((mm_K a0).1 = 8 ∧ a0 < mn μ32)) <|
    lt (mu_i μ32 a0 3 (-1 : Int32)) fun μ35 =>
    gz (decide (mn μ35 = n0 + 13)) <|
    some μ35
theorem vD_X8_init {g : mm_G} (d : Nat) {a0 : Nat} {μ res : mm_M} (h : fD_X8_init a0 μ = some res) : mm_MV g (d + 2) yy_X8_init 13 [.ref a0] μ (fun v u => v = .null ∧ u = res) := by
  refine mm_of_EV (by decide) (by rw [mm_lgl]; exact Nat.le_of_ble_eq_true rfl) ?_
  unfold fD_X8_init at h
  obtain ⟨n0, hn0, h⟩ := lt_some h
  rw [← hn0]
  show mm_EV g (d + 2) yy_X8_init 13 n0 0 [(0, .ref a0)] [] μ (dq res (n0 + 13))
  refine e_aload_n 0 dX8_init_0 rfl rfl ?_
  refine e_objI dX8_init_1 oi_RX8_3 (Nat.le_of_ble_eq_true rfl) ?_
  refine e_aload_n 0 dX8_init_4 rfl rfl ?_
  obtain ⟨q1, h⟩ := gz_some h
  replace q1 := of_decide_eq_true q1
  refine e_new dX8_init_5 nl_RX8_9 q1.1 q1.2.1 q1.2.2 ?_
  obtain ⟨z2, q3, h⟩ := lt_some h
  rw [← q3]
  obtain ⟨μ4, q5, h⟩ := lt_some h
  refine m_nm q5 ?_
  refine e_dup dX8_init_8 rfl ?_
  obtain ⟨q6, h⟩ := gz_some h
  replace q6 := of_decide_eq_true q6
  obtain ⟨μ7, q8, h⟩ := bm_some h
  refine e_callN (av := []) dX8_init_9 mn_RX8_11 (fun U H h => h.2.2.2.2.2.2.2.2.2.2.2.2.2.1) rfl (vD_X1_init (d + 0) q8) q6.1 q6.2 (Nat.le_of_ble_eq_true rfl) (fun u hu _ => ?_)
  obtain ⟨_, rfl⟩ := hu
  obtain ⟨q9, h⟩ := gz_some h
  replace q9 := of_decide_eq_true q9
  refine e_putrF dX8_init_12 fl_RX8_12 q9.1 q9.2 rfl rfl rfl ⟨rfl, fun _ => ⟨rfl, rfl⟩⟩ ?_
  obtain ⟨μ10, q11, h⟩ := lt_some h
  refine m_nm q11 ?_
  refine e_aload_n 0 dX8_init_15 rfl rfl ?_
  obtain ⟨q12, h⟩ := gz_some h
  replace q12 := of_decide_eq_true q12
  refine e_new dX8_init_16 nl_RX8_18 q12.1 q12.2.1 q12.2.2 ?_
  obtain ⟨z13, q14, h⟩ := lt_some h
  rw [← q14]
  obtain ⟨μ15, q16, h⟩ := lt_some h
  refine m_nm q16 ?_
  refine e_dup dX8_init_19 rfl ?_
  obtain ⟨q17, h⟩ := gz_some h
  replace q17 := of_decide_eq_true q17
  obtain ⟨μ18, q19, h⟩ := bm_some h
  refine e_callIv (av := []) dX8_init_20 mi_RX8_20 rfl rfl (vD_X2_init (d + 0) q19) q17.1 q17.2 (Nat.le_of_ble_eq_true rfl) (fun u hu _ => ?_)
  obtain ⟨_, rfl⟩ := hu
  obtain ⟨q20, h⟩ := gz_some h
  replace q20 := of_decide_eq_true q20
  refine e_putrF dX8_init_23 fl_RX8_21 q20.1 q20.2 rfl rfl rfl ⟨rfl, fun _ => ⟨rfl, rfl⟩⟩ ?_
  obtain ⟨μ21, q22, h⟩ := lt_some h
  refine m_nm q22 ?_
  refine e_aload_n 0 dX8_init_26 rfl rfl ?_
  obtain ⟨q23, h⟩ := gz_some h
  replace q23 := of_decide_eq_true q23
  refine e_new dX8_init_27 nl_RX8_25 q23.1 q23.2.1 q23.2.2 ?_
  obtain ⟨z24, q25, h⟩ := lt_some h
  rw [← q25]
  obtain ⟨μ26, q27, h⟩ := lt_some h
  refine m_nm q27 ?_
  refine e_dup dX8_init_30 rfl ?_
  obtain ⟨q28, h⟩ := gz_some h
  replace q28 := of_decide_eq_true q28
  obtain ⟨μ29, q30, h⟩ := bm_some h
  refine e_callN (av := []) dX8_init_31 mn_RX8_27 (fun U H h => h.2.2.2.2.2.2.2.2.2.2.2.2.2.2) rfl (vD_X3_init (d + 0) q30) q28.1 q28.2 (Nat.le_of_ble_eq_true rfl) (fun u hu _ => ?_)
  obtain ⟨_, rfl⟩ := hu
  obtain ⟨q31, h⟩ := gz_some h
  replace q31 := of_decide_eq_true q31
  refine e_putrF dX8_init_34 fl_RX8_28 q31.1 q31.2 rfl rfl rfl ⟨rfl, fun _ => ⟨rfl, rfl⟩⟩ ?_
  obtain ⟨μ32, q33, h⟩ := lt_some h
  refine m_nm q33 ?_
  refine e_aload_n 0 dX8_init_37 rfl rfl ?_
  refine e_iconst (v := (-1 : Int32)) dX8_init_38 (by decide) ?_
  obtain ⟨q34, h⟩ := gz_some h
  replace q34 := of_decide_eq_true q34
  refine e_puti dX8_init_39 fl_RX8_32 q34.1 q34.2 rfl rfl rfl ?_
  obtain ⟨μ35, q36, h⟩ := lt_some h
  refine m_nm q36 ?_
  obtain ⟨q37, h⟩ := gz_some h
  replace q37 := of_decide_eq_true q37
  obtain rfl := Option.some.inj h
  exact e_ret rfl ⟨⟨rfl, rfl⟩, q37⟩ rfl dX8_init_42
abbrev yy_X4_init : mm_Y := (yX4_init, cX4_init, 2, none)
theorem dX4_init_0 : decode cX4_init 0 = .ok (.aload_n 0, 1) := by decide +kernel
theorem dX4_init_1 : decode cX4_init 1 = .ok (.invokespecial 3, 3) := by decide +kernel
theorem dX4_init_4 : decode cX4_init 4 = .ok (.aload_n 0, 1) := by decide +kernel
theorem dX4_init_5 : decode cX4_init 5 = .ok (.sipush 401, 3) := by decide +kernel
theorem dX4_init_8 : decode cX4_init 8 = .ok (.newarray .int, 2) := by decide +kernel
theorem dX4_init_10 : decode cX4_init 10 = .ok (.putfield 9, 3) := by decide +kernel
theorem dX4_init_13 : decode cX4_init 13 = .ok (.aload_n 0, 1) := by decide +kernel
theorem dX4_init_14 : decode cX4_init 14 = .ok (.sipush 401, 3) := by decide +kernel
theorem dX4_init_17 : decode cX4_init 17 = .ok (.newarray .int, 2) := by decide +kernel
theorem dX4_init_19 : decode cX4_init 19 = .ok (.putfield 15, 3) := by decide +kernel
theorem dX4_init_22 : decode cX4_init 22 = .ok (.aload_n 0, 1) := by decide +kernel
theorem dX4_init_23 : decode cX4_init 23 = .ok (.sipush 401, 3) := by decide +kernel
theorem dX4_init_26 : decode cX4_init 26 = .ok (.newarray .int, 2) := by decide +kernel
theorem dX4_init_28 : decode cX4_init 28 = .ok (.putfield 18, 3) := by decide +kernel
theorem dX4_init_31 : decode cX4_init 31 = .ok (.aload_n 0, 1) := by decide +kernel
theorem dX4_init_32 : decode cX4_init 32 = .ok (.aload_n 1, 1) := by decide +kernel
theorem dX4_init_33 : decode cX4_init 33 = .ok (.putfield 21, 3) := by decide +kernel
theorem dX4_init_36 : decode cX4_init 36 = .ok (.return_, 1) := by decide +kernel
def fD_X4_init (a0 : Nat) (a1 : Nat) (μ : mm_M) : Option mm_M :=
    lt (mn μ) fun n0 =>
    gz (decide (mm_K (mn μ) = (12, 401) ∧ n0 ≤ mn μ ∧ mn μ + 1 ≤ n0 + 3)) <|
    lt (mn μ) fun z2 =>
    lt (mu_n μ) fun μ4 =>
    gz (decide ((mm_K a0).1 = 4 ∧ a0 < mn μ4)) <|
    lt (mu_r μ4 a0 1 (some z2)) fun μ7 =>
    gz (decide (mm_K (mn μ7) = (12, 401) ∧ n0 ≤ mn μ7 ∧ mn μ7 + 1 ≤ n0 + 3)) <|
    lt (mn μ7) fun z10 =>
    lt (mu_n μ7) fun μ12 =>
    gz (decide ((mm_K a0).1 = 4 ∧ a0 < mn μ12)) <|
    lt (mu_r μ12 a0 2 (some z10)) fun μ15 =>
    gz (decide (mm_K (mn μ15) = (12, 401) ∧ n0 ≤ mn μ15 ∧ mn μ15 + 1 ≤ n0 + 3)) <|
    lt (mn μ15) fun z18 =>
    lt (mu_n μ15) fun μ20 =>
    gz (decide ((mm_K a0).1 = 4 ∧ a0 < mn μ20)) <|
    lt (mu_r μ20 a0 3 (some z18)) fun μ23 =>
    gz (decide ((mm_K a0).1 = 4 ∧ a0 < mn μ23)) <|
    lt (mu_r μ23 a0 0 (some a1)) fun μ26 =>
    gz (decide (mn μ26 = n0 + 3)) <|
    some μ26
theorem vD_X4_init {g : mm_G} (d : Nat) {a0 : Nat} {a1 : Nat} {μ res : mm_M} (h : fD_X4_init a0 a1 μ = some res) : mm_MV g (d + 1) yy_X4_init 3 [.ref a0, .ref a1] μ (fun v u => v = .null ∧ u = res) := by
  refine mm_of_EV (by decide) (by rw [mm_lgl]; exact Nat.le_of_ble_eq_true rfl) ?_
  unfold fD_X4_init at h
  obtain ⟨n0, hn0, h⟩ := lt_some h
  rw [← hn0]
  show mm_EV g (d + 1) yy_X4_init 3 n0 0 [(0, .ref a0), (1, .ref a1)] [] μ (dq res (n0 + 3))
  refine e_aload_n 0 dX4_init_0 rfl rfl ?_
  refine e_objI dX4_init_1 oi_RX4_3 (Nat.le_of_ble_eq_true rfl) ?_
  refine e_aload_n 0 dX4_init_4 rfl rfl ?_
  refine e_sipush (v := (401 : Int32)) dX4_init_5 (by decide) ?_
  obtain ⟨q1, h⟩ := gz_some h
  replace q1 := of_decide_eq_true q1
  refine e_newaI dX4_init_8 (tw1 86 rfl rfl) q1.1 (by decide) (by decide) (by decide) q1.2.1 q1.2.2 ?_
  obtain ⟨z2, q3, h⟩ := lt_some h
  rw [← q3]
  obtain ⟨μ4, q5, h⟩ := lt_some h
  refine m_nm q5 ?_
  obtain ⟨q6, h⟩ := gz_some h
  replace q6 := of_decide_eq_true q6
  refine e_putrF dX4_init_10 fl_RX4_9 q6.1 q6.2 rfl rfl rfl ⟨rfl, fun _ => ⟨rfl, rfl⟩⟩ ?_
  obtain ⟨μ7, q8, h⟩ := lt_some h
  refine m_nm q8 ?_
  refine e_aload_n 0 dX4_init_13 rfl rfl ?_
  refine e_sipush (v := (401 : Int32)) dX4_init_14 (by decide) ?_
  obtain ⟨q9, h⟩ := gz_some h
  replace q9 := of_decide_eq_true q9
  refine e_newaI dX4_init_17 (tw1 86 rfl rfl) q9.1 (by decide) (by decide) (by decide) q9.2.1 q9.2.2 ?_
  obtain ⟨z10, q11, h⟩ := lt_some h
  rw [← q11]
  obtain ⟨μ12, q13, h⟩ := lt_some h
  refine m_nm q13 ?_
  obtain ⟨q14, h⟩ := gz_some h
  replace q14 := of_decide_eq_true q14
  refine e_putrF dX4_init_19 fl_RX4_15 q14.1 q14.2 rfl rfl rfl ⟨rfl, fun _ => ⟨rfl, rfl⟩⟩ ?_
  obtain ⟨μ15, q16, h⟩ := lt_some h
  refine m_nm q16 ?_
  refine e_aload_n 0 dX4_init_22 rfl rfl ?_
  refine e_sipush (v := (401 : Int32)) dX4_init_23 (by decide) ?_
  obtain ⟨q17, h⟩ := gz_some h
  replace q17 := of_decide_eq_true q17
  refine e_newaI dX4_init_26 (tw1 86 rfl rfl) q17.1 (by decide) (by decide) (by decide) q17.2.1 q17.2.2 ?_
  obtain ⟨z18, q19, h⟩ := lt_some h
  rw [← q19]
  obtain ⟨μ20, q21, h⟩ := lt_some h
  refine m_nm q21 ?_
  obtain ⟨q22, h⟩ := gz_some h
  replace q22 := of_decide_eq_true q22
  refine e_putrF dX4_init_28 fl_RX4_18 q22.1 q22.2 rfl rfl rfl ⟨rfl, fun _ => ⟨rfl, rfl⟩⟩ ?_
  obtain ⟨μ23, q24, h⟩ := lt_some h
  refine m_nm q24 ?_
  refine e_aload_n 0 dX4_init_31 rfl rfl ?_
  refine e_aload_n 1 dX4_init_32 rfl rfl ?_
  obtain ⟨q25, h⟩ := gz_some h
  replace q25 := of_decide_eq_true q25
  refine e_putrF dX4_init_33 fl_RX4_21 q25.1 q25.2 rfl rfl rfl ⟨rfl, fun _ => ⟨rfl, rfl⟩⟩ ?_
  obtain ⟨μ26, q27, h⟩ := lt_some h
  refine m_nm q27 ?_
  obtain ⟨q28, h⟩ := gz_some h
  replace q28 := of_decide_eq_true q28
  obtain rfl := Option.some.inj h
  exact e_ret rfl ⟨⟨rfl, rfl⟩, q28⟩ rfl dX4_init_36
abbrev yy_X0_init : mm_Y := (yX0_init, cX0_init, 2, none)
theorem dX0_init_0 : decode cX0_init 0 = .ok (.aload_n 0, 1) := by decide +kernel
theorem dX0_init_1 : decode cX0_init 1 = .ok (.invokespecial 3, 3) := by decide +kernel
theorem dX0_init_4 : decode cX0_init 4 = .ok (.aload_n 0, 1) := by decide +kernel
theorem dX0_init_5 : decode cX0_init 5 = .ok (.bipush 20, 2) := by decide +kernel
theorem dX0_init_7 : decode cX0_init 7 = .ok (.anewarray 9, 3) := by decide +kernel
theorem dX0_init_10 : decode cX0_init 10 = .ok (.putfield 11, 3) := by decide +kernel
theorem dX0_init_13 : decode cX0_init 13 = .ok (.iconst 0, 1) := by decide +kernel
theorem dX0_init_14 : decode cX0_init 14 = .ok (.istore_n 1, 1) := by decide +kernel
theorem dX0_init_15 : decode cX0_init 15 = .ok (.iload_n 1, 1) := by decide +kernel
theorem dX0_init_16 : decode cX0_init 16 = .ok (.bipush 20, 2) := by decide +kernel
theorem dX0_init_18 : decode cX0_init 18 = .ok (.if_icmp .ge 22, 3) := by decide +kernel
theorem dX0_init_21 : decode cX0_init 21 = .ok (.aload_n 0, 1) := by decide +kernel
theorem dX0_init_22 : decode cX0_init 22 = .ok (.getfield 11, 3) := by decide +kernel
theorem dX0_init_25 : decode cX0_init 25 = .ok (.iload_n 1, 1) := by decide +kernel
theorem dX0_init_26 : decode cX0_init 26 = .ok (.new 9, 3) := by decide +kernel
theorem dX0_init_29 : decode cX0_init 29 = .ok (.dup, 1) := by decide +kernel
theorem dX0_init_30 : decode cX0_init 30 = .ok (.invokespecial 17, 3) := by decide +kernel
theorem dX0_init_33 : decode cX0_init 33 = .ok (.aastore, 1) := by decide +kernel
theorem dX0_init_34 : decode cX0_init 34 = .ok (.iinc 1 1, 3) := by decide +kernel
theorem dX0_init_37 : decode cX0_init 37 = .ok (.goto (-22), 3) := by decide +kernel
theorem dX0_init_40 : decode cX0_init 40 = .ok (.return_, 1) := by decide +kernel
def fD_X0_init_15 (n0 : Nat) (a0 : Nat) (i1 : Int32) (μ : mm_M) : Option mm_M :=
  lpM lpN (fun (k15 : (Int32) → mm_M → Option mm_M) (v : Int32) (μ : mm_M) =>
    if (20 : Int32) ≤ v then
      gz (decide (mn μ = n0 + 101)) <|
      some μ
    else
      gz (decide ((mm_K a0).1 = 0 ∧ a0 < mn μ)) <|
      br (mr μ a0 0) fun r4 =>
      gz (decide ((mm_K (mn μ)).1 = 2 ∧ n0 ≤ mn μ ∧ mn μ + 1 ≤ n0 + 101)) <|
      lt (mn μ) fun z7 =>
      lt (mu_n μ) fun μ9 =>
      gz (decide (n0 ≤ mn μ9 ∧ mn μ9 + 4 ≤ n0 + 101)) <|
      bm (fD_X2_init z7 μ9) fun μ12 =>
      gz (decide ((mm_K r4).1 = 15 ∧ r4 < mn μ12 ∧ (mm_K z7).1 = 2 ∧ z7 < mn μ12)) <|
      gd v (mm_K r4).2 <|
      lt (mu_r μ12 r4 v.toNatClampNeg (some z7)) fun μ16 =>
      lt (v + Int32.ofInt (1)) fun x18 =>
      k15 x18 μ16) i1 μ
theorem vD_X0_init_15 {g : mm_G} (d : Nat) {n0 : Nat} {a0 : Nat} {i1 : Int32} {μ res : mm_M}  (h : fD_X0_init_15 n0 a0 i1 μ = some res) : mm_EV g (d + 2) yy_X0_init 101 n0 15 [(0, .ref a0), (1, .int i1)] [] μ (dq res (n0 + 101)) := by
  unfold fD_X0_init_15 at h
  refine lpM_ind (P := fun v μ => mm_EV g (d + 2) yy_X0_init 101 n0 15 [(0, .ref a0), (1, .int v)] [] μ (dq res (n0 + 101))) (fun k15 H15 v μ h => ?_) _ i1 μ h
  refine e_iload_n 1 dX0_init_15 rfl rfl ?_
  refine e_bipush (v := (20 : Int32)) dX0_init_16 (by decide) ?_
  refine e_icmp_ge 40 dX0_init_18 (by decide) (fun c1 => ?_) (fun c1 => ?_)
  · rw [if_pos c1] at h
    obtain ⟨q2, h⟩ := gz_some h
    replace q2 := of_decide_eq_true q2
    obtain rfl := Option.some.inj h
    exact e_ret rfl ⟨⟨rfl, rfl⟩, q2⟩ rfl dX0_init_40
  · rw [if_neg c1] at h
    refine e_aload_n 0 dX0_init_21 rfl rfl ?_
    obtain ⟨q3, h⟩ := gz_some h
    replace q3 := of_decide_eq_true q3
    obtain ⟨r4, q5, h⟩ := br_some h
    refine e_getr dX0_init_22 fl_RX0_11 q3.1 q3.2 q5 ?_
    refine e_iload_n 1 dX0_init_25 rfl rfl ?_
    obtain ⟨q6, h⟩ := gz_some h
    replace q6 := of_decide_eq_true q6
    refine e_new dX0_init_26 nl_RX0_9 q6.1 q6.2.1 q6.2.2 ?_
    obtain ⟨z7, q8, h⟩ := lt_some h
    rw [← q8]
    obtain ⟨μ9, q10, h⟩ := lt_some h
    refine m_nm q10 ?_
    refine e_dup dX0_init_29 rfl ?_
    obtain ⟨q11, h⟩ := gz_some h
    replace q11 := of_decide_eq_true q11
    obtain ⟨μ12, q13, h⟩ := bm_some h
    refine e_callIv (av := []) dX0_init_30 mi_RX0_17 rfl rfl (vD_X2_init (d + 0) q13) q11.1 q11.2 (Nat.le_of_ble_eq_true rfl) (fun u hu _ => ?_)
    obtain ⟨_, rfl⟩ := hu
    obtain ⟨q14, h⟩ := gz_some h
    replace q14 := of_decide_eq_true q14
    obtain ⟨q15, h⟩ := gd_some h
    refine e_aast15 dX0_init_33 (ka_2 q14.1) q14.2.1 q14.2.2.1 q14.2.2.2 q15 ?_
    obtain ⟨μ16, q17, h⟩ := lt_some h
    refine m_nm q17 ?_
    obtain ⟨x18, q19, h⟩ := lt_some h
    refine e_iinc (v := x18) (L' := [(0, .ref a0), (1, .int x18)]) 1 dX0_init_34 rfl q19.symm (by decide) rfl ?_
    refine e_goto 15 dX0_init_37 (by decide) ?_
    refine m_pick (L' := [(0, .ref a0), (1, .int x18)]) [0, 1] rfl ?_
    exact H15 x18 μ16 h
def fD_X0_init (a0 : Nat) (μ : mm_M) : Option mm_M :=
    lt (mn μ) fun n0 =>
    gz (decide (mm_K (mn μ) = (15, 20) ∧ n0 ≤ mn μ ∧ mn μ + 1 ≤ n0 + 101)) <|
    lt (mn μ) fun z21 =>
    lt (mu_n μ) fun μ23 =>
    gz (decide ((mm_K a0).1 = 0 ∧ a0 < mn μ23)) <|
    lt (mu_r μ23 a0 0 (some z21)) fun μ26 =>
    fD_X0_init_15 n0 a0 (0 : Int32) μ26
theorem vD_X0_init {g : mm_G} (d : Nat) {a0 : Nat} {μ res : mm_M} (h : fD_X0_init a0 μ = some res) : mm_MV g (d + 2) yy_X0_init 101 [.ref a0] μ (fun v u => v = .null ∧ u = res) := by
  refine mm_of_EV (by decide) (by rw [mm_lgl]; exact Nat.le_of_ble_eq_true rfl) ?_
  unfold fD_X0_init at h
  obtain ⟨n0, hn0, h⟩ := lt_some h
  rw [← hn0]
  show mm_EV g (d + 2) yy_X0_init 101 n0 0 [(0, .ref a0)] [] μ (dq res (n0 + 101))
  refine e_aload_n 0 dX0_init_0 rfl rfl ?_
  refine e_objI dX0_init_1 oi_RX0_3 (Nat.le_of_ble_eq_true rfl) ?_
  refine e_aload_n 0 dX0_init_4 rfl rfl ?_
  refine e_bipush (v := (20 : Int32)) dX0_init_5 (by decide) ?_
  obtain ⟨q20, h⟩ := gz_some h
  replace q20 := of_decide_eq_true q20
  refine e_newq15 dX0_init_7 (tw2 9 rfl rfl) q20.1 (by decide) (by decide) (by decide) q20.2.1 q20.2.2 ?_
  obtain ⟨z21, q22, h⟩ := lt_some h
  rw [← q22]
  obtain ⟨μ23, q24, h⟩ := lt_some h
  refine m_nm q24 ?_
  obtain ⟨q25, h⟩ := gz_some h
  replace q25 := of_decide_eq_true q25
  refine e_putrF dX0_init_10 fl_RX0_11 q25.1 q25.2 rfl rfl rfl ⟨rfl, fun _ => ⟨rfl, rfl⟩⟩ ?_
  obtain ⟨μ26, q27, h⟩ := lt_some h
  refine m_nm q27 ?_
  refine e_iconst (v := (0 : Int32)) dX0_init_13 (by decide) ?_
  refine e_istore_n (L' := [(0, .ref a0), (1, .int (0 : Int32))]) dX0_init_14 rfl (by decide) rfl ?_
  refine m_pick (L' := [(0, .ref a0), (1, .int (0 : Int32))]) [0, 1] rfl ?_
  exact vD_X0_init_15 d  h
abbrev yy_X7_init : mm_Y := (yX7_init, cX7_init, 3, none)
theorem dX7_init_0 : decode cX7_init 0 = .ok (.aload_n 0, 1) := by decide +kernel
theorem dX7_init_1 : decode cX7_init 1 = .ok (.invokespecial 3, 3) := by decide +kernel
theorem dX7_init_4 : decode cX7_init 4 = .ok (.aload_n 0, 1) := by decide +kernel
theorem dX7_init_5 : decode cX7_init 5 = .ok (.new 9, 3) := by decide +kernel
theorem dX7_init_8 : decode cX7_init 8 = .ok (.dup, 1) := by decide +kernel
theorem dX7_init_9 : decode cX7_init 9 = .ok (.invokespecial 11, 3) := by decide +kernel
theorem dX7_init_12 : decode cX7_init 12 = .ok (.putfield 12, 3) := by decide +kernel
theorem dX7_init_15 : decode cX7_init 15 = .ok (.aload_n 0, 1) := by decide +kernel
theorem dX7_init_16 : decode cX7_init 16 = .ok (.bipush 6, 2) := by decide +kernel
theorem dX7_init_18 : decode cX7_init 18 = .ok (.newarray .int, 2) := by decide +kernel
theorem dX7_init_20 : decode cX7_init 20 = .ok (.putfield 18, 3) := by decide +kernel
theorem dX7_init_23 : decode cX7_init 23 = .ok (.aload_n 0, 1) := by decide +kernel
theorem dX7_init_24 : decode cX7_init 24 = .ok (.bipush 6, 2) := by decide +kernel
theorem dX7_init_26 : decode cX7_init 26 = .ok (.newarray .int, 2) := by decide +kernel
theorem dX7_init_28 : decode cX7_init 28 = .ok (.putfield 22, 3) := by decide +kernel
theorem dX7_init_31 : decode cX7_init 31 = .ok (.aload_n 0, 1) := by decide +kernel
theorem dX7_init_32 : decode cX7_init 32 = .ok (.bipush 6, 2) := by decide +kernel
theorem dX7_init_34 : decode cX7_init 34 = .ok (.newarray .int, 2) := by decide +kernel
theorem dX7_init_36 : decode cX7_init 36 = .ok (.putfield 25, 3) := by decide +kernel
theorem dX7_init_39 : decode cX7_init 39 = .ok (.aload_n 0, 1) := by decide +kernel
theorem dX7_init_40 : decode cX7_init 40 = .ok (.bipush 13, 2) := by decide +kernel
theorem dX7_init_42 : decode cX7_init 42 = .ok (.newarray .long, 2) := by decide +kernel
theorem dX7_init_44 : decode cX7_init 44 = .ok (.putfield 28, 3) := by decide +kernel
theorem dX7_init_47 : decode cX7_init 47 = .ok (.aload_n 0, 1) := by decide +kernel
theorem dX7_init_48 : decode cX7_init 48 = .ok (.bipush 48, 2) := by decide +kernel
theorem dX7_init_50 : decode cX7_init 50 = .ok (.newarray .long, 2) := by decide +kernel
theorem dX7_init_52 : decode cX7_init 52 = .ok (.putfield 32, 3) := by decide +kernel
theorem dX7_init_55 : decode cX7_init 55 = .ok (.aload_n 0, 1) := by decide +kernel
theorem dX7_init_56 : decode cX7_init 56 = .ok (.aload_n 1, 1) := by decide +kernel
theorem dX7_init_57 : decode cX7_init 57 = .ok (.putfield 35, 3) := by decide +kernel
theorem dX7_init_60 : decode cX7_init 60 = .ok (.aload_n 0, 1) := by decide +kernel
theorem dX7_init_61 : decode cX7_init 61 = .ok (.aload_n 2, 1) := by decide +kernel
theorem dX7_init_62 : decode cX7_init 62 = .ok (.putfield 39, 3) := by decide +kernel
theorem dX7_init_65 : decode cX7_init 65 = .ok (.return_, 1) := by decide +kernel
def fD_X7_init (a0 : Nat) (a1 : Nat) (a2 : Nat) (μ : mm_M) : Option mm_M :=
    lt (mn μ) fun n0 =>
    gz (decide ((mm_K (mn μ)).1 = 2 ∧ n0 ≤ mn μ ∧ mn μ + 1 ≤ n0 + 10)) <|
    lt (mn μ) fun z2 =>
    lt (mu_n μ) fun μ4 =>
    gz (decide (n0 ≤ mn μ4 ∧ mn μ4 + 4 ≤ n0 + 10)) <|
    bm (fD_X2_init z2 μ4) fun μ7 =>
    gz (decide ((mm_K a0).1 = 7 ∧ a0 < mn μ7)) <|
    lt (mu_r μ7 a0 1 (some z2)) fun μ10 =>
    gz (decide (mm_K (mn μ10) = (12, 6) ∧ n0 ≤ mn μ10 ∧ mn μ10 + 1 ≤ n0 + 10)) <|
    lt (mn μ10) fun z13 =>
    lt (mu_n μ10) fun μ15 =>
    gz (decide ((mm_K a0).1 = 7 ∧ a0 < mn μ15)) <|
    lt (mu_r μ15 a0 6 (some z13)) fun μ18 =>
    gz (decide (mm_K (mn μ18) = (12, 6) ∧ n0 ≤ mn μ18 ∧ mn μ18 + 1 ≤ n0 + 10)) <|
    lt (mn μ18) fun z21 =>
    lt (mu_n μ18) fun μ23 =>
    gz (decide ((mm_K a0).1 = 7 ∧ a0 < mn μ23)) <|
    lt (mu_r μ23 a0 8 (some z21)) fun μ26 =>
    gz (decide (mm_K (mn μ26) = (12, 6) ∧ n0 ≤ mn μ26 ∧ mn μ26 + 1 ≤ n0 + 10)) <|
    lt (mn μ26) fun z29 =>
    lt (mu_n μ26) fun μ31 =>
    gz (decide ((mm_K a0).1 = 7 ∧ a0 < mn μ31)) <|
    lt (mu_r μ31 a0 9 (some z29)) fun μ34 =>
    gz (decide (mm_K (mn μ34) = (13, 13) ∧ n0 ≤ mn μ34 ∧ mn μ34 + 1 ≤ n0 + 10)) <|
    lt (mn μ34) fun z37 =>
    lt (mu_n μ34) fun μ39 =>
    gz (decide ((mm_K a0).1 = 7 ∧ a0 < mn μ39)) <|
    lt (mu_r μ39 a0 10 (some z37)) fun μ42 =>
    gz (decide (mm_K (mn μ42) = (13, 48) ∧ n0 ≤ mn μ42 ∧ mn μ42 + 1 ≤ n0 + 10)) <|
    lt (mn μ42) fun z45 =>
    lt (mu_n μ42) fun μ47 =>
    gz (decide ((mm_K a0).1 = 7 ∧ a0 < mn μ47)) <|
    lt (mu_r μ47 a0 11 (some z45)) fun μ50 =>
    gz (decide ((mm_K a0).1 = 7 ∧ a0 < mn μ50)) <|
    lt (mu_r μ50 a0 0 (some a1)) fun μ53 =>
    gz (decide ((mm_K a0).1 = 7 ∧ a0 < mn μ53)) <|
    lt (mu_r μ53 a0 2 (some a2)) fun μ56 =>
    gz (decide (mn μ56 = n0 + 10)) <|
    some μ56
theorem vD_X7_init {g : mm_G} (d : Nat) {a0 : Nat} {a1 : Nat} {a2 : Nat} {μ res : mm_M} (h : fD_X7_init a0 a1 a2 μ = some res) : mm_MV g (d + 2) yy_X7_init 10 [.ref a0, .ref a1, .ref a2] μ (fun v u => v = .null ∧ u = res) := by
  refine mm_of_EV (by decide) (by rw [mm_lgl]; exact Nat.le_of_ble_eq_true rfl) ?_
  unfold fD_X7_init at h
  obtain ⟨n0, hn0, h⟩ := lt_some h
  rw [← hn0]
  show mm_EV g (d + 2) yy_X7_init 10 n0 0 [(0, .ref a0), (1, .ref a1), (2, .ref a2)] [] μ (dq res (n0 + 10))
  refine e_aload_n 0 dX7_init_0 rfl rfl ?_
  refine e_objI dX7_init_1 oi_RX7_3 (Nat.le_of_ble_eq_true rfl) ?_
  refine e_aload_n 0 dX7_init_4 rfl rfl ?_
  obtain ⟨q1, h⟩ := gz_some h
  replace q1 := of_decide_eq_true q1
  refine e_new dX7_init_5 nl_RX7_9 q1.1 q1.2.1 q1.2.2 ?_
  obtain ⟨z2, q3, h⟩ := lt_some h
  rw [← q3]
  obtain ⟨μ4, q5, h⟩ := lt_some h
  refine m_nm q5 ?_
  refine e_dup dX7_init_8 rfl ?_
  obtain ⟨q6, h⟩ := gz_some h
  replace q6 := of_decide_eq_true q6
  obtain ⟨μ7, q8, h⟩ := bm_some h
  refine e_callIv (av := []) dX7_init_9 mi_RX7_11 rfl rfl (vD_X2_init (d + 0) q8) q6.1 q6.2 (Nat.le_of_ble_eq_true rfl) (fun u hu _ => ?_)
  obtain ⟨_, rfl⟩ := hu
  obtain ⟨q9, h⟩ := gz_some h
  replace q9 := of_decide_eq_true q9
  refine e_putrF dX7_init_12 fl_RX7_12 q9.1 q9.2 rfl rfl rfl ⟨rfl, fun _ => ⟨rfl, rfl⟩⟩ ?_
  obtain ⟨μ10, q11, h⟩ := lt_some h
  refine m_nm q11 ?_
  refine e_aload_n 0 dX7_init_15 rfl rfl ?_
  refine e_bipush (v := (6 : Int32)) dX7_init_16 (by decide) ?_
  obtain ⟨q12, h⟩ := gz_some h
  replace q12 := of_decide_eq_true q12
  refine e_newaI dX7_init_18 (tw1 86 rfl rfl) q12.1 (by decide) (by decide) (by decide) q12.2.1 q12.2.2 ?_
  obtain ⟨z13, q14, h⟩ := lt_some h
  rw [← q14]
  obtain ⟨μ15, q16, h⟩ := lt_some h
  refine m_nm q16 ?_
  obtain ⟨q17, h⟩ := gz_some h
  replace q17 := of_decide_eq_true q17
  refine e_putrF dX7_init_20 fl_RX7_18 q17.1 q17.2 rfl rfl rfl ⟨rfl, fun _ => ⟨rfl, rfl⟩⟩ ?_
  obtain ⟨μ18, q19, h⟩ := lt_some h
  refine m_nm q19 ?_
  refine e_aload_n 0 dX7_init_23 rfl rfl ?_
  refine e_bipush (v := (6 : Int32)) dX7_init_24 (by decide) ?_
  obtain ⟨q20, h⟩ := gz_some h
  replace q20 := of_decide_eq_true q20
  refine e_newaI dX7_init_26 (tw1 86 rfl rfl) q20.1 (by decide) (by decide) (by decide) q20.2.1 q20.2.2 ?_
  obtain ⟨z21, q22, h⟩ := lt_some h
  rw [← q22]
  obtain ⟨μ23, q24, h⟩ := lt_some h
  refine m_nm q24 ?_
  obtain ⟨q25, h⟩ := gz_some h
  replace q25 := of_decide_eq_true q25
  refine e_putrF dX7_init_28 fl_RX7_22 q25.1 q25.2 rfl rfl rfl ⟨rfl, fun _ => ⟨rfl, rfl⟩⟩ ?_
  obtain ⟨μ26, q27, h⟩ := lt_some h
  refine m_nm q27 ?_
  refine e_aload_n 0 dX7_init_31 rfl rfl ?_
  refine e_bipush (v := (6 : Int32)) dX7_init_32 (by decide) ?_
  obtain ⟨q28, h⟩ := gz_some h
  replace q28 := of_decide_eq_true q28
  refine e_newaI dX7_init_34 (tw1 86 rfl rfl) q28.1 (by decide) (by decide) (by decide) q28.2.1 q28.2.2 ?_
  obtain ⟨z29, q30, h⟩ := lt_some h
  rw [← q30]
  obtain ⟨μ31, q32, h⟩ := lt_some h
  refine m_nm q32 ?_
  obtain ⟨q33, h⟩ := gz_some h
  replace q33 := of_decide_eq_true q33
  refine e_putrF dX7_init_36 fl_RX7_25 q33.1 q33.2 rfl rfl rfl ⟨rfl, fun _ => ⟨rfl, rfl⟩⟩ ?_
  obtain ⟨μ34, q35, h⟩ := lt_some h
  refine m_nm q35 ?_
  refine e_aload_n 0 dX7_init_39 rfl rfl ?_
  refine e_bipush (v := (13 : Int32)) dX7_init_40 (by decide) ?_
  obtain ⟨q36, h⟩ := gz_some h
  replace q36 := of_decide_eq_true q36
  refine e_newaJ dX7_init_42 (tw2 74 rfl rfl) q36.1 (by decide) (by decide) (by decide) q36.2.1 q36.2.2 ?_
  obtain ⟨z37, q38, h⟩ := lt_some h
  rw [← q38]
  obtain ⟨μ39, q40, h⟩ := lt_some h
  refine m_nm q40 ?_
  obtain ⟨q41, h⟩ := gz_some h
  replace q41 := of_decide_eq_true q41
  refine e_putrF dX7_init_44 fl_RX7_28 q41.1 q41.2 rfl rfl rfl ⟨rfl, fun _ => ⟨rfl, rfl⟩⟩ ?_
  obtain ⟨μ42, q43, h⟩ := lt_some h
  refine m_nm q43 ?_
  refine e_aload_n 0 dX7_init_47 rfl rfl ?_
  refine e_bipush (v := (48 : Int32)) dX7_init_48 (by decide) ?_
  obtain ⟨q44, h⟩ := gz_some h
  replace q44 := of_decide_eq_true q44
  refine e_newaJ dX7_init_50 (tw2 74 rfl rfl) q44.1 (by decide) (by decide) (by decide) q44.2.1 q44.2.2 ?_
  obtain ⟨z45, q46, h⟩ := lt_some h
  rw [← q46]
  obtain ⟨μ47, q48, h⟩ := lt_some h
  refine m_nm q48 ?_
  obtain ⟨q49, h⟩ := gz_some h
  replace q49 := of_decide_eq_true q49
  refine e_putrF dX7_init_52 fl_RX7_32 q49.1 q49.2 rfl rfl rfl ⟨rfl, fun _ => ⟨rfl, rfl⟩⟩ ?_
  obtain ⟨μ50, q51, h⟩ := lt_some h
  refine m_nm q51 ?_
  refine e_aload_n 0 dX7_init_55 rfl rfl ?_
  refine e_aload_n 1 dX7_init_56 rfl rfl ?_
  obtain ⟨q52, h⟩ := gz_some h
  replace q52 := of_decide_eq_true q52
  refine e_putrF dX7_init_57 fl_RX7_35 q52.1 q52.2 rfl rfl rfl ⟨rfl, fun _ => ⟨rfl, rfl⟩⟩ ?_
  obtain ⟨μ53, q54, h⟩ := lt_some h
  refine m_nm q54 ?_
  refine e_aload_n 0 dX7_init_60 rfl rfl ?_
  refine e_aload_n 2 dX7_init_61 rfl rfl ?_
  obtain ⟨q55, h⟩ := gz_some h
  replace q55 := of_decide_eq_true q55
  refine e_putr dX7_init_62 fl_RX7_39 q55.1 q55.2 rfl ⟨rfl, fun _ => ⟨rfl, rfl⟩⟩ ?_
  obtain ⟨μ56, q57, h⟩ := lt_some h
  refine m_nm q57 ?_
  obtain ⟨q58, h⟩ := gz_some h
  replace q58 := of_decide_eq_true q58
  obtain rfl := Option.some.inj h
  exact e_ret rfl ⟨⟨rfl, rfl⟩, q58⟩ rfl dX7_init_65
abbrev yy_X9_init : mm_Y := (yX9_init, cX9_init, 2, none)
theorem dX9_init_0 : decode cX9_init 0 = .ok (.aload_n 0, 1) := by decide +kernel
theorem dX9_init_1 : decode cX9_init 1 = .ok (.invokespecial 3, 3) := by decide +kernel
theorem dX9_init_4 : decode cX9_init 4 = .ok (.aload_n 0, 1) := by decide +kernel
theorem dX9_init_5 : decode cX9_init 5 = .ok (.new 9, 3) := by decide +kernel
theorem dX9_init_8 : decode cX9_init 8 = .ok (.dup, 1) := by decide +kernel
theorem dX9_init_9 : decode cX9_init 9 = .ok (.invokespecial 11, 3) := by decide +kernel
theorem dX9_init_12 : decode cX9_init 12 = .ok (.putfield 12, 3) := by decide +kernel
theorem dX9_init_15 : decode cX9_init 15 = .ok (.aload_n 0, 1) := by decide +kernel
theorem dX9_init_16 : decode cX9_init 16 = .ok (.new 16, 3) := by decide +kernel
theorem dX9_init_19 : decode cX9_init 19 = .ok (.dup, 1) := by decide +kernel
theorem dX9_init_20 : decode cX9_init 20 = .ok (.aload_n 0, 1) := by decide +kernel
theorem dX9_init_21 : decode cX9_init 21 = .ok (.getfield 12, 3) := by decide +kernel
theorem dX9_init_24 : decode cX9_init 24 = .ok (.invokespecial 18, 3) := by decide +kernel
theorem dX9_init_27 : decode cX9_init 27 = .ok (.putfield 21, 3) := by decide +kernel
theorem dX9_init_30 : decode cX9_init 30 = .ok (.aload_n 0, 1) := by decide +kernel
theorem dX9_init_31 : decode cX9_init 31 = .ok (.new 25, 3) := by decide +kernel
theorem dX9_init_34 : decode cX9_init 34 = .ok (.dup, 1) := by decide +kernel
theorem dX9_init_35 : decode cX9_init 35 = .ok (.invokespecial 27, 3) := by decide +kernel
theorem dX9_init_38 : decode cX9_init 38 = .ok (.putfield 28, 3) := by decide +kernel
theorem dX9_init_41 : decode cX9_init 41 = .ok (.aload_n 0, 1) := by decide +kernel
theorem dX9_init_42 : decode cX9_init 42 = .ok (.bipush 7, 2) := by decide +kernel
theorem dX9_init_44 : decode cX9_init 44 = .ok (.anewarray 32, 3) := by decide +kernel
theorem dX9_init_47 : decode cX9_init 47 = .ok (.putfield 34, 3) := by decide +kernel
theorem dX9_init_50 : decode cX9_init 50 = .ok (.iconst 0, 1) := by decide +kernel
theorem dX9_init_51 : decode cX9_init 51 = .ok (.istore_n 1, 1) := by decide +kernel
theorem dX9_init_52 : decode cX9_init 52 = .ok (.iload_n 1, 1) := by decide +kernel
theorem dX9_init_53 : decode cX9_init 53 = .ok (.bipush 6, 2) := by decide +kernel
theorem dX9_init_55 : decode cX9_init 55 = .ok (.if_icmp .gt 22, 3) := by decide +kernel
theorem dX9_init_58 : decode cX9_init 58 = .ok (.aload_n 0, 1) := by decide +kernel
theorem dX9_init_59 : decode cX9_init 59 = .ok (.getfield 34, 3) := by decide +kernel
theorem dX9_init_62 : decode cX9_init 62 = .ok (.iload_n 1, 1) := by decide +kernel
theorem dX9_init_63 : decode cX9_init 63 = .ok (.new 32, 3) := by decide +kernel
theorem dX9_init_66 : decode cX9_init 66 = .ok (.dup, 1) := by decide +kernel
theorem dX9_init_67 : decode cX9_init 67 = .ok (.invokespecial 38, 3) := by decide +kernel
theorem dX9_init_70 : decode cX9_init 70 = .ok (.aastore, 1) := by decide +kernel
theorem dX9_init_71 : decode cX9_init 71 = .ok (.iinc 1 1, 3) := by decide +kernel
theorem dX9_init_74 : decode cX9_init 74 = .ok (.goto (-22), 3) := by decide +kernel
theorem dX9_init_77 : decode cX9_init 77 = .ok (.aload_n 0, 1) := by decide +kernel
theorem dX9_init_78 : decode cX9_init 78 = .ok (.getfield 34, 3) := by decide +kernel
theorem dX9_init_81 : decode cX9_init 81 = .ok (.iconst 0, 1) := by decide +kernel
theorem dX9_init_82 : decode cX9_init 82 = .ok (.aaload, 1) := by decide +kernel
theorem dX9_init_83 : decode cX9_init 83 = .ok (.iconst 3, 1) := by decide +kernel
theorem dX9_init_84 : decode cX9_init 84 = .ok (.invokevirtual 39, 3) := by decide +kernel
theorem dX9_init_87 : decode cX9_init 87 = .ok (.aload_n 0, 1) := by decide +kernel
theorem dX9_init_88 : decode cX9_init 88 = .ok (.getfield 34, 3) := by decide +kernel
theorem dX9_init_91 : decode cX9_init 91 = .ok (.iconst 0, 1) := by decide +kernel
theorem dX9_init_92 : decode cX9_init 92 = .ok (.aaload, 1) := by decide +kernel
theorem dX9_init_93 : decode cX9_init 93 = .ok (.bipush 33, 2) := by decide +kernel
theorem dX9_init_95 : decode cX9_init 95 = .ok (.invokevirtual 39, 3) := by decide +kernel
theorem dX9_init_98 : decode cX9_init 98 = .ok (.aload_n 0, 1) := by decide +kernel
theorem dX9_init_99 : decode cX9_init 99 = .ok (.iconst 0, 1) := by decide +kernel
theorem dX9_init_100 : decode cX9_init 100 = .ok (.putfield 43, 3) := by decide +kernel
theorem dX9_init_103 : decode cX9_init 103 = .ok (.aload_n 0, 1) := by decide +kernel
theorem dX9_init_104 : decode cX9_init 104 = .ok (.new 47, 3) := by decide +kernel
theorem dX9_init_107 : decode cX9_init 107 = .ok (.dup, 1) := by decide +kernel
theorem dX9_init_108 : decode cX9_init 108 = .ok (.invokespecial 49, 3) := by decide +kernel
theorem dX9_init_111 : decode cX9_init 111 = .ok (.putfield 50, 3) := by decide +kernel
theorem dX9_init_114 : decode cX9_init 114 = .ok (.aload_n 0, 1) := by decide +kernel
theorem dX9_init_115 : decode cX9_init 115 = .ok (.iconst 4, 1) := by decide +kernel
theorem dX9_init_116 : decode cX9_init 116 = .ok (.anewarray 47, 3) := by decide +kernel
theorem dX9_init_119 : decode cX9_init 119 = .ok (.putfield 54, 3) := by decide +kernel
theorem dX9_init_122 : decode cX9_init 122 = .ok (.iconst 0, 1) := by decide +kernel
theorem dX9_init_123 : decode cX9_init 123 = .ok (.istore_n 1, 1) := by decide +kernel
theorem dX9_init_124 : decode cX9_init 124 = .ok (.iload_n 1, 1) := by decide +kernel
theorem dX9_init_125 : decode cX9_init 125 = .ok (.iconst 4, 1) := by decide +kernel
theorem dX9_init_126 : decode cX9_init 126 = .ok (.if_icmp .ge 22, 3) := by decide +kernel
theorem dX9_init_129 : decode cX9_init 129 = .ok (.aload_n 0, 1) := by decide +kernel
theorem dX9_init_130 : decode cX9_init 130 = .ok (.getfield 54, 3) := by decide +kernel
theorem dX9_init_133 : decode cX9_init 133 = .ok (.iload_n 1, 1) := by decide +kernel
theorem dX9_init_134 : decode cX9_init 134 = .ok (.new 47, 3) := by decide +kernel
theorem dX9_init_137 : decode cX9_init 137 = .ok (.dup, 1) := by decide +kernel
theorem dX9_init_138 : decode cX9_init 138 = .ok (.invokespecial 49, 3) := by decide +kernel
theorem dX9_init_141 : decode cX9_init 141 = .ok (.aastore, 1) := by decide +kernel
theorem dX9_init_142 : decode cX9_init 142 = .ok (.iinc 1 1, 3) := by decide +kernel
theorem dX9_init_145 : decode cX9_init 145 = .ok (.goto (-21), 3) := by decide +kernel
theorem dX9_init_148 : decode cX9_init 148 = .ok (.aload_n 0, 1) := by decide +kernel
theorem dX9_init_149 : decode cX9_init 149 = .ok (.iconst 4, 1) := by decide +kernel
theorem dX9_init_150 : decode cX9_init 150 = .ok (.newarray .boolean, 2) := by decide +kernel
theorem dX9_init_152 : decode cX9_init 152 = .ok (.putfield 58, 3) := by decide +kernel
theorem dX9_init_155 : decode cX9_init 155 = .ok (.aload_n 0, 1) := by decide +kernel
theorem dX9_init_156 : decode cX9_init 156 = .ok (.new 62, 3) := by decide +kernel
theorem dX9_init_159 : decode cX9_init 159 = .ok (.dup, 1) := by decide +kernel
theorem dX9_init_160 : decode cX9_init 160 = .ok (.invokespecial 64, 3) := by decide +kernel
theorem dX9_init_163 : decode cX9_init 163 = .ok (.putfield 65, 3) := by decide +kernel
theorem dX9_init_166 : decode cX9_init 166 = .ok (.aload_n 0, 1) := by decide +kernel
theorem dX9_init_167 : decode cX9_init 167 = .ok (.new 69, 3) := by decide +kernel
theorem dX9_init_170 : decode cX9_init 170 = .ok (.dup, 1) := by decide +kernel
theorem dX9_init_171 : decode cX9_init 171 = .ok (.aload_n 0, 1) := by decide +kernel
theorem dX9_init_172 : decode cX9_init 172 = .ok (.getfield 50, 3) := by decide +kernel
theorem dX9_init_175 : decode cX9_init 175 = .ok (.getfield 71, 3) := by decide +kernel
theorem dX9_init_178 : decode cX9_init 178 = .ok (.aload_n 0, 1) := by decide +kernel
theorem dX9_init_179 : decode cX9_init 179 = .ok (.getfield 34, 3) := by decide +kernel
theorem dX9_init_182 : decode cX9_init 182 = .ok (.iconst 0, 1) := by decide +kernel
theorem dX9_init_183 : decode cX9_init 183 = .ok (.aaload, 1) := by decide +kernel
theorem dX9_init_184 : decode cX9_init 184 = .ok (.invokespecial 74, 3) := by decide +kernel
theorem dX9_init_187 : decode cX9_init 187 = .ok (.putfield 77, 3) := by decide +kernel
theorem dX9_init_190 : decode cX9_init 190 = .ok (.aload_n 0, 1) := by decide +kernel
theorem dX9_init_191 : decode cX9_init 191 = .ok (.bipush 6, 2) := by decide +kernel
theorem dX9_init_193 : decode cX9_init 193 = .ok (.newarray .int, 2) := by decide +kernel
theorem dX9_init_195 : decode cX9_init 195 = .ok (.putfield 81, 3) := by decide +kernel
theorem dX9_init_198 : decode cX9_init 198 = .ok (.aload_n 0, 1) := by decide +kernel
theorem dX9_init_199 : decode cX9_init 199 = .ok (.bipush 72, 2) := by decide +kernel
theorem dX9_init_201 : decode cX9_init 201 = .ok (.newarray .int, 2) := by decide +kernel
theorem dX9_init_203 : decode cX9_init 203 = .ok (.putfield 85, 3) := by decide +kernel
theorem dX9_init_206 : decode cX9_init 206 = .ok (.aload_n 0, 1) := by decide +kernel
theorem dX9_init_207 : decode cX9_init 207 = .ok (.sipush 427, 3) := by decide +kernel
theorem dX9_init_210 : decode cX9_init 210 = .ok (.newarray .int, 2) := by decide +kernel
theorem dX9_init_212 : decode cX9_init 212 = .ok (.putfield 88, 3) := by decide +kernel
theorem dX9_init_215 : decode cX9_init 215 = .ok (.return_, 1) := by decide +kernel
def fD_X9_init_124 (n0 : Nat) (a0 : Nat) (i1 : Int32) (μ : mm_M) : Option mm_M :=
  lpM lpN (fun (k124 : (Int32) → mm_M → Option mm_M) (v : Int32) (μ : mm_M) =>
    if (4 : Int32) ≤ v then
      gz (decide (mm_K (mn μ) = (14, 4) ∧ n0 ≤ mn μ ∧ mn μ + 1 ≤ n0 + 213)) <|
      lt (mn μ) fun z3 =>
      lt (mu_n μ) fun μ5 =>
      gz (decide ((mm_K a0).1 = 9 ∧ a0 < mn μ5)) <|
      lt (mu_r μ5 a0 7 (some z3)) fun μ8 =>
      gz (decide ((mm_K (mn μ8)).1 = 0 ∧ n0 ≤ mn μ8 ∧ mn μ8 + 1 ≤ n0 + 213)) <|
      lt (mn μ8) fun z11 =>
      lt (mu_n μ8) fun μ13 =>
      gz (decide (n0 ≤ mn μ13 ∧ mn μ13 + 101 ≤ n0 + 213)) <|
      bm (fD_X0_init z11 μ13) fun μ16 =>
      gz (decide ((mm_K a0).1 = 9 ∧ a0 < mn μ16)) <|
      lt (mu_r μ16 a0 8 (some z11)) fun μ19 =>
      gz (decide ((mm_K (mn μ19)).1 = 7 ∧ n0 ≤ mn μ19 ∧ mn μ19 + 1 ≤ n0 + 213)) <|
      lt (mn μ19) fun z22 =>
      lt (mu_n μ19) fun μ24 =>
      gz (decide ((mm_K a0).1 = 9 ∧ a0 < mn μ24)) <|
      br (mr μ24 a0 5) fun r27 =>
      gz (decide ((mm_K r27).1 = 8 ∧ r27 < mn μ24)) <|
      br (mr μ24 r27 0) fun r30 =>
      gz (decide ((mm_K a0).1 = 9 ∧ a0 < mn μ24)) <|
      br (mr μ24 a0 3) fun r33 =>
      gz (decide ((mm_K r33).1 = 16 ∧ r33 < mn μ24)) <|
      gd (0 : Int32) (mm_K r33).2 <|
      br (mr μ24 r33 (0 : Int32).toNatClampNeg) fun r37 =>
      gz (decide (n0 ≤ mn μ24 ∧ mn μ24 + 10 ≤ n0 + 213)) <|
      bm (fD_X7_init z22 r30 r37 μ24) fun μ40 =>
      gz (decide ((mm_K a0).1 = 9 ∧ a0 < mn μ40)) <|
      lt (mu_r μ40 a0 9 (some z22)) fun μ43 =>
      gz (decide (mm_K (mn μ43) = (12, 6) ∧ n0 ≤ mn μ43 ∧ mn μ43 + 1 ≤ n0 + 213)) <|
      lt (mn μ43) fun z46 =>
      lt (mu_n μ43) fun μ48 =>
      gz (decide ((mm_K a0).1 = 9 ∧ a0 < mn μ48)) <|
      lt (mu_r μ48 a0 10 (some z46)) fun μ51 =>
      gz (decide (mm_K (mn μ51) = (12, 72) ∧ n0 ≤ mn μ51 ∧ mn μ51 + 1 ≤ n0 + 213)) <|
      lt (mn μ51) fun z54 =>
      lt (mu_n μ51) fun μ56 =>
      gz (decide ((mm_K a0).1 = 9 ∧ a0 < mn μ56)) <|
      lt (mu_r μ56 a0 11 (some z54)) fun μ59 =>
      gz (decide (mm_K (mn μ59) = (12, 427) ∧ n0 ≤ mn μ59 ∧ mn μ59 + 1 ≤ n0 + 213)) <|
      lt (mn μ59) fun z62 =>
      lt (mu_n μ59) fun μ64 =>
      gz (decide ((mm_K a0).1 = 9 ∧ a0 < mn μ64)) <|
      lt (mu_r μ64 a0 12 (some z62)) fun μ67 =>
      gz (decide (mn μ67 = n0 + 213)) <|
      some μ67
    else
      gz (decide ((mm_K a0).1 = 9 ∧ a0 < mn μ)) <|
      br (mr μ a0 6) fun r71 =>
      gz (decide ((mm_K (mn μ)).1 = 8 ∧ n0 ≤ mn μ ∧ mn μ + 1 ≤ n0 + 213)) <|
      lt (mn μ) fun z74 =>
      lt (mu_n μ) fun μ76 =>
      gz (decide (n0 ≤ mn μ76 ∧ mn μ76 + 13 ≤ n0 + 213)) <|
      bm (fD_X8_init z74 μ76) fun μ79 =>
      gz (decide ((mm_K r71).1 = 17 ∧ r71 < mn μ79 ∧ (mm_K z74).1 = 8 ∧ z74 < mn μ79)) <|
      gd v (mm_K r71).2 <|
      lt (mu_r μ79 r71 v.toNatClampNeg (some z74)) fun μ83 =>
      lt (v + Int32.ofInt (1)) fun x85 =>
      k124 x85 μ83) i1 μ
theorem vD_X9_init_124 {g : mm_G} (d : Nat) {n0 : Nat} {a0 : Nat} {i1 : Int32} {μ res : mm_M}  (h : fD_X9_init_124 n0 a0 i1 μ = some res) : mm_EV g (d + 3) yy_X9_init 213 n0 124 [(0, .ref a0), (1, .int i1)] [] μ (dq res (n0 + 213)) := by
  unfold fD_X9_init_124 at h
  refine lpM_ind (P := fun v μ => mm_EV g (d + 3) yy_X9_init 213 n0 124 [(0, .ref a0), (1, .int v)] [] μ (dq res (n0 + 213))) (fun k124 H124 v μ h => ?_) _ i1 μ h
  refine e_iload_n 1 dX9_init_124 rfl rfl ?_
  refine e_iconst (v := (4 : Int32)) dX9_init_125 (by decide) ?_
  refine e_icmp_ge 148 dX9_init_126 (by decide) (fun c1 => ?_) (fun c1 => ?_)
  · rw [if_pos c1] at h
    refine e_aload_n 0 dX9_init_148 rfl rfl ?_
    refine e_iconst (v := (4 : Int32)) dX9_init_149 (by decide) ?_
    obtain ⟨q2, h⟩ := gz_some h
    replace q2 := of_decide_eq_true q2
    refine e_newaZ dX9_init_150 (tw2 23 rfl rfl) q2.1 (by decide) (by decide) (by decide) q2.2.1 q2.2.2 ?_
    obtain ⟨z3, q4, h⟩ := lt_some h
    rw [← q4]
    obtain ⟨μ5, q6, h⟩ := lt_some h
    refine m_nm q6 ?_
    obtain ⟨q7, h⟩ := gz_some h
    replace q7 := of_decide_eq_true q7
    refine e_putrF dX9_init_152 fl_RX9_58 q7.1 q7.2 rfl rfl rfl ⟨rfl, fun _ => ⟨rfl, rfl⟩⟩ ?_
    obtain ⟨μ8, q9, h⟩ := lt_some h
    refine m_nm q9 ?_
    refine e_aload_n 0 dX9_init_155 rfl rfl ?_
    obtain ⟨q10, h⟩ := gz_some h
    replace q10 := of_decide_eq_true q10
    refine e_new dX9_init_156 nl_RX9_62 q10.1 q10.2.1 q10.2.2 ?_
    obtain ⟨z11, q12, h⟩ := lt_some h
    rw [← q12]
    obtain ⟨μ13, q14, h⟩ := lt_some h
    refine m_nm q14 ?_
    refine e_dup dX9_init_159 rfl ?_
    obtain ⟨q15, h⟩ := gz_some h
    replace q15 := of_decide_eq_true q15
    obtain ⟨μ16, q17, h⟩ := bm_some h
    refine e_callIv (av := []) dX9_init_160 mi_RX9_64 rfl rfl (vD_X0_init (d + 0) q17) q15.1 q15.2 (Nat.le_of_ble_eq_true rfl) (fun u hu _ => ?_)
    obtain ⟨_, rfl⟩ := hu
    obtain ⟨q18, h⟩ := gz_some h
    replace q18 := of_decide_eq_true q18
    refine e_putrF dX9_init_163 fl_RX9_65 q18.1 q18.2 rfl rfl rfl ⟨rfl, fun _ => ⟨rfl, rfl⟩⟩ ?_
    obtain ⟨μ19, q20, h⟩ := lt_some h
    refine m_nm q20 ?_
    refine e_aload_n 0 dX9_init_166 rfl rfl ?_
    obtain ⟨q21, h⟩ := gz_some h
    replace q21 := of_decide_eq_true q21
    refine e_new dX9_init_167 nl_RX9_69 q21.1 q21.2.1 q21.2.2 ?_
    obtain ⟨z22, q23, h⟩ := lt_some h
    rw [← q23]
    obtain ⟨μ24, q25, h⟩ := lt_some h
    refine m_nm q25 ?_
    refine e_dup dX9_init_170 rfl ?_
    refine e_aload_n 0 dX9_init_171 rfl rfl ?_
    obtain ⟨q26, h⟩ := gz_some h
    replace q26 := of_decide_eq_true q26
    obtain ⟨r27, q28, h⟩ := br_some h
    refine e_getr dX9_init_172 fl_RX9_50 q26.1 q26.2 q28 ?_
    obtain ⟨q29, h⟩ := gz_some h
    replace q29 := of_decide_eq_true q29
    obtain ⟨r30, q31, h⟩ := br_some h
    refine e_getr dX9_init_175 fl_RX9_71 q29.1 q29.2 q31 ?_
    refine e_aload_n 0 dX9_init_178 rfl rfl ?_
    obtain ⟨q32, h⟩ := gz_some h
    replace q32 := of_decide_eq_true q32
    obtain ⟨r33, q34, h⟩ := br_some h
    refine e_getr dX9_init_179 fl_RX9_34 q32.1 q32.2 q34 ?_
    refine e_iconst (v := (0 : Int32)) dX9_init_182 (by decide) ?_
    obtain ⟨q35, h⟩ := gz_some h
    replace q35 := of_decide_eq_true q35
    obtain ⟨q36, h⟩ := gd_some h
    obtain ⟨r37, q38, h⟩ := br_some h
    refine e_aald16 dX9_init_183 (ka_2 q35.1) q35.2 q36 q38 ?_
    obtain ⟨q39, h⟩ := gz_some h
    replace q39 := of_decide_eq_true q39
    obtain ⟨μ40, q41, h⟩ := bm_some h
    refine e_callIv (av := [.ref r30, .ref r37]) dX9_init_184 mi_RX9_74 rfl rfl (vD_X7_init (d + 0) q41) q39.1 q39.2 (Nat.le_of_ble_eq_true rfl) (fun u hu _ => ?_)
    obtain ⟨_, rfl⟩ := hu
    obtain ⟨q42, h⟩ := gz_some h
    replace q42 := of_decide_eq_true q42
    refine e_putrF dX9_init_187 fl_RX9_77 q42.1 q42.2 rfl rfl rfl ⟨rfl, fun _ => ⟨rfl, rfl⟩⟩ ?_
    obtain ⟨μ43, q44, h⟩ := lt_some h
    refine m_nm q44 ?_
    refine e_aload_n 0 dX9_init_190 rfl rfl ?_
    refine e_bipush (v := (6 : Int32)) dX9_init_191 (by decide) ?_
    obtain ⟨q45, h⟩ := gz_some h
    replace q45 := of_decide_eq_true q45
    refine e_newaI dX9_init_193 (tw1 86 rfl rfl) q45.1 (by decide) (by decide) (by decide) q45.2.1 q45.2.2 ?_
    obtain ⟨z46, q47, h⟩ := lt_some h
    rw [← q47]
    obtain ⟨μ48, q49, h⟩ := lt_some h
    refine m_nm q49 ?_
    obtain ⟨q50, h⟩ := gz_some h
    replace q50 := of_decide_eq_true q50
    refine e_putrF dX9_init_195 fl_RX9_81 q50.1 q50.2 rfl rfl rfl ⟨rfl, fun _ => ⟨rfl, rfl⟩⟩ ?_
    obtain ⟨μ51, q52, h⟩ := lt_some h
    refine m_nm q52 ?_
    refine e_aload_n 0 dX9_init_198 rfl rfl ?_
    refine e_bipush (v := (72 : Int32)) dX9_init_199 (by decide) ?_
    obtain ⟨q53, h⟩ := gz_some h
    replace q53 := of_decide_eq_true q53
    refine e_newaI dX9_init_201 (tw1 86 rfl rfl) q53.1 (by decide) (by decide) (by decide) q53.2.1 q53.2.2 ?_
    obtain ⟨z54, q55, h⟩ := lt_some h
    rw [← q55]
    obtain ⟨μ56, q57, h⟩ := lt_some h
    refine m_nm q57 ?_
    obtain ⟨q58, h⟩ := gz_some h
    replace q58 := of_decide_eq_true q58
    refine e_putrF dX9_init_203 fl_RX9_85 q58.1 q58.2 rfl rfl rfl ⟨rfl, fun _ => ⟨rfl, rfl⟩⟩ ?_
    obtain ⟨μ59, q60, h⟩ := lt_some h
    refine m_nm q60 ?_
    refine e_aload_n 0 dX9_init_206 rfl rfl ?_
    refine e_sipush (v := (427 : Int32)) dX9_init_207 (by decide) ?_
    obtain ⟨q61, h⟩ := gz_some h
    replace q61 := of_decide_eq_true q61
    refine e_newaI dX9_init_210 (tw1 86 rfl rfl) q61.1 (by decide) (by decide) (by decide) q61.2.1 q61.2.2 ?_
    obtain ⟨z62, q63, h⟩ := lt_some h
    rw [← q63]
    obtain ⟨μ64, q65, h⟩ := lt_some h
    refine m_nm q65 ?_
    obtain ⟨q66, h⟩ := gz_some h
    replace q66 := of_decide_eq_true q66
    refine e_putrF dX9_init_212 fl_RX9_88 q66.1 q66.2 rfl rfl rfl ⟨rfl, fun _ => ⟨rfl, rfl⟩⟩ ?_
    obtain ⟨μ67, q68, h⟩ := lt_some h
    refine m_nm q68 ?_
    obtain ⟨q69, h⟩ := gz_some h
    replace q69 := of_decide_eq_true q69
    obtain rfl := Option.some.inj h
    exact e_ret rfl ⟨⟨rfl, rfl⟩, q69⟩ rfl dX9_init_215
  · rw [if_neg c1] at h
    refine e_aload_n 0 dX9_init_129 rfl rfl ?_
    obtain ⟨q70, h⟩ := gz_some h
    replace q70 := of_decide_eq_true q70
    obtain ⟨r71, q72, h⟩ := br_some h
    refine e_getr dX9_init_130 fl_RX9_54 q70.1 q70.2 q72 ?_
    refine e_iload_n 1 dX9_init_133 rfl rfl ?_
    obtain ⟨q73, h⟩ := gz_some h
    replace q73 := of_decide_eq_true q73
    refine e_new dX9_init_134 nl_RX9_47 q73.1 q73.2.1 q73.2.2 ?_
    obtain ⟨z74, q75, h⟩ := lt_some h
    rw [← q75]
    obtain ⟨μ76, q77, h⟩ := lt_some h
    refine m_nm q77 ?_
    refine e_dup dX9_init_137 rfl ?_
    obtain ⟨q78, h⟩ := gz_some h
    replace q78 := of_decide_eq_true q78
    obtain ⟨μ79, q80, h⟩ := bm_some h
    refine e_callN (av := []) dX9_init_138 mn_RX9_49 (fun U H h => h.2.2.2.2.2.2.2.2.2.2.2.2.1) rfl (vD_X8_init (d + 0) q80) q78.1 q78.2 (Nat.le_of_ble_eq_true rfl) (fun u hu _ => ?_)
    obtain ⟨_, rfl⟩ := hu
    obtain ⟨q81, h⟩ := gz_some h
    replace q81 := of_decide_eq_true q81
    obtain ⟨q82, h⟩ := gd_some h
    refine e_aast17 dX9_init_141 (ka_2 q81.1) q81.2.1 q81.2.2.1 q81.2.2.2 q82 ?_
    obtain ⟨μ83, q84, h⟩ := lt_some h
    refine m_nm q84 ?_
    obtain ⟨x85, q86, h⟩ := lt_some h
    refine e_iinc (v := x85) (L' := [(0, .ref a0), (1, .int x85)]) 1 dX9_init_142 rfl q86.symm (by decide) rfl ?_
    refine e_goto 124 dX9_init_145 (by decide) ?_
    refine m_pick (L' := [(0, .ref a0), (1, .int x85)]) [0, 1] rfl ?_
    exact H124 x85 μ83 h
def fD_X9_init_52 (n0 : Nat) (a0 : Nat) (i1 : Int32) (μ : mm_M) : Option mm_M :=
  lpM lpN (fun (k52 : (Int32) → mm_M → Option mm_M) (v : Int32) (μ : mm_M) =>
    if (6 : Int32) < v then
      gz (decide ((mm_K a0).1 = 9 ∧ a0 < mn μ)) <|
      br (mr μ a0 3) fun r89 =>
      gz (decide ((mm_K r89).1 = 16 ∧ r89 < mn μ)) <|
      gd (0 : Int32) (mm_K r89).2 <|
      br (mr μ r89 (0 : Int32).toNatClampNeg) fun r93 =>
      gz (decide (n0 ≤ mn μ ∧ mn μ + 0 ≤ n0 + 213)) <|
      gz (decide ((mm_K r93).1 = 5 ∧ r93 < mn μ)) <|
      bm (fD_X5_add r93 (3 : Int32) μ) fun μ96 =>
      gz (decide ((mm_K a0).1 = 9 ∧ a0 < mn μ96)) <|
      br (mr μ96 a0 3) fun r100 =>
      gz (decide ((mm_K r100).1 = 16 ∧ r100 < mn μ96)) <|
      gd (0 : Int32) (mm_K r100).2 <|
      br (mr μ96 r100 (0 : Int32).toNatClampNeg) fun r104 =>
      gz (decide (n0 ≤ mn μ96 ∧ mn μ96 + 0 ≤ n0 + 213)) <|
      gz (decide ((mm_K r104).1 = 5 ∧ r104 < mn μ96)) <|
      bm (fD_X5_add r104 (33 : Int32) μ96) fun μ107 =>
      gz (decide ((mm_K a0).1 = 9 ∧ a0 < mn μ107)) <|
      lt (mu_i μ107 a0 4 (0 : Int32)) fun μ111 =>
      gz (decide ((mm_K (mn μ111)).1 = 8 ∧ n0 ≤ mn μ111 ∧ mn μ111 + 1 ≤ n0 + 213)) <|
      lt (mn μ111) fun z114 =>
      lt (mu_n μ111) fun μ116 =>
      gz (decide (n0 ≤ mn μ116 ∧ mn μ116 + 13 ≤ n0 + 213)) <|
      bm (fD_X8_init z114 μ116) fun μ119 =>
      gz (decide ((mm_K a0).1 = 9 ∧ a0 < mn μ119)) <|
      lt (mu_r μ119 a0 5 (some z114)) fun μ122 =>
      gz (decide (mm_K (mn μ122) = (17, 4) ∧ n0 ≤ mn μ122 ∧ mn μ122 + 1 ≤ n0 + 213)) <|
      lt (mn μ122) fun z125 =>
      lt (mu_n μ122) fun μ127 =>
      gz (decide ((mm_K a0).1 = 9 ∧ a0 < mn μ127)) <|
      lt (mu_r μ127 a0 6 (some z125)) fun μ130 =>
      fD_X9_init_124 n0 a0 (0 : Int32) μ130
    else
      gz (decide ((mm_K a0).1 = 9 ∧ a0 < mn μ)) <|
      br (mr μ a0 3) fun r133 =>
      gz (decide ((mm_K (mn μ)).1 = 5 ∧ n0 ≤ mn μ ∧ mn μ + 1 ≤ n0 + 213)) <|
      lt (mn μ) fun z136 =>
      lt (mu_n μ) fun μ138 =>
      gz (decide (n0 ≤ mn μ138 ∧ mn μ138 + 1 ≤ n0 + 213)) <|
      bm (fD_X5_init z136 μ138) fun μ141 =>
      gz (decide ((mm_K r133).1 = 16 ∧ r133 < mn μ141 ∧ (mm_K z136).1 = 5 ∧ z136 < mn μ141)) <|
      gd v (mm_K r133).2 <|
      lt (mu_r μ141 r133 v.toNatClampNeg (some z136)) fun μ145 =>
      lt (v + Int32.ofInt (1)) fun x147 =>
      k52 x147 μ145) i1 μ
theorem vD_X9_init_52 {g : mm_G} (d : Nat) {n0 : Nat} {a0 : Nat} {i1 : Int32} {μ res : mm_M}  (h : fD_X9_init_52 n0 a0 i1 μ = some res) : mm_EV g (d + 3) yy_X9_init 213 n0 52 [(0, .ref a0), (1, .int i1)] [] μ (dq res (n0 + 213)) := by
  unfold fD_X9_init_52 at h
  refine lpM_ind (P := fun v μ => mm_EV g (d + 3) yy_X9_init 213 n0 52 [(0, .ref a0), (1, .int v)] [] μ (dq res (n0 + 213))) (fun k52 H52 v μ h => ?_) _ i1 μ h
  refine e_iload_n 1 dX9_init_52 rfl rfl ?_
  refine e_bipush (v := (6 : Int32)) dX9_init_53 (by decide) ?_
  refine e_icmp_gt 77 dX9_init_55 (by decide) (fun c87 => ?_) (fun c87 => ?_)
  · rw [if_pos c87] at h
    refine e_aload_n 0 dX9_init_77 rfl rfl ?_
    obtain ⟨q88, h⟩ := gz_some h
    replace q88 := of_decide_eq_true q88
    obtain ⟨r89, q90, h⟩ := br_some h
    refine e_getr dX9_init_78 fl_RX9_34 q88.1 q88.2 q90 ?_
    refine e_iconst (v := (0 : Int32)) dX9_init_81 (by decide) ?_
    obtain ⟨q91, h⟩ := gz_some h
    replace q91 := of_decide_eq_true q91
    obtain ⟨q92, h⟩ := gd_some h
    obtain ⟨r93, q94, h⟩ := br_some h
    refine e_aald16 dX9_init_82 (ka_2 q91.1) q91.2 q92 q94 ?_
    refine e_iconst (v := (3 : Int32)) dX9_init_83 (by decide) ?_
    obtain ⟨q95, h⟩ := gz_some h
    replace q95 := of_decide_eq_true q95
    obtain ⟨q98, h⟩ := gz_some h
    replace q98 := of_decide_eq_true q98
    obtain ⟨μ96, q97, h⟩ := bm_some h
    refine e_callVv (av := [.int (3 : Int32)]) dX9_init_84 mz_RX9_39 q98.1 q98.2 rfl rfl (vD_X5_add (d + 2) q97) q95.1 q95.2 (Nat.le_of_ble_eq_true rfl) (fun u hu _ => ?_)
    obtain ⟨_, rfl⟩ := hu
    refine e_aload_n 0 dX9_init_87 rfl rfl ?_
    obtain ⟨q99, h⟩ := gz_some h
    replace q99 := of_decide_eq_true q99
    obtain ⟨r100, q101, h⟩ := br_some h
    refine e_getr dX9_init_88 fl_RX9_34 q99.1 q99.2 q101 ?_
    refine e_iconst (v := (0 : Int32)) dX9_init_91 (by decide) ?_
    obtain ⟨q102, h⟩ := gz_some h
    replace q102 := of_decide_eq_true q102
    obtain ⟨q103, h⟩ := gd_some h
    obtain ⟨r104, q105, h⟩ := br_some h
    refine e_aald16 dX9_init_92 (ka_2 q102.1) q102.2 q103 q105 ?_
    refine e_bipush (v := (33 : Int32)) dX9_init_93 (by decide) ?_
    obtain ⟨q106, h⟩ := gz_some h
    replace q106 := of_decide_eq_true q106
    obtain ⟨q109, h⟩ := gz_some h
    replace q109 := of_decide_eq_true q109
    obtain ⟨μ107, q108, h⟩ := bm_some h
    refine e_callVv (av := [.int (33 : Int32)]) dX9_init_95 mz_RX9_39 q109.1 q109.2 rfl rfl (vD_X5_add (d + 2) q108) q106.1 q106.2 (Nat.le_of_ble_eq_true rfl) (fun u hu _ => ?_)
    obtain ⟨_, rfl⟩ := hu
    refine e_aload_n 0 dX9_init_98 rfl rfl ?_
    refine e_iconst (v := (0 : Int32)) dX9_init_99 (by decide) ?_
    obtain ⟨q110, h⟩ := gz_some h
    replace q110 := of_decide_eq_true q110
    refine e_puti dX9_init_100 fl_RX9_43 q110.1 q110.2 rfl rfl rfl ?_
    obtain ⟨μ111, q112, h⟩ := lt_some h
    refine m_nm q112 ?_
    refine e_aload_n 0 dX9_init_103 rfl rfl ?_
    obtain ⟨q113, h⟩ := gz_some h
    replace q113 := of_decide_eq_true q113
    refine e_new dX9_init_104 nl_RX9_47 q113.1 q113.2.1 q113.2.2 ?_
    obtain ⟨z114, q115, h⟩ := lt_some h
    rw [← q115]
    obtain ⟨μ116, q117, h⟩ := lt_some h
    refine m_nm q117 ?_
    refine e_dup dX9_init_107 rfl ?_
    obtain ⟨q118, h⟩ := gz_some h
    replace q118 := of_decide_eq_true q118
    obtain ⟨μ119, q120, h⟩ := bm_some h
    refine e_callN (av := []) dX9_init_108 mn_RX9_49 (fun U H h => h.2.2.2.2.2.2.2.2.2.2.2.2.1) rfl (vD_X8_init (d + 0) q120) q118.1 q118.2 (Nat.le_of_ble_eq_true rfl) (fun u hu _ => ?_)
    obtain ⟨_, rfl⟩ := hu
    obtain ⟨q121, h⟩ := gz_some h
    replace q121 := of_decide_eq_true q121
    refine e_putrF dX9_init_111 fl_RX9_50 q121.1 q121.2 rfl rfl rfl ⟨rfl, fun _ => ⟨rfl, rfl⟩⟩ ?_
    obtain ⟨μ122, q123, h⟩ := lt_some h
    refine m_nm q123 ?_
    refine e_aload_n 0 dX9_init_114 rfl rfl ?_
    refine e_iconst (v := (4 : Int32)) dX9_init_115 (by decide) ?_
    obtain ⟨q124, h⟩ := gz_some h
    replace q124 := of_decide_eq_true q124
    refine e_newq17 dX9_init_116 (tw1 153 rfl rfl) q124.1 (by decide) (by decide) (by decide) q124.2.1 q124.2.2 ?_
    obtain ⟨z125, q126, h⟩ := lt_some h
    rw [← q126]
    obtain ⟨μ127, q128, h⟩ := lt_some h
    refine m_nm q128 ?_
    obtain ⟨q129, h⟩ := gz_some h
    replace q129 := of_decide_eq_true q129
    refine e_putrF dX9_init_119 fl_RX9_54 q129.1 q129.2 rfl rfl rfl ⟨rfl, fun _ => ⟨rfl, rfl⟩⟩ ?_
    obtain ⟨μ130, q131, h⟩ := lt_some h
    refine m_nm q131 ?_
    refine e_iconst (v := (0 : Int32)) dX9_init_122 (by decide) ?_
    refine e_istore_n (L' := [(0, .ref a0), (1, .int (0 : Int32))]) dX9_init_123 rfl (by decide) rfl ?_
    refine m_pick (L' := [(0, .ref a0), (1, .int (0 : Int32))]) [0, 1] rfl ?_
    exact vD_X9_init_124 d  h
  · rw [if_neg c87] at h
    refine e_aload_n 0 dX9_init_58 rfl rfl ?_
    obtain ⟨q132, h⟩ := gz_some h
    replace q132 := of_decide_eq_true q132
    obtain ⟨r133, q134, h⟩ := br_some h
    refine e_getr dX9_init_59 fl_RX9_34 q132.1 q132.2 q134 ?_
    refine e_iload_n 1 dX9_init_62 rfl rfl ?_
    obtain ⟨q135, h⟩ := gz_some h
    replace q135 := of_decide_eq_true q135
    refine e_new dX9_init_63 nl_RX9_32 q135.1 q135.2.1 q135.2.2 ?_
    obtain ⟨z136, q137, h⟩ := lt_some h
    rw [← q137]
    obtain ⟨μ138, q139, h⟩ := lt_some h
    refine m_nm q139 ?_
    refine e_dup dX9_init_66 rfl ?_
    obtain ⟨q140, h⟩ := gz_some h
    replace q140 := of_decide_eq_true q140
    obtain ⟨μ141, q142, h⟩ := bm_some h
    refine e_callN (av := []) dX9_init_67 mn_RX9_38 (fun U H h => h.2.2.2.2.2.2.2.2.2.2.2.1) rfl (vD_X5_init (d + 1) q142) q140.1 q140.2 (Nat.le_of_ble_eq_true rfl) (fun u hu _ => ?_)
    obtain ⟨_, rfl⟩ := hu
    obtain ⟨q143, h⟩ := gz_some h
    replace q143 := of_decide_eq_true q143
    obtain ⟨q144, h⟩ := gd_some h
    refine e_aast16 dX9_init_70 (ka_2 q143.1) q143.2.1 q143.2.2.1 q143.2.2.2 q144 ?_
    obtain ⟨μ145, q146, h⟩ := lt_some h
    refine m_nm q146 ?_
    obtain ⟨x147, q148, h⟩ := lt_some h
    refine e_iinc (v := x147) (L' := [(0, .ref a0), (1, .int x147)]) 1 dX9_init_71 rfl q148.symm (by decide) rfl ?_
    refine e_goto 52 dX9_init_74 (by decide) ?_
    refine m_pick (L' := [(0, .ref a0), (1, .int x147)]) [0, 1] rfl ?_
    exact H52 x147 μ145 h
def fD_X9_init (a0 : Nat) (μ : mm_M) : Option mm_M :=
    lt (mn μ) fun n0 =>
    gz (decide ((mm_K (mn μ)).1 = 6 ∧ n0 ≤ mn μ ∧ mn μ + 1 ≤ n0 + 213)) <|
    lt (mn μ) fun z150 =>
    lt (mu_n μ) fun μ152 =>
    gz (decide (n0 ≤ mn μ152 ∧ mn μ152 + 1 ≤ n0 + 213)) <|
    bm (fD_X6_init z150 μ152) fun μ155 =>
    gz (decide ((mm_K a0).1 = 9 ∧ a0 < mn μ155)) <|
    lt (mu_r μ155 a0 0 (some z150)) fun μ158 =>
    gz (decide ((mm_K (mn μ158)).1 = 4 ∧ n0 ≤ mn μ158 ∧ mn μ158 + 1 ≤ n0 + 213)) <|
    lt (mn μ158) fun z161 =>
    lt (mu_n μ158) fun μ163 =>
    gz (decide ((mm_K a0).1 = 9 ∧ a0 < mn μ163)) <|
    br (mr μ163 a0 0) fun r166 =>
    gz (decide (n0 ≤ mn μ163 ∧ mn μ163 + 3 ≤ n0 + 213)) <|
    bm (fD_X4_init z161 r166 μ163) fun μ169 =>
    gz (decide ((mm_K a0).1 = 9 ∧ a0 < mn μ169)) <|
    lt (mu_r μ169 a0 1 (some z161)) fun μ172 =>
    gz (decide ((mm_K (mn μ172)).1 = 1 ∧ n0 ≤ mn μ172 ∧ mn μ172 + 1 ≤ n0 + 213)) <|
    lt (mn μ172) fun z175 =>
    lt (mu_n μ172) fun μ177 =>
    gz (decide (n0 ≤ mn μ177 ∧ mn μ177 + 3 ≤ n0 + 213)) <|
    bm (fD_X1_init z175 μ177) fun μ180 =>
    gz (decide ((mm_K a0).1 = 9 ∧ a0 < mn μ180)) <|
    lt (mu_r μ180 a0 2 (some z175)) fun μ183 =>
    gz (decide (mm_K (mn μ183) = (16, 7) ∧ n0 ≤ mn μ183 ∧ mn μ183 + 1 ≤ n0 + 213)) <|
    lt (mn μ183) fun z186 =>
    lt (mu_n μ183) fun μ188 =>
    gz (decide ((mm_K a0).1 = 9 ∧ a0 < mn μ188)) <|
    lt (mu_r μ188 a0 3 (some z186)) fun μ191 =>
    fD_X9_init_52 n0 a0 (0 : Int32) μ191
theorem vD_X9_init {g : mm_G} (d : Nat) {a0 : Nat} {μ res : mm_M} (h : fD_X9_init a0 μ = some res) : mm_MV g (d + 3) yy_X9_init 213 [.ref a0] μ (fun v u => v = .null ∧ u = res) := by
  refine mm_of_EV (by decide) (by rw [mm_lgl]; exact Nat.le_of_ble_eq_true rfl) ?_
  unfold fD_X9_init at h
  obtain ⟨n0, hn0, h⟩ := lt_some h
  rw [← hn0]
  show mm_EV g (d + 3) yy_X9_init 213 n0 0 [(0, .ref a0)] [] μ (dq res (n0 + 213))
  refine e_aload_n 0 dX9_init_0 rfl rfl ?_
  refine e_objI dX9_init_1 oi_RX9_3 (Nat.le_of_ble_eq_true rfl) ?_
  refine e_aload_n 0 dX9_init_4 rfl rfl ?_
  obtain ⟨q149, h⟩ := gz_some h
  replace q149 := of_decide_eq_true q149
  refine e_new dX9_init_5 nl_RX9_9 q149.1 q149.2.1 q149.2.2 ?_
  obtain ⟨z150, q151, h⟩ := lt_some h
  rw [← q151]
  obtain ⟨μ152, q153, h⟩ := lt_some h
  refine m_nm q153 ?_
  refine e_dup dX9_init_8 rfl ?_
  obtain ⟨q154, h⟩ := gz_some h
  replace q154 := of_decide_eq_true q154
  obtain ⟨μ155, q156, h⟩ := bm_some h
  refine e_callN (av := []) dX9_init_9 mn_RX9_11 (fun U H h => h.2.2.2.2.2.2.2.2.2.1) rfl (vD_X6_init (d + 1) q156) q154.1 q154.2 (Nat.le_of_ble_eq_true rfl) (fun u hu _ => ?_)
  obtain ⟨_, rfl⟩ := hu
  obtain ⟨q157, h⟩ := gz_some h
  replace q157 := of_decide_eq_true q157
  refine e_putrF dX9_init_12 fl_RX9_12 q157.1 q157.2 rfl rfl rfl ⟨rfl, fun _ => ⟨rfl, rfl⟩⟩ ?_
  obtain ⟨μ158, q159, h⟩ := lt_some h
  refine m_nm q159 ?_
  refine e_aload_n 0 dX9_init_15 rfl rfl ?_
  obtain ⟨q160, h⟩ := gz_some h
  replace q160 := of_decide_eq_true q160
  refine e_new dX9_init_16 nl_RX9_16 q160.1 q160.2.1 q160.2.2 ?_
  obtain ⟨z161, q162, h⟩ := lt_some h
  rw [← q162]
  obtain ⟨μ163, q164, h⟩ := lt_some h
  refine m_nm q164 ?_
  refine e_dup dX9_init_19 rfl ?_
  refine e_aload_n 0 dX9_init_20 rfl rfl ?_
  obtain ⟨q165, h⟩ := gz_some h
  replace q165 := of_decide_eq_true q165
  obtain ⟨r166, q167, h⟩ := br_some h
  refine e_getr dX9_init_21 fl_RX9_12 q165.1 q165.2 q167 ?_
  obtain ⟨q168, h⟩ := gz_some h
  replace q168 := of_decide_eq_true q168
  obtain ⟨μ169, q170, h⟩ := bm_some h
  refine e_callIv (av := [.ref r166]) dX9_init_24 mi_RX9_18 rfl rfl (vD_X4_init (d + 1) q170) q168.1 q168.2 (Nat.le_of_ble_eq_true rfl) (fun u hu _ => ?_)
  obtain ⟨_, rfl⟩ := hu
  obtain ⟨q171, h⟩ := gz_some h
  replace q171 := of_decide_eq_true q171
  refine e_putrF dX9_init_27 fl_RX9_21 q171.1 q171.2 rfl rfl rfl ⟨rfl, fun _ => ⟨rfl, rfl⟩⟩ ?_
  obtain ⟨μ172, q173, h⟩ := lt_some h
  refine m_nm q173 ?_
  refine e_aload_n 0 dX9_init_30 rfl rfl ?_
  obtain ⟨q174, h⟩ := gz_some h
  replace q174 := of_decide_eq_true q174
  refine e_new dX9_init_31 nl_RX9_25 q174.1 q174.2.1 q174.2.2 ?_
  obtain ⟨z175, q176, h⟩ := lt_some h
  rw [← q176]
  obtain ⟨μ177, q178, h⟩ := lt_some h
  refine m_nm q178 ?_
  refine e_dup dX9_init_34 rfl ?_
  obtain ⟨q179, h⟩ := gz_some h
  replace q179 := of_decide_eq_true q179
  obtain ⟨μ180, q181, h⟩ := bm_some h
  refine e_callN (av := []) dX9_init_35 mn_RX9_27 (fun U H h => h.2.2.2.2.2.2.2.2.2.2.1) rfl (vD_X1_init (d + 1) q181) q179.1 q179.2 (Nat.le_of_ble_eq_true rfl) (fun u hu _ => ?_)
  obtain ⟨_, rfl⟩ := hu
  obtain ⟨q182, h⟩ := gz_some h
  replace q182 := of_decide_eq_true q182
  refine e_putrF dX9_init_38 fl_RX9_28 q182.1 q182.2 rfl rfl rfl ⟨rfl, fun _ => ⟨rfl, rfl⟩⟩ ?_
  obtain ⟨μ183, q184, h⟩ := lt_some h
  refine m_nm q184 ?_
  refine e_aload_n 0 dX9_init_41 rfl rfl ?_
  refine e_bipush (v := (7 : Int32)) dX9_init_42 (by decide) ?_
  obtain ⟨q185, h⟩ := gz_some h
  replace q185 := of_decide_eq_true q185
  refine e_newq16 dX9_init_44 (tw1 132 rfl rfl) q185.1 (by decide) (by decide) (by decide) q185.2.1 q185.2.2 ?_
  obtain ⟨z186, q187, h⟩ := lt_some h
  rw [← q187]
  obtain ⟨μ188, q189, h⟩ := lt_some h
  refine m_nm q189 ?_
  obtain ⟨q190, h⟩ := gz_some h
  replace q190 := of_decide_eq_true q190
  refine e_putrF dX9_init_47 fl_RX9_34 q190.1 q190.2 rfl rfl rfl ⟨rfl, fun _ => ⟨rfl, rfl⟩⟩ ?_
  obtain ⟨μ191, q192, h⟩ := lt_some h
  refine m_nm q192 ?_
  refine e_iconst (v := (0 : Int32)) dX9_init_50 (by decide) ?_
  refine e_istore_n (L' := [(0, .ref a0), (1, .int (0 : Int32))]) dX9_init_51 rfl (by decide) rfl ?_
  refine m_pick (L' := [(0, .ref a0), (1, .int (0 : Int32))]) [0, 1] rfl ?_
  exact vD_X9_init_52 d  h
abbrev yy_X10_init : mm_Y := (yX10_init, cX10_init, 1, none)
theorem dX10_init_0 : decode cX10_init 0 = .ok (.aload_n 0, 1) := by decide +kernel
theorem dX10_init_1 : decode cX10_init 1 = .ok (.invokespecial 1, 3) := by decide +kernel
theorem dX10_init_4 : decode cX10_init 4 = .ok (.aload_n 0, 1) := by decide +kernel
theorem dX10_init_5 : decode cX10_init 5 = .ok (.sipush 400, 3) := by decide +kernel
theorem dX10_init_8 : decode cX10_init 8 = .ok (.newarray .byte, 2) := by decide +kernel
theorem dX10_init_10 : decode cX10_init 10 = .ok (.putfield 7, 3) := by decide +kernel
theorem dX10_init_13 : decode cX10_init 13 = .ok (.aload_n 0, 1) := by decide +kernel
theorem dX10_init_14 : decode cX10_init 14 = .ok (.sipush 2400, 3) := by decide +kernel
theorem dX10_init_17 : decode cX10_init 17 = .ok (.newarray .int, 2) := by decide +kernel
theorem dX10_init_19 : decode cX10_init 19 = .ok (.putfield 13, 3) := by decide +kernel
theorem dX10_init_22 : decode cX10_init 22 = .ok (.aload_n 0, 1) := by decide +kernel
theorem dX10_init_23 : decode cX10_init 23 = .ok (.bipush 7, 2) := by decide +kernel
theorem dX10_init_25 : decode cX10_init 25 = .ok (.newarray .int, 2) := by decide +kernel
theorem dX10_init_27 : decode cX10_init 27 = .ok (.putfield 17, 3) := by decide +kernel
theorem dX10_init_30 : decode cX10_init 30 = .ok (.aload_n 0, 1) := by decide +kernel
theorem dX10_init_31 : decode cX10_init 31 = .ok (.sipush 288, 3) := by decide +kernel
theorem dX10_init_34 : decode cX10_init 34 = .ok (.newarray .int, 2) := by decide +kernel
theorem dX10_init_36 : decode cX10_init 36 = .ok (.putfield 20, 3) := by decide +kernel
theorem dX10_init_39 : decode cX10_init 39 = .ok (.aload_n 0, 1) := by decide +kernel
theorem dX10_init_40 : decode cX10_init 40 = .ok (.bipush 6, 2) := by decide +kernel
theorem dX10_init_42 : decode cX10_init 42 = .ok (.newarray .int, 2) := by decide +kernel
theorem dX10_init_44 : decode cX10_init 44 = .ok (.putfield 23, 3) := by decide +kernel
theorem dX10_init_47 : decode cX10_init 47 = .ok (.aload_n 0, 1) := by decide +kernel
theorem dX10_init_48 : decode cX10_init 48 = .ok (.bipush 90, 2) := by decide +kernel
theorem dX10_init_50 : decode cX10_init 50 = .ok (.newarray .int, 2) := by decide +kernel
theorem dX10_init_52 : decode cX10_init 52 = .ok (.putfield 26, 3) := by decide +kernel
theorem dX10_init_55 : decode cX10_init 55 = .ok (.aload_n 0, 1) := by decide +kernel
theorem dX10_init_56 : decode cX10_init 56 = .ok (.sipush 400, 3) := by decide +kernel
theorem dX10_init_59 : decode cX10_init 59 = .ok (.newarray .int, 2) := by decide +kernel
theorem dX10_init_61 : decode cX10_init 61 = .ok (.putfield 29, 3) := by decide +kernel
theorem dX10_init_64 : decode cX10_init 64 = .ok (.aload_n 0, 1) := by decide +kernel
theorem dX10_init_65 : decode cX10_init 65 = .ok (.bipush 64, 2) := by decide +kernel
theorem dX10_init_67 : decode cX10_init 67 = .ok (.newarray .long, 2) := by decide +kernel
theorem dX10_init_69 : decode cX10_init 69 = .ok (.putfield 32, 3) := by decide +kernel
theorem dX10_init_72 : decode cX10_init 72 = .ok (.aload_n 0, 1) := by decide +kernel
theorem dX10_init_73 : decode cX10_init 73 = .ok (.bipush 13, 2) := by decide +kernel
theorem dX10_init_75 : decode cX10_init 75 = .ok (.newarray .long, 2) := by decide +kernel
theorem dX10_init_77 : decode cX10_init 77 = .ok (.putfield 36, 3) := by decide +kernel
theorem dX10_init_80 : decode cX10_init 80 = .ok (.aload_n 0, 1) := by decide +kernel
theorem dX10_init_81 : decode cX10_init 81 = .ok (.bipush 121, 2) := by decide +kernel
theorem dX10_init_83 : decode cX10_init 83 = .ok (.newarray .int, 2) := by decide +kernel
theorem dX10_init_85 : decode cX10_init 85 = .ok (.putfield 39, 3) := by decide +kernel
theorem dX10_init_88 : decode cX10_init 88 = .ok (.aload_n 0, 1) := by decide +kernel
theorem dX10_init_89 : decode cX10_init 89 = .ok (.iconst (-1), 1) := by decide +kernel
theorem dX10_init_90 : decode cX10_init 90 = .ok (.putfield 42, 3) := by decide +kernel
theorem dX10_init_93 : decode cX10_init 93 = .ok (.aload_n 0, 1) := by decide +kernel
theorem dX10_init_94 : decode cX10_init 94 = .ok (.iconst (-1), 1) := by decide +kernel
theorem dX10_init_95 : decode cX10_init 95 = .ok (.putfield 46, 3) := by decide +kernel
theorem dX10_init_98 : decode cX10_init 98 = .ok (.aload_n 0, 1) := by decide +kernel
theorem dX10_init_99 : decode cX10_init 99 = .ok (.iconst (-1), 1) := by decide +kernel
theorem dX10_init_100 : decode cX10_init 100 = .ok (.putfield 49, 3) := by decide +kernel
theorem dX10_init_103 : decode cX10_init 103 = .ok (.aload_n 0, 1) := by decide +kernel
theorem dX10_init_104 : decode cX10_init 104 = .ok (.bipush 6, 2) := by decide +kernel
theorem dX10_init_106 : decode cX10_init 106 = .ok (.newarray .int, 2) := by decide +kernel
theorem dX10_init_108 : decode cX10_init 108 = .ok (.putfield 52, 3) := by decide +kernel
theorem dX10_init_111 : decode cX10_init 111 = .ok (.aload_n 0, 1) := by decide +kernel
theorem dX10_init_112 : decode cX10_init 112 = .ok (.bipush 6, 2) := by decide +kernel
theorem dX10_init_114 : decode cX10_init 114 = .ok (.newarray .int, 2) := by decide +kernel
theorem dX10_init_116 : decode cX10_init 116 = .ok (.putfield 55, 3) := by decide +kernel
theorem dX10_init_119 : decode cX10_init 119 = .ok (.aload_n 0, 1) := by decide +kernel
theorem dX10_init_120 : decode cX10_init 120 = .ok (.bipush 6, 2) := by decide +kernel
theorem dX10_init_122 : decode cX10_init 122 = .ok (.newarray .int, 2) := by decide +kernel
theorem dX10_init_124 : decode cX10_init 124 = .ok (.putfield 58, 3) := by decide +kernel
theorem dX10_init_127 : decode cX10_init 127 = .ok (.aload_n 0, 1) := by decide +kernel
theorem dX10_init_128 : decode cX10_init 128 = .ok (.sipush 620, 3) := by decide +kernel
theorem dX10_init_131 : decode cX10_init 131 = .ok (.newarray .int, 2) := by decide +kernel
theorem dX10_init_133 : decode cX10_init 133 = .ok (.putfield 61, 3) := by decide +kernel
theorem dX10_init_136 : decode cX10_init 136 = .ok (.aload_n 0, 1) := by decide +kernel
theorem dX10_init_137 : decode cX10_init 137 = .ok (.bipush 31, 2) := by decide +kernel
theorem dX10_init_139 : decode cX10_init 139 = .ok (.newarray .int, 2) := by decide +kernel
theorem dX10_init_141 : decode cX10_init 141 = .ok (.putfield 64, 3) := by decide +kernel
theorem dX10_init_144 : decode cX10_init 144 = .ok (.aload_n 0, 1) := by decide +kernel
theorem dX10_init_145 : decode cX10_init 145 = .ok (.bipush 7, 2) := by decide +kernel
theorem dX10_init_147 : decode cX10_init 147 = .ok (.newarray .int, 2) := by decide +kernel
theorem dX10_init_149 : decode cX10_init 149 = .ok (.putfield 67, 3) := by decide +kernel
theorem dX10_init_152 : decode cX10_init 152 = .ok (.aload_n 0, 1) := by decide +kernel
theorem dX10_init_153 : decode cX10_init 153 = .ok (.bipush 6, 2) := by decide +kernel
theorem dX10_init_155 : decode cX10_init 155 = .ok (.newarray .int, 2) := by decide +kernel
theorem dX10_init_157 : decode cX10_init 157 = .ok (.putfield 70, 3) := by decide +kernel
theorem dX10_init_160 : decode cX10_init 160 = .ok (.aload_n 0, 1) := by decide +kernel
theorem dX10_init_161 : decode cX10_init 161 = .ok (.sipush 732, 3) := by decide +kernel
theorem dX10_init_164 : decode cX10_init 164 = .ok (.newarray .int, 2) := by decide +kernel
theorem dX10_init_166 : decode cX10_init 166 = .ok (.putfield 73, 3) := by decide +kernel
theorem dX10_init_169 : decode cX10_init 169 = .ok (.aload_n 0, 1) := by decide +kernel
theorem dX10_init_170 : decode cX10_init 170 = .ok (.bipush 72, 2) := by decide +kernel
theorem dX10_init_172 : decode cX10_init 172 = .ok (.newarray .int, 2) := by decide +kernel
theorem dX10_init_174 : decode cX10_init 174 = .ok (.putfield 76, 3) := by decide +kernel
theorem dX10_init_177 : decode cX10_init 177 = .ok (.aload_n 0, 1) := by decide +kernel
theorem dX10_init_178 : decode cX10_init 178 = .ok (.bipush 7, 2) := by decide +kernel
theorem dX10_init_180 : decode cX10_init 180 = .ok (.newarray .boolean, 2) := by decide +kernel
theorem dX10_init_182 : decode cX10_init 182 = .ok (.putfield 79, 3) := by decide +kernel
theorem dX10_init_185 : decode cX10_init 185 = .ok (.aload_n 0, 1) := by decide +kernel
theorem dX10_init_186 : decode cX10_init 186 = .ok (.sipush 427, 3) := by decide +kernel
theorem dX10_init_189 : decode cX10_init 189 = .ok (.newarray .int, 2) := by decide +kernel
theorem dX10_init_191 : decode cX10_init 191 = .ok (.putfield 83, 3) := by decide +kernel
theorem dX10_init_194 : decode cX10_init 194 = .ok (.aload_n 0, 1) := by decide +kernel
theorem dX10_init_195 : decode cX10_init 195 = .ok (.sipush 484, 3) := by decide +kernel
theorem dX10_init_198 : decode cX10_init 198 = .ok (.newarray .int, 2) := by decide +kernel
theorem dX10_init_200 : decode cX10_init 200 = .ok (.putfield 86, 3) := by decide +kernel
theorem dX10_init_203 : decode cX10_init 203 = .ok (.aload_n 0, 1) := by decide +kernel
theorem dX10_init_204 : decode cX10_init 204 = .ok (.iconst 4, 1) := by decide +kernel
theorem dX10_init_205 : decode cX10_init 205 = .ok (.newarray .int, 2) := by decide +kernel
theorem dX10_init_207 : decode cX10_init 207 = .ok (.putfield 89, 3) := by decide +kernel
theorem dX10_init_210 : decode cX10_init 210 = .ok (.aload_n 0, 1) := by decide +kernel
theorem dX10_init_211 : decode cX10_init 211 = .ok (.iconst 4, 1) := by decide +kernel
theorem dX10_init_212 : decode cX10_init 212 = .ok (.newarray .int, 2) := by decide +kernel
theorem dX10_init_214 : decode cX10_init 214 = .ok (.putfield 92, 3) := by decide +kernel
theorem dX10_init_217 : decode cX10_init 217 = .ok (.aload_n 0, 1) := by decide +kernel
theorem dX10_init_218 : decode cX10_init 218 = .ok (.iconst 4, 1) := by decide +kernel
theorem dX10_init_219 : decode cX10_init 219 = .ok (.newarray .boolean, 2) := by decide +kernel
theorem dX10_init_221 : decode cX10_init 221 = .ok (.putfield 95, 3) := by decide +kernel
theorem dX10_init_224 : decode cX10_init 224 = .ok (.return_, 1) := by decide +kernel
def fD_X10_init (a0 : Nat) (μ : mm_M) : Option mm_M :=
    lt (mn μ) fun n0 =>
    gz (decide (mm_K (mn μ) = (11, 400) ∧ n0 ≤ mn μ ∧ mn μ + 1 ≤ n0 + 25)) <|
    lt (mn μ) fun z2 =>
    lt (mu_n μ) fun μ4 =>
    gz (decide ((mm_K a0).1 = 10 ∧ a0 < mn μ4)) <|
    lt (mu_r μ4 a0 0 (some z2)) fun μ7 =>
    gz (decide (mm_K (mn μ7) = (12, 2400) ∧ n0 ≤ mn μ7 ∧ mn μ7 + 1 ≤ n0 + 25)) <|
    lt (mn μ7) fun z10 =>
    lt (mu_n μ7) fun μ12 =>
    gz (decide ((mm_K a0).1 = 10 ∧ a0 < mn μ12)) <|
    lt (mu_r μ12 a0 3 (some z10)) fun μ15 =>
    gz (decide (mm_K (mn μ15) = (12, 7) ∧ n0 ≤ mn μ15 ∧ mn μ15 + 1 ≤ n0 + 25)) <|
    lt (mn μ15) fun z18 =>
    lt (mu_n μ15) fun μ20 =>
    gz (decide ((mm_K a0).1 = 10 ∧ a0 < mn μ20)) <|
    lt (mu_r μ20 a0 4 (some z18)) fun μ23 =>
    gz (decide (mm_K (mn μ23) = (12, 288) ∧ n0 ≤ mn μ23 ∧ mn μ23 + 1 ≤ n0 + 25)) <|
    lt (mn μ23) fun z26 =>
    lt (mu_n μ23) fun μ28 =>
    gz (decide ((mm_K a0).1 = 10 ∧ a0 < mn μ28)) <|
    lt (mu_r μ28 a0 5 (some z26)) fun μ31 =>
    gz (decide (mm_K (mn μ31) = (12, 6) ∧ n0 ≤ mn μ31 ∧ mn μ31 + 1 ≤ n0 + 25)) <|
    lt (mn μ31) fun z34 =>
    lt (mu_n μ31) fun μ36 =>
    gz (decide ((mm_K a0).1 = 10 ∧ a0 < mn μ36)) <|
    lt (mu_r μ36 a0 6 (some z34)) fun μ39 =>
    gz (decide (mm_K (mn μ39) = (12, 90) ∧ n0 ≤ mn μ39 ∧ mn μ39 + 1 ≤ n0 + 25)) <|
    lt (mn μ39) fun z42 =>
    lt (mu_n μ39) fun μ44 =>
    gz (decide ((mm_K a0).1 = 10 ∧ a0 < mn μ44)) <|
    lt (mu_r μ44 a0 7 (some z42)) fun μ47 =>
    gz (decide (mm_K (mn μ47) = (12, 400) ∧ n0 ≤ mn μ47 ∧ mn μ47 + 1 ≤ n0 + 25)) <|
    lt (mn μ47) fun z50 =>
    lt (mu_n μ47) fun μ52 =>
    gz (decide ((mm_K a0).1 = 10 ∧ a0 < mn μ52)) <|
    lt (mu_r μ52 a0 15 (some z50)) fun μ55 =>
    gz (decide (mm_K (mn μ55) = (13, 64) ∧ n0 ≤ mn μ55 ∧ mn μ55 + 1 ≤ n0 + 25)) <|
    lt (mn μ55) fun z58 =>
    lt (mu_n μ55) fun μ60 =>
    gz (decide ((mm_K a0).1 = 10 ∧ a0 < mn μ60)) <|
    lt (mu_r μ60 a0 17 (some z58)) fun μ63 =>
    gz (decide (mm_K (mn μ63) = (13, 13) ∧ n0 ≤ mn μ63 ∧ mn μ63 + 1 ≤ n0 + 25)) <|
    lt (mn μ63) fun z66 =>
    lt (mu_n μ63) fun μ68 =>
    gz (decide ((mm_K a0).1 = 10 ∧ a0 < mn μ68)) <|
    lt (mu_r μ68 a0 19 (some z66)) fun μ71 =>
    gz (decide (mm_K (mn μ71) = (12, 121) ∧ n0 ≤ mn μ71 ∧ mn μ71 + 1 ≤ n0 + 25)) <|
    lt (mn μ71) fun z74 =>
    lt (mu_n μ71) fun μ76 =>
    gz (decide ((mm_K a0).1 = 10 ∧ a0 < mn μ76)) <|
    lt (mu_r μ76 a0 20 (some z74)) fun μ79 =>
    gz (decide ((mm_K a0).1 = 10 ∧ a0 < mn μ79)) <|
    lt (mu_i μ79 a0 21 (-1 : Int32)) fun μ82 =>
    gz (decide ((mm_K a0).1 = 10 ∧ a0 < mn μ82)) <|
    lt (mu_i μ82 a0 23 (-1 : Int32)) fun μ85 =>
    gz (decide ((mm_K a0).1 = 10 ∧ a0 < mn μ85)) <|
    lt (mu_i μ85 a0 24 (-1 : Int32)) fun μ88 =>
    gz (decide (mm_K (mn μ88) = (12, 6) ∧ n0 ≤ mn μ88 ∧ mn μ88 + 1 ≤ n0 + 25)) <|
    lt (mn μ88) fun z91 =>
    lt (mu_n μ88) fun μ93 =>
    gz (decide ((mm_K a0).1 = 10 ∧ a0 < mn μ93)) <|
    lt (mu_r μ93 a0 26 (some z91)) fun μ96 =>
    gz (decide (mm_K (mn μ96) = (12, 6) ∧ n0 ≤ mn μ96 ∧ mn μ96 + 1 ≤ n0 + 25)) <|
    lt (mn μ96) fun z99 =>
    lt (mu_n μ96) fun μ101 =>
    gz (decide ((mm_K a0).1 = 10 ∧ a0 < mn μ101)) <|
    lt (mu_r μ101 a0 27 (some z99)) fun μ104 =>
    gz (decide (mm_K (mn μ104) = (12, 6) ∧ n0 ≤ mn μ104 ∧ mn μ104 + 1 ≤ n0 + 25)) <|
    lt (mn μ104) fun z107 =>
    lt (mu_n μ104) fun μ109 =>
    gz (decide ((mm_K a0).1 = 10 ∧ a0 < mn μ109)) <|
    lt (mu_r μ109 a0 29 (some z107)) fun μ112 =>
    gz (decide (mm_K (mn μ112) = (12, 620) ∧ n0 ≤ mn μ112 ∧ mn μ112 + 1 ≤ n0 + 25)) <|
    lt (mn μ112) fun z115 =>
    lt (mu_n μ112) fun μ117 =>
    gz (decide ((mm_K a0).1 = 10 ∧ a0 < mn μ117)) <|
    lt (mu_r μ117 a0 30 (some z115)) fun μ120 =>
    gz (decide (mm_K (mn μ120) = (12, 31) ∧ n0 ≤ mn μ120 ∧ mn μ120 + 1 ≤ n0 + 25)) <|
    lt (mn μ120) fun z123 =>
    lt (mu_n μ120) fun μ125 =>
    gz (decide ((mm_K a0).1 = 10 ∧ a0 < mn μ125)) <|
    lt (mu_r μ125 a0 32 (some z123)) fun μ128 =>
    gz (decide (mm_K (mn μ128) = (12, 7) ∧ n0 ≤ mn μ128 ∧ mn μ128 + 1 ≤ n0 + 25)) <|
    lt (mn μ128) fun z131 =>
    lt (mu_n μ128) fun μ133 =>
    gz (decide ((mm_K a0).1 = 10 ∧ a0 < mn μ133)) <|
    lt (mu_r μ133 a0 33 (some z131)) fun μ136 =>
    gz (decide (mm_K (mn μ136) = (12, 6) ∧ n0 ≤ mn μ136 ∧ mn μ136 + 1 ≤ n0 + 25)) <|
    lt (mn μ136) fun z139 =>
    lt (mu_n μ136) fun μ141 =>
    gz (decide ((mm_K a0).1 = 10 ∧ a0 < mn μ141)) <|
    lt (mu_r μ141 a0 34 (some z139)) fun μ144 =>
    gz (decide (mm_K (mn μ144) = (12, 732) ∧ n0 ≤ mn μ144 ∧ mn μ144 + 1 ≤ n0 + 25)) <|
    lt (mn μ144) fun z147 =>
    lt (mu_n μ144) fun μ149 =>
    gz (decide ((mm_K a0).1 = 10 ∧ a0 < mn μ149)) <|
    lt (mu_r μ149 a0 37 (some z147)) fun μ152 =>
    gz (decide (mm_K (mn μ152) = (12, 72) ∧ n0 ≤ mn μ152 ∧ mn μ152 + 1 ≤ n0 + 25)) <|
    lt (mn μ152) fun z155 =>
    lt (mu_n μ152) fun μ157 =>
    gz (decide ((mm_K a0).1 = 10 ∧ a0 < mn μ157)) <|
    lt (mu_r μ157 a0 38 (some z155)) fun μ160 =>
    gz (decide (mm_K (mn μ160) = (14, 7) ∧ n0 ≤ mn μ160 ∧ mn μ160 + 1 ≤ n0 + 25)) <|
    lt (mn μ160) fun z163 =>
    lt (mu_n μ160) fun μ165 =>
    gz (decide ((mm_K a0).1 = 10 ∧ a0 < mn μ165)) <|
    lt (mu_r μ165 a0 39 (some z163)) fun μ168 =>
    gz (decide (mm_K (mn μ168) = (12, 427) ∧ n0 ≤ mn μ168 ∧ mn μ168 + 1 ≤ n0 + 25)) <|
    lt (mn μ168) fun z171 =>
    lt (mu_n μ168) fun μ173 =>
    gz (decide ((mm_K a0).1 = 10 ∧ a0 < mn μ173)) <|
    lt (mu_r μ173 a0 40 (some z171)) fun μ176 =>
    gz (decide (mm_K (mn μ176) = (12, 484) ∧ n0 ≤ mn μ176 ∧ mn μ176 + 1 ≤ n0 + 25)) <|
    lt (mn μ176) fun z179 =>
    lt (mu_n μ176) fun μ181 =>
    gz (decide ((mm_K a0).1 = 10 ∧ a0 < mn μ181)) <|
    lt (mu_r μ181 a0 42 (some z179)) fun μ184 =>
    gz (decide (mm_K (mn μ184) = (12, 4) ∧ n0 ≤ mn μ184 ∧ mn μ184 + 1 ≤ n0 + 25)) <|
    lt (mn μ184) fun z187 =>
    lt (mu_n μ184) fun μ189 =>
    gz (decide ((mm_K a0).1 = 10 ∧ a0 < mn μ189)) <|
    lt (mu_r μ189 a0 43 (some z187)) fun μ192 =>
    gz (decide (mm_K (mn μ192) = (12, 4) ∧ n0 ≤ mn μ192 ∧ mn μ192 + 1 ≤ n0 + 25)) <|
    lt (mn μ192) fun z195 =>
    lt (mu_n μ192) fun μ197 =>
    gz (decide ((mm_K a0).1 = 10 ∧ a0 < mn μ197)) <|
    lt (mu_r μ197 a0 44 (some z195)) fun μ200 =>
    gz (decide (mm_K (mn μ200) = (14, 4) ∧ n0 ≤ mn μ200 ∧ mn μ200 + 1 ≤ n0 + 25)) <|
    lt (mn μ200) fun z203 =>
    lt (mu_n μ200) fun μ205 =>
    gz (decide ((mm_K a0).1 = 10 ∧ a0 < mn μ205)) <|
    lt (mu_r μ205 a0 45 (some z203)) fun μ208 =>
    gz (decide (mn μ208 = n0 + 25)) <|
    some μ208
theorem vD_X10_init {g : mm_G} (d : Nat) {a0 : Nat} {μ res : mm_M} (h : fD_X10_init a0 μ = some res) : mm_MV g (d + 1) yy_X10_init 25 [.ref a0] μ (fun v u => v = .null ∧ u = res) := by
  refine mm_of_EV (by decide) (by rw [mm_lgl]; exact Nat.le_of_ble_eq_true rfl) ?_
  unfold fD_X10_init at h
  obtain ⟨n0, hn0, h⟩ := lt_some h
  rw [← hn0]
  show mm_EV g (d + 1) yy_X10_init 25 n0 0 [(0, .ref a0)] [] μ (dq res (n0 + 25))
  refine e_aload_n 0 dX10_init_0 rfl rfl ?_
  refine e_objI dX10_init_1 oi_RX10_1 (Nat.le_of_ble_eq_true rfl) ?_
  refine e_aload_n 0 dX10_init_4 rfl rfl ?_
  refine e_sipush (v := (400 : Int32)) dX10_init_5 (by decide) ?_
  obtain ⟨q1, h⟩ := gz_some h
  replace q1 := of_decide_eq_true q1
  refine e_newaB dX10_init_8 (tw1 44 rfl rfl) q1.1 (by decide) (by decide) (by decide) q1.2.1 q1.2.2 ?_
  obtain ⟨z2, q3, h⟩ := lt_some h
  rw [← q3]
  obtain ⟨μ4, q5, h⟩ := lt_some h
  refine m_nm q5 ?_
  obtain ⟨q6, h⟩ := gz_some h
  replace q6 := of_decide_eq_true q6
  refine e_putrF dX10_init_10 fl_RX10_7 q6.1 q6.2 rfl rfl rfl ⟨rfl, fun _ => ⟨rfl, rfl⟩⟩ ?_
  obtain ⟨μ7, q8, h⟩ := lt_some h
  refine m_nm q8 ?_
  refine e_aload_n 0 dX10_init_13 rfl rfl ?_
  refine e_sipush (v := (2400 : Int32)) dX10_init_14 (by decide) ?_
  obtain ⟨q9, h⟩ := gz_some h
  replace q9 := of_decide_eq_true q9
  refine e_newaI dX10_init_17 (tw1 86 rfl rfl) q9.1 (by decide) (by decide) (by decide) q9.2.1 q9.2.2 ?_
  obtain ⟨z10, q11, h⟩ := lt_some h
  rw [← q11]
  obtain ⟨μ12, q13, h⟩ := lt_some h
  refine m_nm q13 ?_
  obtain ⟨q14, h⟩ := gz_some h
  replace q14 := of_decide_eq_true q14
  refine e_putrF dX10_init_19 fl_RX10_13 q14.1 q14.2 rfl rfl rfl ⟨rfl, fun _ => ⟨rfl, rfl⟩⟩ ?_
  obtain ⟨μ15, q16, h⟩ := lt_some h
  refine m_nm q16 ?_
  refine e_aload_n 0 dX10_init_22 rfl rfl ?_
  refine e_bipush (v := (7 : Int32)) dX10_init_23 (by decide) ?_
  obtain ⟨q17, h⟩ := gz_some h
  replace q17 := of_decide_eq_true q17
  refine e_newaI dX10_init_25 (tw1 86 rfl rfl) q17.1 (by decide) (by decide) (by decide) q17.2.1 q17.2.2 ?_
  obtain ⟨z18, q19, h⟩ := lt_some h
  rw [← q19]
  obtain ⟨μ20, q21, h⟩ := lt_some h
  refine m_nm q21 ?_
  obtain ⟨q22, h⟩ := gz_some h
  replace q22 := of_decide_eq_true q22
  refine e_putrF dX10_init_27 fl_RX10_17 q22.1 q22.2 rfl rfl rfl ⟨rfl, fun _ => ⟨rfl, rfl⟩⟩ ?_
  obtain ⟨μ23, q24, h⟩ := lt_some h
  refine m_nm q24 ?_
  refine e_aload_n 0 dX10_init_30 rfl rfl ?_
  refine e_sipush (v := (288 : Int32)) dX10_init_31 (by decide) ?_
  obtain ⟨q25, h⟩ := gz_some h
  replace q25 := of_decide_eq_true q25
  refine e_newaI dX10_init_34 (tw1 86 rfl rfl) q25.1 (by decide) (by decide) (by decide) q25.2.1 q25.2.2 ?_
  obtain ⟨z26, q27, h⟩ := lt_some h
  rw [← q27]
  obtain ⟨μ28, q29, h⟩ := lt_some h
  refine m_nm q29 ?_
  obtain ⟨q30, h⟩ := gz_some h
  replace q30 := of_decide_eq_true q30
  refine e_putrF dX10_init_36 fl_RX10_20 q30.1 q30.2 rfl rfl rfl ⟨rfl, fun _ => ⟨rfl, rfl⟩⟩ ?_
  obtain ⟨μ31, q32, h⟩ := lt_some h
  refine m_nm q32 ?_
  refine e_aload_n 0 dX10_init_39 rfl rfl ?_
  refine e_bipush (v := (6 : Int32)) dX10_init_40 (by decide) ?_
  obtain ⟨q33, h⟩ := gz_some h
  replace q33 := of_decide_eq_true q33
  refine e_newaI dX10_init_42 (tw1 86 rfl rfl) q33.1 (by decide) (by decide) (by decide) q33.2.1 q33.2.2 ?_
  obtain ⟨z34, q35, h⟩ := lt_some h
  rw [← q35]
  obtain ⟨μ36, q37, h⟩ := lt_some h
  refine m_nm q37 ?_
  obtain ⟨q38, h⟩ := gz_some h
  replace q38 := of_decide_eq_true q38
  refine e_putrF dX10_init_44 fl_RX10_23 q38.1 q38.2 rfl rfl rfl ⟨rfl, fun _ => ⟨rfl, rfl⟩⟩ ?_
  obtain ⟨μ39, q40, h⟩ := lt_some h
  refine m_nm q40 ?_
  refine e_aload_n 0 dX10_init_47 rfl rfl ?_
  refine e_bipush (v := (90 : Int32)) dX10_init_48 (by decide) ?_
  obtain ⟨q41, h⟩ := gz_some h
  replace q41 := of_decide_eq_true q41
  refine e_newaI dX10_init_50 (tw1 86 rfl rfl) q41.1 (by decide) (by decide) (by decide) q41.2.1 q41.2.2 ?_
  obtain ⟨z42, q43, h⟩ := lt_some h
  rw [← q43]
  obtain ⟨μ44, q45, h⟩ := lt_some h
  refine m_nm q45 ?_
  obtain ⟨q46, h⟩ := gz_some h
  replace q46 := of_decide_eq_true q46
  refine e_putrF dX10_init_52 fl_RX10_26 q46.1 q46.2 rfl rfl rfl ⟨rfl, fun _ => ⟨rfl, rfl⟩⟩ ?_
  obtain ⟨μ47, q48, h⟩ := lt_some h
  refine m_nm q48 ?_
  refine e_aload_n 0 dX10_init_55 rfl rfl ?_
  refine e_sipush (v := (400 : Int32)) dX10_init_56 (by decide) ?_
  obtain ⟨q49, h⟩ := gz_some h
  replace q49 := of_decide_eq_true q49
  refine e_newaI dX10_init_59 (tw1 86 rfl rfl) q49.1 (by decide) (by decide) (by decide) q49.2.1 q49.2.2 ?_
  obtain ⟨z50, q51, h⟩ := lt_some h
  rw [← q51]
  obtain ⟨μ52, q53, h⟩ := lt_some h
  refine m_nm q53 ?_
  obtain ⟨q54, h⟩ := gz_some h
  replace q54 := of_decide_eq_true q54
  refine e_putrF dX10_init_61 fl_RX10_29 q54.1 q54.2 rfl rfl rfl ⟨rfl, fun _ => ⟨rfl, rfl⟩⟩ ?_
  obtain ⟨μ55, q56, h⟩ := lt_some h
  refine m_nm q56 ?_
  refine e_aload_n 0 dX10_init_64 rfl rfl ?_
  refine e_bipush (v := (64 : Int32)) dX10_init_65 (by decide) ?_
  obtain ⟨q57, h⟩ := gz_some h
  replace q57 := of_decide_eq_true q57
  refine e_newaJ dX10_init_67 (tw2 74 rfl rfl) q57.1 (by decide) (by decide) (by decide) q57.2.1 q57.2.2 ?_
  obtain ⟨z58, q59, h⟩ := lt_some h
  rw [← q59]
  obtain ⟨μ60, q61, h⟩ := lt_some h
  refine m_nm q61 ?_
  obtain ⟨q62, h⟩ := gz_some h
  replace q62 := of_decide_eq_true q62
  refine e_putrF dX10_init_69 fl_RX10_32 q62.1 q62.2 rfl rfl rfl ⟨rfl, fun _ => ⟨rfl, rfl⟩⟩ ?_
  obtain ⟨μ63, q64, h⟩ := lt_some h
  refine m_nm q64 ?_
  refine e_aload_n 0 dX10_init_72 rfl rfl ?_
  refine e_bipush (v := (13 : Int32)) dX10_init_73 (by decide) ?_
  obtain ⟨q65, h⟩ := gz_some h
  replace q65 := of_decide_eq_true q65
  refine e_newaJ dX10_init_75 (tw2 74 rfl rfl) q65.1 (by decide) (by decide) (by decide) q65.2.1 q65.2.2 ?_
  obtain ⟨z66, q67, h⟩ := lt_some h
  rw [← q67]
  obtain ⟨μ68, q69, h⟩ := lt_some h
  refine m_nm q69 ?_
  obtain ⟨q70, h⟩ := gz_some h
  replace q70 := of_decide_eq_true q70
  refine e_putrF dX10_init_77 fl_RX10_36 q70.1 q70.2 rfl rfl rfl ⟨rfl, fun _ => ⟨rfl, rfl⟩⟩ ?_
  obtain ⟨μ71, q72, h⟩ := lt_some h
  refine m_nm q72 ?_
  refine e_aload_n 0 dX10_init_80 rfl rfl ?_
  refine e_bipush (v := (121 : Int32)) dX10_init_81 (by decide) ?_
  obtain ⟨q73, h⟩ := gz_some h
  replace q73 := of_decide_eq_true q73
  refine e_newaI dX10_init_83 (tw1 86 rfl rfl) q73.1 (by decide) (by decide) (by decide) q73.2.1 q73.2.2 ?_
  obtain ⟨z74, q75, h⟩ := lt_some h
  rw [← q75]
  obtain ⟨μ76, q77, h⟩ := lt_some h
  refine m_nm q77 ?_
  obtain ⟨q78, h⟩ := gz_some h
  replace q78 := of_decide_eq_true q78
  refine e_putrF dX10_init_85 fl_RX10_39 q78.1 q78.2 rfl rfl rfl ⟨rfl, fun _ => ⟨rfl, rfl⟩⟩ ?_
  obtain ⟨μ79, q80, h⟩ := lt_some h
  refine m_nm q80 ?_
  refine e_aload_n 0 dX10_init_88 rfl rfl ?_
  refine e_iconst (v := (-1 : Int32)) dX10_init_89 (by decide) ?_
  obtain ⟨q81, h⟩ := gz_some h
  replace q81 := of_decide_eq_true q81
  refine e_puti dX10_init_90 fl_RX10_42 q81.1 q81.2 rfl rfl rfl ?_
  obtain ⟨μ82, q83, h⟩ := lt_some h
  refine m_nm q83 ?_
  refine e_aload_n 0 dX10_init_93 rfl rfl ?_
  refine e_iconst (v := (-1 : Int32)) dX10_init_94 (by decide) ?_
  obtain ⟨q84, h⟩ := gz_some h
  replace q84 := of_decide_eq_true q84
  refine e_puti dX10_init_95 fl_RX10_46 q84.1 q84.2 rfl rfl rfl ?_
  obtain ⟨μ85, q86, h⟩ := lt_some h
  refine m_nm q86 ?_
  refine e_aload_n 0 dX10_init_98 rfl rfl ?_
  refine e_iconst (v := (-1 : Int32)) dX10_init_99 (by decide) ?_
  obtain ⟨q87, h⟩ := gz_some h
  replace q87 := of_decide_eq_true q87
  refine e_puti dX10_init_100 fl_RX10_49 q87.1 q87.2 rfl rfl rfl ?_
  obtain ⟨μ88, q89, h⟩ := lt_some h
  refine m_nm q89 ?_
  refine e_aload_n 0 dX10_init_103 rfl rfl ?_
  refine e_bipush (v := (6 : Int32)) dX10_init_104 (by decide) ?_
  obtain ⟨q90, h⟩ := gz_some h
  replace q90 := of_decide_eq_true q90
  refine e_newaI dX10_init_106 (tw1 86 rfl rfl) q90.1 (by decide) (by decide) (by decide) q90.2.1 q90.2.2 ?_
  obtain ⟨z91, q92, h⟩ := lt_some h
  rw [← q92]
  obtain ⟨μ93, q94, h⟩ := lt_some h
  refine m_nm q94 ?_
  obtain ⟨q95, h⟩ := gz_some h
  replace q95 := of_decide_eq_true q95
  refine e_putrF dX10_init_108 fl_RX10_52 q95.1 q95.2 rfl rfl rfl ⟨rfl, fun _ => ⟨rfl, rfl⟩⟩ ?_
  obtain ⟨μ96, q97, h⟩ := lt_some h
  refine m_nm q97 ?_
  refine e_aload_n 0 dX10_init_111 rfl rfl ?_
  refine e_bipush (v := (6 : Int32)) dX10_init_112 (by decide) ?_
  obtain ⟨q98, h⟩ := gz_some h
  replace q98 := of_decide_eq_true q98
  refine e_newaI dX10_init_114 (tw1 86 rfl rfl) q98.1 (by decide) (by decide) (by decide) q98.2.1 q98.2.2 ?_
  obtain ⟨z99, q100, h⟩ := lt_some h
  rw [← q100]
  obtain ⟨μ101, q102, h⟩ := lt_some h
  refine m_nm q102 ?_
  obtain ⟨q103, h⟩ := gz_some h
  replace q103 := of_decide_eq_true q103
  refine e_putrF dX10_init_116 fl_RX10_55 q103.1 q103.2 rfl rfl rfl ⟨rfl, fun _ => ⟨rfl, rfl⟩⟩ ?_
  obtain ⟨μ104, q105, h⟩ := lt_some h
  refine m_nm q105 ?_
  refine e_aload_n 0 dX10_init_119 rfl rfl ?_
  refine e_bipush (v := (6 : Int32)) dX10_init_120 (by decide) ?_
  obtain ⟨q106, h⟩ := gz_some h
  replace q106 := of_decide_eq_true q106
  refine e_newaI dX10_init_122 (tw1 86 rfl rfl) q106.1 (by decide) (by decide) (by decide) q106.2.1 q106.2.2 ?_
  obtain ⟨z107, q108, h⟩ := lt_some h
  rw [← q108]
  obtain ⟨μ109, q110, h⟩ := lt_some h
  refine m_nm q110 ?_
  obtain ⟨q111, h⟩ := gz_some h
  replace q111 := of_decide_eq_true q111
  refine e_putrF dX10_init_124 fl_RX10_58 q111.1 q111.2 rfl rfl rfl ⟨rfl, fun _ => ⟨rfl, rfl⟩⟩ ?_
  obtain ⟨μ112, q113, h⟩ := lt_some h
  refine m_nm q113 ?_
  refine e_aload_n 0 dX10_init_127 rfl rfl ?_
  refine e_sipush (v := (620 : Int32)) dX10_init_128 (by decide) ?_
  obtain ⟨q114, h⟩ := gz_some h
  replace q114 := of_decide_eq_true q114
  refine e_newaI dX10_init_131 (tw1 86 rfl rfl) q114.1 (by decide) (by decide) (by decide) q114.2.1 q114.2.2 ?_
  obtain ⟨z115, q116, h⟩ := lt_some h
  rw [← q116]
  obtain ⟨μ117, q118, h⟩ := lt_some h
  refine m_nm q118 ?_
  obtain ⟨q119, h⟩ := gz_some h
  replace q119 := of_decide_eq_true q119
  refine e_putrF dX10_init_133 fl_RX10_61 q119.1 q119.2 rfl rfl rfl ⟨rfl, fun _ => ⟨rfl, rfl⟩⟩ ?_
  obtain ⟨μ120, q121, h⟩ := lt_some h
  refine m_nm q121 ?_
  refine e_aload_n 0 dX10_init_136 rfl rfl ?_
  refine e_bipush (v := (31 : Int32)) dX10_init_137 (by decide) ?_
  obtain ⟨q122, h⟩ := gz_some h
  replace q122 := of_decide_eq_true q122
  refine e_newaI dX10_init_139 (tw1 86 rfl rfl) q122.1 (by decide) (by decide) (by decide) q122.2.1 q122.2.2 ?_
  obtain ⟨z123, q124, h⟩ := lt_some h
  rw [← q124]
  obtain ⟨μ125, q126, h⟩ := lt_some h
  refine m_nm q126 ?_
  obtain ⟨q127, h⟩ := gz_some h
  replace q127 := of_decide_eq_true q127
  refine e_putrF dX10_init_141 fl_RX10_64 q127.1 q127.2 rfl rfl rfl ⟨rfl, fun _ => ⟨rfl, rfl⟩⟩ ?_
  obtain ⟨μ128, q129, h⟩ := lt_some h
  refine m_nm q129 ?_
  refine e_aload_n 0 dX10_init_144 rfl rfl ?_
  refine e_bipush (v := (7 : Int32)) dX10_init_145 (by decide) ?_
  obtain ⟨q130, h⟩ := gz_some h
  replace q130 := of_decide_eq_true q130
  refine e_newaI dX10_init_147 (tw1 86 rfl rfl) q130.1 (by decide) (by decide) (by decide) q130.2.1 q130.2.2 ?_
  obtain ⟨z131, q132, h⟩ := lt_some h
  rw [← q132]
  obtain ⟨μ133, q134, h⟩ := lt_some h
  refine m_nm q134 ?_
  obtain ⟨q135, h⟩ := gz_some h
  replace q135 := of_decide_eq_true q135
  refine e_putrF dX10_init_149 fl_RX10_67 q135.1 q135.2 rfl rfl rfl ⟨rfl, fun _ => ⟨rfl, rfl⟩⟩ ?_
  obtain ⟨μ136, q137, h⟩ := lt_some h
  refine m_nm q137 ?_
  refine e_aload_n 0 dX10_init_152 rfl rfl ?_
  refine e_bipush (v := (6 : Int32)) dX10_init_153 (by decide) ?_
  obtain ⟨q138, h⟩ := gz_some h
  replace q138 := of_decide_eq_true q138
  refine e_newaI dX10_init_155 (tw1 86 rfl rfl) q138.1 (by decide) (by decide) (by decide) q138.2.1 q138.2.2 ?_
  obtain ⟨z139, q140, h⟩ := lt_some h
  rw [← q140]
  obtain ⟨μ141, q142, h⟩ := lt_some h
  refine m_nm q142 ?_
  obtain ⟨q143, h⟩ := gz_some h
  replace q143 := of_decide_eq_true q143
  refine e_putrF dX10_init_157 fl_RX10_70 q143.1 q143.2 rfl rfl rfl ⟨rfl, fun _ => ⟨rfl, rfl⟩⟩ ?_
  obtain ⟨μ144, q145, h⟩ := lt_some h
  refine m_nm q145 ?_
  refine e_aload_n 0 dX10_init_160 rfl rfl ?_
  refine e_sipush (v := (732 : Int32)) dX10_init_161 (by decide) ?_
  obtain ⟨q146, h⟩ := gz_some h
  replace q146 := of_decide_eq_true q146
  refine e_newaI dX10_init_164 (tw1 86 rfl rfl) q146.1 (by decide) (by decide) (by decide) q146.2.1 q146.2.2 ?_
  obtain ⟨z147, q148, h⟩ := lt_some h
  rw [← q148]
  obtain ⟨μ149, q150, h⟩ := lt_some h
  refine m_nm q150 ?_
  obtain ⟨q151, h⟩ := gz_some h
  replace q151 := of_decide_eq_true q151
  refine e_putrF dX10_init_166 fl_RX10_73 q151.1 q151.2 rfl rfl rfl ⟨rfl, fun _ => ⟨rfl, rfl⟩⟩ ?_
  obtain ⟨μ152, q153, h⟩ := lt_some h
  refine m_nm q153 ?_
  refine e_aload_n 0 dX10_init_169 rfl rfl ?_
  refine e_bipush (v := (72 : Int32)) dX10_init_170 (by decide) ?_
  obtain ⟨q154, h⟩ := gz_some h
  replace q154 := of_decide_eq_true q154
  refine e_newaI dX10_init_172 (tw1 86 rfl rfl) q154.1 (by decide) (by decide) (by decide) q154.2.1 q154.2.2 ?_
  obtain ⟨z155, q156, h⟩ := lt_some h
  rw [← q156]
  obtain ⟨μ157, q158, h⟩ := lt_some h
  refine m_nm q158 ?_
  obtain ⟨q159, h⟩ := gz_some h
  replace q159 := of_decide_eq_true q159
  refine e_putrF dX10_init_174 fl_RX10_76 q159.1 q159.2 rfl rfl rfl ⟨rfl, fun _ => ⟨rfl, rfl⟩⟩ ?_
  obtain ⟨μ160, q161, h⟩ := lt_some h
  refine m_nm q161 ?_
  refine e_aload_n 0 dX10_init_177 rfl rfl ?_
  refine e_bipush (v := (7 : Int32)) dX10_init_178 (by decide) ?_
  obtain ⟨q162, h⟩ := gz_some h
  replace q162 := of_decide_eq_true q162
  refine e_newaZ dX10_init_180 (tw2 23 rfl rfl) q162.1 (by decide) (by decide) (by decide) q162.2.1 q162.2.2 ?_
  obtain ⟨z163, q164, h⟩ := lt_some h
  rw [← q164]
  obtain ⟨μ165, q166, h⟩ := lt_some h
  refine m_nm q166 ?_
  obtain ⟨q167, h⟩ := gz_some h
  replace q167 := of_decide_eq_true q167
  refine e_putrF dX10_init_182 fl_RX10_79 q167.1 q167.2 rfl rfl rfl ⟨rfl, fun _ => ⟨rfl, rfl⟩⟩ ?_
  obtain ⟨μ168, q169, h⟩ := lt_some h
  refine m_nm q169 ?_
  refine e_aload_n 0 dX10_init_185 rfl rfl ?_
  refine e_sipush (v := (427 : Int32)) dX10_init_186 (by decide) ?_
  obtain ⟨q170, h⟩ := gz_some h
  replace q170 := of_decide_eq_true q170
  refine e_newaI dX10_init_189 (tw1 86 rfl rfl) q170.1 (by decide) (by decide) (by decide) q170.2.1 q170.2.2 ?_
  obtain ⟨z171, q172, h⟩ := lt_some h
  rw [← q172]
  obtain ⟨μ173, q174, h⟩ := lt_some h
  refine m_nm q174 ?_
  obtain ⟨q175, h⟩ := gz_some h
  replace q175 := of_decide_eq_true q175
  refine e_putrF dX10_init_191 fl_RX10_83 q175.1 q175.2 rfl rfl rfl ⟨rfl, fun _ => ⟨rfl, rfl⟩⟩ ?_
  obtain ⟨μ176, q177, h⟩ := lt_some h
  refine m_nm q177 ?_
  refine e_aload_n 0 dX10_init_194 rfl rfl ?_
  refine e_sipush (v := (484 : Int32)) dX10_init_195 (by decide) ?_
  obtain ⟨q178, h⟩ := gz_some h
  replace q178 := of_decide_eq_true q178
  refine e_newaI dX10_init_198 (tw1 86 rfl rfl) q178.1 (by decide) (by decide) (by decide) q178.2.1 q178.2.2 ?_
  obtain ⟨z179, q180, h⟩ := lt_some h
  rw [← q180]
  obtain ⟨μ181, q182, h⟩ := lt_some h
  refine m_nm q182 ?_
  obtain ⟨q183, h⟩ := gz_some h
  replace q183 := of_decide_eq_true q183
  refine e_putrF dX10_init_200 fl_RX10_86 q183.1 q183.2 rfl rfl rfl ⟨rfl, fun _ => ⟨rfl, rfl⟩⟩ ?_
  obtain ⟨μ184, q185, h⟩ := lt_some h
  refine m_nm q185 ?_
  refine e_aload_n 0 dX10_init_203 rfl rfl ?_
  refine e_iconst (v := (4 : Int32)) dX10_init_204 (by decide) ?_
  obtain ⟨q186, h⟩ := gz_some h
  replace q186 := of_decide_eq_true q186
  refine e_newaI dX10_init_205 (tw1 86 rfl rfl) q186.1 (by decide) (by decide) (by decide) q186.2.1 q186.2.2 ?_
  obtain ⟨z187, q188, h⟩ := lt_some h
  rw [← q188]
  obtain ⟨μ189, q190, h⟩ := lt_some h
  refine m_nm q190 ?_
  obtain ⟨q191, h⟩ := gz_some h
  replace q191 := of_decide_eq_true q191
  refine e_putrF dX10_init_207 fl_RX10_89 q191.1 q191.2 rfl rfl rfl ⟨rfl, fun _ => ⟨rfl, rfl⟩⟩ ?_
  obtain ⟨μ192, q193, h⟩ := lt_some h
  refine m_nm q193 ?_
  refine e_aload_n 0 dX10_init_210 rfl rfl ?_
  refine e_iconst (v := (4 : Int32)) dX10_init_211 (by decide) ?_
  obtain ⟨q194, h⟩ := gz_some h
  replace q194 := of_decide_eq_true q194
  refine e_newaI dX10_init_212 (tw1 86 rfl rfl) q194.1 (by decide) (by decide) (by decide) q194.2.1 q194.2.2 ?_
  obtain ⟨z195, q196, h⟩ := lt_some h
  rw [← q196]
  obtain ⟨μ197, q198, h⟩ := lt_some h
  refine m_nm q198 ?_
  obtain ⟨q199, h⟩ := gz_some h
  replace q199 := of_decide_eq_true q199
  refine e_putrF dX10_init_214 fl_RX10_92 q199.1 q199.2 rfl rfl rfl ⟨rfl, fun _ => ⟨rfl, rfl⟩⟩ ?_
  obtain ⟨μ200, q201, h⟩ := lt_some h
  refine m_nm q201 ?_
  refine e_aload_n 0 dX10_init_217 rfl rfl ?_
  refine e_iconst (v := (4 : Int32)) dX10_init_218 (by decide) ?_
  obtain ⟨q202, h⟩ := gz_some h
  replace q202 := of_decide_eq_true q202
  refine e_newaZ dX10_init_219 (tw2 23 rfl rfl) q202.1 (by decide) (by decide) (by decide) q202.2.1 q202.2.2 ?_
  obtain ⟨z203, q204, h⟩ := lt_some h
  rw [← q204]
  obtain ⟨μ205, q206, h⟩ := lt_some h
  refine m_nm q206 ?_
  obtain ⟨q207, h⟩ := gz_some h
  replace q207 := of_decide_eq_true q207
  refine e_putrF dX10_init_221 fl_RX10_95 q207.1 q207.2 rfl rfl rfl ⟨rfl, fun _ => ⟨rfl, rfl⟩⟩ ?_
  obtain ⟨μ208, q209, h⟩ := lt_some h
  refine m_nm q209 ?_
  obtain ⟨q210, h⟩ := gz_some h
  replace q210 := of_decide_eq_true q210
  obtain rfl := Option.some.inj h
  exact e_ret rfl ⟨⟨rfl, rfl⟩, q210⟩ rfl dX10_init_224
