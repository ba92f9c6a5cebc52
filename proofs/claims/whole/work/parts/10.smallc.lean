abbrev yy_X6_addNumber : mm_Y := (yX6_addNumber, cX6_addNumber, 3, none)
theorem dX6_addNumber_0 : decode cX6_addNumber 0 = .ok (.bipush 24, 2) := by decide +kernel
theorem dX6_addNumber_2 : decode cX6_addNumber 2 = .ok (.istore_n 2, 1) := by decide +kernel
theorem dX6_addNumber_3 : decode cX6_addNumber 3 = .ok (.iload_n 2, 1) := by decide +kernel
theorem dX6_addNumber_4 : decode cX6_addNumber 4 = .ok (.ifCond .lt 42, 3) := by decide +kernel
theorem dX6_addNumber_7 : decode cX6_addNumber 7 = .ok (.aload_n 0, 1) := by decide +kernel
theorem dX6_addNumber_8 : decode cX6_addNumber 8 = .ok (.getfield 15, 3) := by decide +kernel
theorem dX6_addNumber_11 : decode cX6_addNumber 11 = .ok (.sipush 400, 3) := by decide +kernel
theorem dX6_addNumber_14 : decode cX6_addNumber 14 = .ok (.if_icmp .ge 26, 3) := by decide +kernel
theorem dX6_addNumber_17 : decode cX6_addNumber 17 = .ok (.aload_n 0, 1) := by decide +kernel
theorem dX6_addNumber_18 : decode cX6_addNumber 18 = .ok (.getfield 9, 3) := by decide +kernel
theorem dX6_addNumber_21 : decode cX6_addNumber 21 = .ok (.aload_n 0, 1) := by decide +kernel
theorem dX6_addNumber_22 : decode cX6_addNumber 22 = .ok (.getfield 15, 3) := by decide +kernel
theorem dX6_addNumber_25 : decode cX6_addNumber 25 = .ok (.iload_n 1, 1) := by decide +kernel
theorem dX6_addNumber_26 : decode cX6_addNumber 26 = .ok (.iload_n 2, 1) := by decide +kernel
theorem dX6_addNumber_27 : decode cX6_addNumber 27 = .ok (.ishr, 1) := by decide +kernel
theorem dX6_addNumber_28 : decode cX6_addNumber 28 = .ok (.i2b, 1) := by decide +kernel
theorem dX6_addNumber_29 : decode cX6_addNumber 29 = .ok (.bastore, 1) := by decide +kernel
theorem dX6_addNumber_30 : decode cX6_addNumber 30 = .ok (.aload_n 0, 1) := by decide +kernel
theorem dX6_addNumber_31 : decode cX6_addNumber 31 = .ok (.dup, 1) := by decide +kernel
theorem dX6_addNumber_32 : decode cX6_addNumber 32 = .ok (.getfield 15, 3) := by decide +kernel
theorem dX6_addNumber_35 : decode cX6_addNumber 35 = .ok (.iconst 1, 1) := by decide +kernel
theorem dX6_addNumber_36 : decode cX6_addNumber 36 = .ok (.iadd, 1) := by decide +kernel
theorem dX6_addNumber_37 : decode cX6_addNumber 37 = .ok (.putfield 15, 3) := by decide +kernel
theorem dX6_addNumber_40 : decode cX6_addNumber 40 = .ok (.iinc 2 (-8), 3) := by decide +kernel
theorem dX6_addNumber_43 : decode cX6_addNumber 43 = .ok (.goto (-40), 3) := by decide +kernel
theorem dX6_addNumber_46 : decode cX6_addNumber 46 = .ok (.return_, 1) := by decide +kernel
def f_X6_addNumber_3 (a0 : Nat) (i1 : Int32) (i2 : Int32) (σ : mm_S) : Option (mm_S) :=
  lp lpN (fun (k3 : (Int32) → mm_S → Option (mm_S)) (v : Int32) (σ : mm_S) =>
    if v < 0 then
      some σ
    else
      if (400 : Int32) ≤ (σ.1 a0 1) then
        lt (v + Int32.ofInt (-8)) fun x3 =>
        k3 x3 σ
      else
        gd (σ.1 a0 1) 400 <|
        lt (su_i σ 2 (σ.1 a0 1).toNatClampNeg (vp_nar .byte ((i1 >>> (v &&& 31)) : Int32).toInt8.toInt32)) fun σ6 =>
        lt (su_i σ6 a0 1 ((σ6.1 a0 1) + (1 : Int32))) fun σ8 =>
        lt (v + Int32.ofInt (-8)) fun x10 =>
        k3 x10 σ8) i2 σ
theorem v_X6_addNumber_3 {g : mm_G} (d : Nat) {a0 : Nat} {i1 : Int32} {i2 : Int32} {σ : mm_S} {res : mm_S}  (h_a0 : (mm_K a0).1 = 6) (h : f_X6_addNumber_3 a0 i1 i2 σ = some res) : SV g (d + 0) yy_X6_addNumber 3 [(0, .ref a0), (1, .int i1), (2, .int i2)] [] σ .null res := by
  unfold f_X6_addNumber_3 at h
  refine lp_ind (P := fun v σ => SV g (d + 0) yy_X6_addNumber 3 [(0, .ref a0), (1, .int i1), (2, .int v)] [] σ .null res) (fun k3 H3 v σ h => ?_) _ i2 σ h
  refine e_iload_n 2 dX6_addNumber_3 rfl rfl ?_
  refine e_if_lt 46 dX6_addNumber_4 (by decide) (fun c1 => ?_) (fun c1 => ?_)
  · rw [if_pos c1] at h
    obtain rfl := Option.some.inj h
    exact s_ret rfl rfl dX6_addNumber_46
  · rw [if_neg c1] at h
    refine e_aload_n 0 dX6_addNumber_7 rfl rfl ?_
    refine s_geti dX6_addNumber_8 fl_RX6_15 h_a0 ?_
    refine e_sipush (v := (400 : Int32)) dX6_addNumber_11 (by decide) ?_
    refine e_icmp_ge 40 dX6_addNumber_14 (by decide) (fun c2 => ?_) (fun c2 => ?_)
    · rw [if_pos c2] at h
      obtain ⟨x3, q4, h⟩ := lt_some h
      refine e_iinc (v := x3) (L' := [(0, .ref a0), (1, .int i1), (2, .int x3)]) 2 dX6_addNumber_40 rfl q4.symm (by decide) rfl ?_
      refine e_goto 3 dX6_addNumber_43 (by decide) ?_
      refine s_pick (L' := [(0, .ref a0), (1, .int i1), (2, .int x3)]) [0, 1, 2] rfl ?_
      exact H3 x3 σ h
    · rw [if_neg c2] at h
      refine e_aload_n 0 dX6_addNumber_17 rfl rfl ?_
      refine s_getr dX6_addNumber_18 fl_RX6_9 h_a0 (r_6_0 h_a0).1 ?_
      refine e_aload_n 0 dX6_addNumber_21 rfl rfl ?_
      refine s_geti dX6_addNumber_22 fl_RX6_15 h_a0 ?_
      refine e_iload_n 1 dX6_addNumber_25 rfl rfl ?_
      refine e_iload_n 2 dX6_addNumber_26 rfl rfl ?_
      refine e_ishr dX6_addNumber_27 ?_
      refine e_i2b dX6_addNumber_28 ?_
      obtain ⟨q5, h⟩ := gd_some h
      refine s_bast dX6_addNumber_29 (r_6_0 (w := 0) h_a0).2 q5 ?_
      obtain ⟨σ6, q7, h⟩ := lt_some h
      refine s_nms q7 ?_
      refine e_aload_n 0 dX6_addNumber_30 rfl rfl ?_
      refine e_dup dX6_addNumber_31 rfl ?_
      refine s_geti dX6_addNumber_32 fl_RX6_15 h_a0 ?_
      refine e_iconst (v := (1 : Int32)) dX6_addNumber_35 (by decide) ?_
      refine e_iadd dX6_addNumber_36 ?_
      refine s_puti dX6_addNumber_37 fl_RX6_15 h_a0 rfl rfl rfl ?_
      obtain ⟨σ8, q9, h⟩ := lt_some h
      refine s_nms q9 ?_
      obtain ⟨x10, q11, h⟩ := lt_some h
      refine e_iinc (v := x10) (L' := [(0, .ref a0), (1, .int i1), (2, .int x10)]) 2 dX6_addNumber_40 rfl q11.symm (by decide) rfl ?_
      refine e_goto 3 dX6_addNumber_43 (by decide) ?_
      refine s_pick (L' := [(0, .ref a0), (1, .int i1), (2, .int x10)]) [0, 1, 2] rfl ?_
      exact H3 x10 σ8 h
def f_X6_addNumber (a0 : Nat) (i1 : Int32) (σ : mm_S) : Option (mm_S) :=
    f_X6_addNumber_3 a0 i1 (24 : Int32) σ
theorem v_X6_addNumber {g : mm_G} (d : Nat) {a0 : Nat} {i1 : Int32} {σ : mm_S} {res : mm_S} (h_a0 : (mm_K a0).1 = 6) (h : f_X6_addNumber a0 i1 σ = some res) : SM g (d + 0) yy_X6_addNumber [.ref a0, .int i1] σ .null res := by
  refine s_of (by decide) (Nat.le_of_ble_eq_true rfl) (L := [(0, .ref a0), (1, .int i1)]) rfl ?_
  unfold f_X6_addNumber at h
  refine e_bipush (v := (24 : Int32)) dX6_addNumber_0 (by decide) ?_
  refine e_istore_n (L' := [(0, .ref a0), (1, .int i1), (2, .int (24 : Int32))]) dX6_addNumber_2 rfl (by decide) rfl ?_
  refine s_pick (L' := [(0, .ref a0), (1, .int i1), (2, .int (24 : Int32))]) [0, 1, 2] rfl ?_
  exact v_X6_addNumber_3 d h_a0 h
abbrev yy_X8_take : mm_Y := (yX8_take, cX8_take, 2, none)
theorem dX8_take_0 : decode cX8_take 0 = .ok (.aload_n 0, 1) := by decide +kernel
theorem dX8_take_1 : decode cX8_take 1 = .ok (.getfield 12, 3) := by decide +kernel
theorem dX8_take_4 : decode cX8_take 4 = .ok (.aload_n 1, 1) := by decide +kernel
theorem dX8_take_5 : decode cX8_take 5 = .ok (.getfield 12, 3) := by decide +kernel
theorem dX8_take_8 : decode cX8_take 8 = .ok (.invokevirtual 36, 3) := by decide +kernel
theorem dX8_take_11 : decode cX8_take 11 = .ok (.aload_n 0, 1) := by decide +kernel
theorem dX8_take_12 : decode cX8_take 12 = .ok (.getfield 21, 3) := by decide +kernel
theorem dX8_take_15 : decode cX8_take 15 = .ok (.aload_n 1, 1) := by decide +kernel
theorem dX8_take_16 : decode cX8_take 16 = .ok (.getfield 21, 3) := by decide +kernel
theorem dX8_take_19 : decode cX8_take 19 = .ok (.invokevirtual 40, 3) := by decide +kernel
theorem dX8_take_22 : decode cX8_take 22 = .ok (.aload_n 0, 1) := by decide +kernel
theorem dX8_take_23 : decode cX8_take 23 = .ok (.getfield 28, 3) := by decide +kernel
theorem dX8_take_26 : decode cX8_take 26 = .ok (.aload_n 1, 1) := by decide +kernel
theorem dX8_take_27 : decode cX8_take 27 = .ok (.getfield 28, 3) := by decide +kernel
theorem dX8_take_30 : decode cX8_take 30 = .ok (.invokevirtual 43, 3) := by decide +kernel
theorem dX8_take_33 : decode cX8_take 33 = .ok (.aload_n 0, 1) := by decide +kernel
theorem dX8_take_34 : decode cX8_take 34 = .ok (.aload_n 1, 1) := by decide +kernel
theorem dX8_take_35 : decode cX8_take 35 = .ok (.getfield 32, 3) := by decide +kernel
theorem dX8_take_38 : decode cX8_take 38 = .ok (.putfield 32, 3) := by decide +kernel
theorem dX8_take_41 : decode cX8_take 41 = .ok (.aload_n 0, 1) := by decide +kernel
theorem dX8_take_42 : decode cX8_take 42 = .ok (.aload_n 1, 1) := by decide +kernel
theorem dX8_take_43 : decode cX8_take 43 = .ok (.getfield 46, 3) := by decide +kernel
theorem dX8_take_46 : decode cX8_take 46 = .ok (.putfield 46, 3) := by decide +kernel
theorem dX8_take_49 : decode cX8_take 49 = .ok (.return_, 1) := by decide +kernel
def f_X8_take (a0 : Nat) (a1 : Nat) (σ : mm_S) : Option (mm_S) :=
    bv (f_X1_take (a0 + 1) (a1 + 1) σ) fun σ12 =>
    bv (f_X2_take (a0 + 5) (a1 + 5) σ12) fun σ14 =>
    bv (f_X3_take (a0 + 10) (a1 + 10) σ14) fun σ16 =>
    lt (su_i σ16 a0 3 (σ16.1 a1 3)) fun σ17 =>
    lt (su_i σ17 a0 4 (σ17.1 a1 4)) fun σ19 =>
    some σ19
theorem v_X8_take {g : mm_G} (d : Nat) {a0 : Nat} {a1 : Nat} {σ : mm_S} {res : mm_S} (h_a0 : (mm_K a0).1 = 8) (h_a1 : (mm_K a1).1 = 8) (h : f_X8_take a0 a1 σ = some res) : SM g (d + 2) yy_X8_take [.ref a0, .ref a1] σ .null res := by
  refine s_of (by decide) (Nat.le_of_ble_eq_true rfl) (L := [(0, .ref a0), (1, .ref a1)]) rfl ?_
  unfold f_X8_take at h
  refine e_aload_n 0 dX8_take_0 rfl rfl ?_
  refine s_getr dX8_take_1 fl_RX8_12 h_a0 (r_8_0 h_a0).1 ?_
  refine e_aload_n 1 dX8_take_4 rfl rfl ?_
  refine s_getr dX8_take_5 fl_RX8_12 h_a1 (r_8_0 h_a1).1 ?_
  obtain ⟨σ12, q11, h⟩ := bv_some h
  refine s_callVv [.ref (a1 + 1)] dX8_take_8 ml_RX8_36 (ka_1 (r_8_0 (w := 0) h_a0).2) rfl rfl (v_X1_take (d + 0) (ka_1 (r_8_0 (w := 0) h_a0).2) (ka_1 (r_8_0 (w := 0) h_a1).2) q11) (Nat.le_of_ble_eq_true rfl) ?_
  refine e_aload_n 0 dX8_take_11 rfl rfl ?_
  refine s_getr dX8_take_12 fl_RX8_21 h_a0 (r_8_1 h_a0).1 ?_
  refine e_aload_n 1 dX8_take_15 rfl rfl ?_
  refine s_getr dX8_take_16 fl_RX8_21 h_a1 (r_8_1 h_a1).1 ?_
  obtain ⟨σ14, q13, h⟩ := bv_some h
  refine s_callVv [.ref (a1 + 5)] dX8_take_19 ml_RX8_40 (ka_1 (r_8_1 (w := 0) h_a0).2) rfl rfl (v_X2_take (d + 0) (ka_1 (r_8_1 (w := 0) h_a0).2) (ka_1 (r_8_1 (w := 0) h_a1).2) q13) (Nat.le_of_ble_eq_true rfl) ?_
  refine e_aload_n 0 dX8_take_22 rfl rfl ?_
  refine s_getr dX8_take_23 fl_RX8_28 h_a0 (r_8_2 h_a0).1 ?_
  refine e_aload_n 1 dX8_take_26 rfl rfl ?_
  refine s_getr dX8_take_27 fl_RX8_28 h_a1 (r_8_2 h_a1).1 ?_
  obtain ⟨σ16, q15, h⟩ := bv_some h
  refine s_callVv [.ref (a1 + 10)] dX8_take_30 ml_RX8_43 (ka_1 (r_8_2 (w := 0) h_a0).2) rfl rfl (v_X3_take (d + 0) (ka_1 (r_8_2 (w := 0) h_a0).2) (ka_1 (r_8_2 (w := 0) h_a1).2) q15) (Nat.le_of_ble_eq_true rfl) ?_
  refine e_aload_n 0 dX8_take_33 rfl rfl ?_
  refine e_aload_n 1 dX8_take_34 rfl rfl ?_
  refine s_geti dX8_take_35 fl_RX8_32 h_a1 ?_
  refine s_puti dX8_take_38 fl_RX8_32 h_a0 rfl rfl rfl ?_
  obtain ⟨σ17, q18, h⟩ := lt_some h
  refine s_nms q18 ?_
  refine e_aload_n 0 dX8_take_41 rfl rfl ?_
  refine e_aload_n 1 dX8_take_42 rfl rfl ?_
  refine s_geti dX8_take_43 fl_RX8_46 h_a1 ?_
  refine s_puti dX8_take_46 fl_RX8_46 h_a0 rfl rfl rfl ?_
  obtain ⟨σ19, q20, h⟩ := lt_some h
  refine s_nms q20 ?_
  obtain rfl := Option.some.inj h
  exact s_ret rfl rfl dX8_take_49
