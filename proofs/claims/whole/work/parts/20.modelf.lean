abbrev yy_X10_isHouseHere : mm_Y := (yX10_isHouseHere, cX10_isHouseHere, 2, (some .boolean))
theorem dX10_isHouseHere_0 : decode cX10_isHouseHere 0 = .ok (.aload_n 0, 1) := by decide +kernel
theorem dX10_isHouseHere_1 : decode cX10_isHouseHere 1 = .ok (.getfield 26, 3) := by decide +kernel
theorem dX10_isHouseHere_4 : decode cX10_isHouseHere 4 = .ok (.iconst 0, 1) := by decide +kernel
theorem dX10_isHouseHere_5 : decode cX10_isHouseHere 5 = .ok (.iaload, 1) := by decide +kernel
theorem dX10_isHouseHere_6 : decode cX10_isHouseHere 6 = .ok (.ifCond .le 10, 3) := by decide +kernel
theorem dX10_isHouseHere_9 : decode cX10_isHouseHere 9 = .ok (.aload_n 0, 1) := by decide +kernel
theorem dX10_isHouseHere_10 : decode cX10_isHouseHere 10 = .ok (.iconst 4, 1) := by decide +kernel
theorem dX10_isHouseHere_11 : decode cX10_isHouseHere 11 = .ok (.iload_n 1, 1) := by decide +kernel
theorem dX10_isHouseHere_12 : decode cX10_isHouseHere 12 = .ok (.invokevirtual 129, 3) := by decide +kernel
theorem dX10_isHouseHere_15 : decode cX10_isHouseHere 15 = .ok (.ireturn, 1) := by decide +kernel
theorem dX10_isHouseHere_16 : decode cX10_isHouseHere 16 = .ok (.aload_n 0, 1) := by decide +kernel
theorem dX10_isHouseHere_17 : decode cX10_isHouseHere 17 = .ok (.invokevirtual 123, 3) := by decide +kernel
theorem dX10_isHouseHere_20 : decode cX10_isHouseHere 20 = .ok (.aload_n 0, 1) := by decide +kernel
theorem dX10_isHouseHere_21 : decode cX10_isHouseHere 21 = .ok (.iconst 1, 1) := by decide +kernel
theorem dX10_isHouseHere_22 : decode cX10_isHouseHere 22 = .ok (.iconst 1, 1) := by decide +kernel
theorem dX10_isHouseHere_23 : decode cX10_isHouseHere 23 = .ok (.bipush 9, 2) := by decide +kernel
theorem dX10_isHouseHere_25 : decode cX10_isHouseHere 25 = .ok (.invokevirtual 238, 3) := by decide +kernel
theorem dX10_isHouseHere_28 : decode cX10_isHouseHere 28 = .ok (.ifCond .eq 14, 3) := by decide +kernel
theorem dX10_isHouseHere_31 : decode cX10_isHouseHere 31 = .ok (.aload_n 0, 1) := by decide +kernel
theorem dX10_isHouseHere_32 : decode cX10_isHouseHere 32 = .ok (.iconst 2, 1) := by decide +kernel
theorem dX10_isHouseHere_33 : decode cX10_isHouseHere 33 = .ok (.iconst 0, 1) := by decide +kernel
theorem dX10_isHouseHere_34 : decode cX10_isHouseHere 34 = .ok (.bipush 7, 2) := by decide +kernel
theorem dX10_isHouseHere_36 : decode cX10_isHouseHere 36 = .ok (.invokevirtual 238, 3) := by decide +kernel
theorem dX10_isHouseHere_39 : decode cX10_isHouseHere 39 = .ok (.ifCond .ne 5, 3) := by decide +kernel
theorem dX10_isHouseHere_42 : decode cX10_isHouseHere 42 = .ok (.iconst 0, 1) := by decide +kernel
theorem dX10_isHouseHere_43 : decode cX10_isHouseHere 43 = .ok (.ireturn, 1) := by decide +kernel
theorem dX10_isHouseHere_44 : decode cX10_isHouseHere 44 = .ok (.aload_n 0, 1) := by decide +kernel
theorem dX10_isHouseHere_45 : decode cX10_isHouseHere 45 = .ok (.getfield 26, 3) := by decide +kernel
theorem dX10_isHouseHere_48 : decode cX10_isHouseHere 48 = .ok (.iconst 0, 1) := by decide +kernel
theorem dX10_isHouseHere_49 : decode cX10_isHouseHere 49 = .ok (.iconst 1, 1) := by decide +kernel
theorem dX10_isHouseHere_50 : decode cX10_isHouseHere 50 = .ok (.iastore, 1) := by decide +kernel
theorem dX10_isHouseHere_51 : decode cX10_isHouseHere 51 = .ok (.iconst 1, 1) := by decide +kernel
theorem dX10_isHouseHere_52 : decode cX10_isHouseHere 52 = .ok (.ireturn, 1) := by decide +kernel
def f_X10_isHouseHere (a0 : Nat) (i1 : Int32) (σ : mm_S) : Option (Int32 × mm_S) :=
    gd (0 : Int32) 90 <|
    if (σ.1 220 (0 : Int32).toNatClampNeg) ≤ 0 then
      bv (f_X10_passWord a0 σ) fun σ23 =>
      bd (f_X10_cellHere a0 (1 : Int32) (1 : Int32) (9 : Int32) σ23) fun r26 σ25 =>
      if r26 = 0 then
        some ((0 : Int32), σ25)
      else
        bd (f_X10_cellHere a0 (2 : Int32) (0 : Int32) (7 : Int32) σ25) fun r30 σ29 =>
        if r30 = 0 then
          some ((0 : Int32), σ29)
        else
          gd (0 : Int32) 90 <|
          lt (su_i σ29 220 (0 : Int32).toNatClampNeg (1 : Int32)) fun σ33 =>
          some ((1 : Int32), σ33)
    else
      bd (f_X10_fails a0 (4 : Int32) i1 σ) fun r37 σ36 =>
      gb r37 <|
      some (r37, σ36)
theorem v_X10_isHouseHere {g : mm_G} (d : Nat) {a0 : Nat} {i1 : Int32} {σ : mm_S} {res : Int32 × mm_S} (h_a0 : (mm_K a0).1 = 10) (h : f_X10_isHouseHere a0 i1 σ = some res) : SM g (d + 3) yy_X10_isHouseHere [.ref a0, .int i1] σ (.int res.1) res.2 := by
  refine s_of (by decide) (Nat.le_of_ble_eq_true rfl) (L := [(0, .ref a0), (1, .int i1)]) rfl ?_
  unfold f_X10_isHouseHere at h
  refine e_aload_n 0 dX10_isHouseHere_0 rfl rfl ?_
  refine s_getr dX10_isHouseHere_1 fl_RX10_26 h_a0 (r_10_7 h_a0).1 ?_
  refine e_iconst (v := (0 : Int32)) dX10_isHouseHere_4 (by decide) ?_
  obtain ⟨q20, h⟩ := gd_some h
  refine s_iald dX10_isHouseHere_5 (r_10_7 (w := 0) h_a0).2 q20 ?_
  refine e_if_le 16 dX10_isHouseHere_6 (by decide) (fun c21 => ?_) (fun c21 => ?_)
  · rw [if_pos c21] at h
    refine e_aload_n 0 dX10_isHouseHere_16 rfl rfl ?_
    obtain ⟨σ23, q22, h⟩ := bv_some h
    refine s_callVv [] dX10_isHouseHere_17 ml_RX10_123 h_a0 rfl rfl (v_X10_passWord (d + 1) h_a0 q22) (Nat.le_of_ble_eq_true rfl) ?_
    refine e_aload_n 0 dX10_isHouseHere_20 rfl rfl ?_
    refine e_iconst (v := (1 : Int32)) dX10_isHouseHere_21 (by decide) ?_
    refine e_iconst (v := (1 : Int32)) dX10_isHouseHere_22 (by decide) ?_
    refine e_bipush (v := (9 : Int32)) dX10_isHouseHere_23 (by decide) ?_
    obtain ⟨r26, σ25, q24, h⟩ := bd_some h
    refine s_callVi [.int (1 : Int32), .int (1 : Int32), .int (9 : Int32)] dX10_isHouseHere_25 ml_RX10_238 h_a0 ⟨_, rfl, by decide⟩ rfl (v_X10_cellHere (d + 0) h_a0 q24) (Nat.le_of_ble_eq_true rfl) ?_
    refine e_if_eq 42 dX10_isHouseHere_28 (by decide) (fun c27 => ?_) (fun c27 => ?_)
    · rw [if_pos c27] at h
      refine e_iconst (v := (0 : Int32)) dX10_isHouseHere_42 (by decide) ?_
      obtain rfl := Option.some.inj h
      exact s_ret rfl ⟨_, rfl, nb1 (Or.inl rfl)⟩ dX10_isHouseHere_43
    · rw [if_neg c27] at h
      refine e_aload_n 0 dX10_isHouseHere_31 rfl rfl ?_
      refine e_iconst (v := (2 : Int32)) dX10_isHouseHere_32 (by decide) ?_
      refine e_iconst (v := (0 : Int32)) dX10_isHouseHere_33 (by decide) ?_
      refine e_bipush (v := (7 : Int32)) dX10_isHouseHere_34 (by decide) ?_
      obtain ⟨r30, σ29, q28, h⟩ := bd_some h
      refine s_callVi [.int (2 : Int32), .int (0 : Int32), .int (7 : Int32)] dX10_isHouseHere_36 ml_RX10_238 h_a0 ⟨_, rfl, by decide⟩ rfl (v_X10_cellHere (d + 0) h_a0 q28) (Nat.le_of_ble_eq_true rfl) ?_
      refine e_if_ne 44 dX10_isHouseHere_39 (by decide) (fun c31 => ?_) (fun c31 => ?_)
      · rw [if_neg c31] at h
        refine e_aload_n 0 dX10_isHouseHere_44 rfl rfl ?_
        refine s_getr dX10_isHouseHere_45 fl_RX10_26 h_a0 (r_10_7 h_a0).1 ?_
        refine e_iconst (v := (0 : Int32)) dX10_isHouseHere_48 (by decide) ?_
        refine e_iconst (v := (1 : Int32)) dX10_isHouseHere_49 (by decide) ?_
        obtain ⟨q32, h⟩ := gd_some h
        refine s_iast dX10_isHouseHere_50 (r_10_7 (w := 0) h_a0).2 q32 ?_
        obtain ⟨σ33, q34, h⟩ := lt_some h
        refine s_nms q34 ?_
        refine e_iconst (v := (1 : Int32)) dX10_isHouseHere_51 (by decide) ?_
        obtain rfl := Option.some.inj h
        exact s_ret rfl ⟨_, rfl, nb1 (Or.inr rfl)⟩ dX10_isHouseHere_52
      · rw [if_pos c31] at h
        refine e_iconst (v := (0 : Int32)) dX10_isHouseHere_42 (by decide) ?_
        obtain rfl := Option.some.inj h
        exact s_ret rfl ⟨_, rfl, nb1 (Or.inl rfl)⟩ dX10_isHouseHere_43
  · rw [if_neg c21] at h
    refine e_aload_n 0 dX10_isHouseHere_9 rfl rfl ?_
    refine e_iconst (v := (4 : Int32)) dX10_isHouseHere_10 (by decide) ?_
    refine e_iload_n 1 dX10_isHouseHere_11 rfl rfl ?_
    obtain ⟨r37, σ36, q35, h⟩ := bd_some h
    refine s_callVi [.int (4 : Int32), .int i1] dX10_isHouseHere_12 ml_RX10_129 h_a0 ⟨_, rfl, by decide⟩ rfl (v_X10_fails (d + 2) h_a0 q35) (Nat.le_of_ble_eq_true rfl) ?_
    obtain ⟨q38, h⟩ := gb_some h
    obtain rfl := Option.some.inj h
    exact s_ret rfl ⟨_, rfl, nb1 q38⟩ dX10_isHouseHere_15
abbrev yy_X10_isLodgerHere : mm_Y := (yX10_isLodgerHere, cX10_isLodgerHere, 2, (some .boolean))
theorem dX10_isLodgerHere_0 : decode cX10_isLodgerHere 0 = .ok (.aload_n 0, 1) := by decide +kernel
theorem dX10_isLodgerHere_1 : decode cX10_isLodgerHere 1 = .ok (.getfield 26, 3) := by decide +kernel
theorem dX10_isLodgerHere_4 : decode cX10_isLodgerHere 4 = .ok (.iconst 3, 1) := by decide +kernel
theorem dX10_isLodgerHere_5 : decode cX10_isLodgerHere 5 = .ok (.iaload, 1) := by decide +kernel
theorem dX10_isLodgerHere_6 : decode cX10_isLodgerHere 6 = .ok (.bipush 6, 2) := by decide +kernel
theorem dX10_isLodgerHere_8 : decode cX10_isLodgerHere 8 = .ok (.if_icmp .ne 10, 3) := by decide +kernel
theorem dX10_isLodgerHere_11 : decode cX10_isLodgerHere 11 = .ok (.aload_n 0, 1) := by decide +kernel
theorem dX10_isLodgerHere_12 : decode cX10_isLodgerHere 12 = .ok (.iconst 4, 1) := by decide +kernel
theorem dX10_isLodgerHere_13 : decode cX10_isLodgerHere 13 = .ok (.iload_n 1, 1) := by decide +kernel
theorem dX10_isLodgerHere_14 : decode cX10_isLodgerHere 14 = .ok (.invokevirtual 129, 3) := by decide +kernel
theorem dX10_isLodgerHere_17 : decode cX10_isLodgerHere 17 = .ok (.ireturn, 1) := by decide +kernel
theorem dX10_isLodgerHere_18 : decode cX10_isLodgerHere 18 = .ok (.aload_n 0, 1) := by decide +kernel
theorem dX10_isLodgerHere_19 : decode cX10_isLodgerHere 19 = .ok (.invokevirtual 123, 3) := by decide +kernel
theorem dX10_isLodgerHere_22 : decode cX10_isLodgerHere 22 = .ok (.aload_n 0, 1) := by decide +kernel
theorem dX10_isLodgerHere_23 : decode cX10_isLodgerHere 23 = .ok (.bipush 41, 2) := by decide +kernel
theorem dX10_isLodgerHere_25 : decode cX10_isLodgerHere 25 = .ok (.aload_n 0, 1) := by decide +kernel
theorem dX10_isLodgerHere_26 : decode cX10_isLodgerHere 26 = .ok (.getfield 26, 3) := by decide +kernel
theorem dX10_isLodgerHere_29 : decode cX10_isLodgerHere 29 = .ok (.iconst 3, 1) := by decide +kernel
theorem dX10_isLodgerHere_30 : decode cX10_isLodgerHere 30 = .ok (.iaload, 1) := by decide +kernel
theorem dX10_isLodgerHere_31 : decode cX10_isLodgerHere 31 = .ok (.iadd, 1) := by decide +kernel
theorem dX10_isLodgerHere_32 : decode cX10_isLodgerHere 32 = .ok (.iconst 0, 1) := by decide +kernel
theorem dX10_isLodgerHere_33 : decode cX10_isLodgerHere 33 = .ok (.bipush 60, 2) := by decide +kernel
theorem dX10_isLodgerHere_35 : decode cX10_isLodgerHere 35 = .ok (.invokevirtual 238, 3) := by decide +kernel
theorem dX10_isLodgerHere_38 : decode cX10_isLodgerHere 38 = .ok (.ifCond .eq 22, 3) := by decide +kernel
theorem dX10_isLodgerHere_41 : decode cX10_isLodgerHere 41 = .ok (.aload_n 0, 1) := by decide +kernel
theorem dX10_isLodgerHere_42 : decode cX10_isLodgerHere 42 = .ok (.bipush 47, 2) := by decide +kernel
theorem dX10_isLodgerHere_44 : decode cX10_isLodgerHere 44 = .ok (.aload_n 0, 1) := by decide +kernel
theorem dX10_isLodgerHere_45 : decode cX10_isLodgerHere 45 = .ok (.getfield 26, 3) := by decide +kernel
theorem dX10_isLodgerHere_48 : decode cX10_isLodgerHere 48 = .ok (.iconst 3, 1) := by decide +kernel
theorem dX10_isLodgerHere_49 : decode cX10_isLodgerHere 49 = .ok (.iaload, 1) := by decide +kernel
theorem dX10_isLodgerHere_50 : decode cX10_isLodgerHere 50 = .ok (.iadd, 1) := by decide +kernel
theorem dX10_isLodgerHere_51 : decode cX10_isLodgerHere 51 = .ok (.iconst 0, 1) := by decide +kernel
theorem dX10_isLodgerHere_52 : decode cX10_isLodgerHere 52 = .ok (.bipush 99, 2) := by decide +kernel
theorem dX10_isLodgerHere_54 : decode cX10_isLodgerHere 54 = .ok (.invokevirtual 238, 3) := by decide +kernel
theorem dX10_isLodgerHere_57 : decode cX10_isLodgerHere 57 = .ok (.ifCond .ne 5, 3) := by decide +kernel
theorem dX10_isLodgerHere_60 : decode cX10_isLodgerHere 60 = .ok (.iconst 0, 1) := by decide +kernel
theorem dX10_isLodgerHere_61 : decode cX10_isLodgerHere 61 = .ok (.ireturn, 1) := by decide +kernel
theorem dX10_isLodgerHere_62 : decode cX10_isLodgerHere 62 = .ok (.aload_n 0, 1) := by decide +kernel
theorem dX10_isLodgerHere_63 : decode cX10_isLodgerHere 63 = .ok (.getfield 26, 3) := by decide +kernel
theorem dX10_isLodgerHere_66 : decode cX10_isLodgerHere 66 = .ok (.iconst 3, 1) := by decide +kernel
theorem dX10_isLodgerHere_67 : decode cX10_isLodgerHere 67 = .ok (.dup2, 1) := by decide +kernel
theorem dX10_isLodgerHere_68 : decode cX10_isLodgerHere 68 = .ok (.iaload, 1) := by decide +kernel
theorem dX10_isLodgerHere_69 : decode cX10_isLodgerHere 69 = .ok (.iconst 1, 1) := by decide +kernel
theorem dX10_isLodgerHere_70 : decode cX10_isLodgerHere 70 = .ok (.iadd, 1) := by decide +kernel
theorem dX10_isLodgerHere_71 : decode cX10_isLodgerHere 71 = .ok (.iastore, 1) := by decide +kernel
theorem dX10_isLodgerHere_72 : decode cX10_isLodgerHere 72 = .ok (.iconst 1, 1) := by decide +kernel
theorem dX10_isLodgerHere_73 : decode cX10_isLodgerHere 73 = .ok (.ireturn, 1) := by decide +kernel
def f_X10_isLodgerHere (a0 : Nat) (i1 : Int32) (σ : mm_S) : Option (Int32 × mm_S) :=
    gd (3 : Int32) 90 <|
    if (σ.1 220 (3 : Int32).toNatClampNeg) = (6 : Int32) then
      bd (f_X10_fails a0 (4 : Int32) i1 σ) fun r43 σ42 =>
      gb r43 <|
      some (r43, σ42)
    else
      bv (f_X10_passWord a0 σ) fun σ26 =>
      gd (3 : Int32) 90 <|
      bd (f_X10_cellHere a0 ((41 : Int32) + (σ26.1 220 (3 : Int32).toNatClampNeg)) (0 : Int32) (60 : Int32) σ26) fun r30 σ29 =>
      if r30 = 0 then
        some ((0 : Int32), σ29)
      else
        gd (3 : Int32) 90 <|
        bd (f_X10_cellHere a0 ((47 : Int32) + (σ29.1 220 (3 : Int32).toNatClampNeg)) (0 : Int32) (99 : Int32) σ29) fun r35 σ34 =>
        if r35 = 0 then
          some ((0 : Int32), σ34)
        else
          gd (3 : Int32) 90 <|
          gd (3 : Int32) 90 <|
          lt (su_i σ34 220 (3 : Int32).toNatClampNeg ((σ34.1 220 (3 : Int32).toNatClampNeg) + (1 : Int32))) fun σ39 =>
          some ((1 : Int32), σ39)
theorem v_X10_isLodgerHere {g : mm_G} (d : Nat) {a0 : Nat} {i1 : Int32} {σ : mm_S} {res : Int32 × mm_S} (h_a0 : (mm_K a0).1 = 10) (h : f_X10_isLodgerHere a0 i1 σ = some res) : SM g (d + 3) yy_X10_isLodgerHere [.ref a0, .int i1] σ (.int res.1) res.2 := by
  refine s_of (by decide) (Nat.le_of_ble_eq_true rfl) (L := [(0, .ref a0), (1, .int i1)]) rfl ?_
  unfold f_X10_isLodgerHere at h
  refine e_aload_n 0 dX10_isLodgerHere_0 rfl rfl ?_
  refine s_getr dX10_isLodgerHere_1 fl_RX10_26 h_a0 (r_10_7 h_a0).1 ?_
  refine e_iconst (v := (3 : Int32)) dX10_isLodgerHere_4 (by decide) ?_
  obtain ⟨q23, h⟩ := gd_some h
  refine s_iald dX10_isLodgerHere_5 (r_10_7 (w := 0) h_a0).2 q23 ?_
  refine e_bipush (v := (6 : Int32)) dX10_isLodgerHere_6 (by decide) ?_
  refine e_icmp_ne 18 dX10_isLodgerHere_8 (by decide) (fun c24 => ?_) (fun c24 => ?_)
  · rw [if_neg c24] at h
    refine e_aload_n 0 dX10_isLodgerHere_18 rfl rfl ?_
    obtain ⟨σ26, q25, h⟩ := bv_some h
    refine s_callVv [] dX10_isLodgerHere_19 ml_RX10_123 h_a0 rfl rfl (v_X10_passWord (d + 1) h_a0 q25) (Nat.le_of_ble_eq_true rfl) ?_
    refine e_aload_n 0 dX10_isLodgerHere_22 rfl rfl ?_
    refine e_bipush (v := (41 : Int32)) dX10_isLodgerHere_23 (by decide) ?_
    refine e_aload_n 0 dX10_isLodgerHere_25 rfl rfl ?_
    refine s_getr dX10_isLodgerHere_26 fl_RX10_26 h_a0 (r_10_7 h_a0).1 ?_
    refine e_iconst (v := (3 : Int32)) dX10_isLodgerHere_29 (by decide) ?_
    obtain ⟨q27, h⟩ := gd_some h
    refine s_iald dX10_isLodgerHere_30 (r_10_7 (w := 0) h_a0).2 q27 ?_
    refine e_iadd dX10_isLodgerHere_31 ?_
    refine e_iconst (v := (0 : Int32)) dX10_isLodgerHere_32 (by decide) ?_
    refine e_bipush (v := (60 : Int32)) dX10_isLodgerHere_33 (by decide) ?_
    obtain ⟨r30, σ29, q28, h⟩ := bd_some h
    refine s_callVi [.int ((41 : Int32) + (σ26.1 220 (3 : Int32).toNatClampNeg)), .int (0 : Int32), .int (60 : Int32)] dX10_isLodgerHere_35 ml_RX10_238 h_a0 ⟨_, rfl, by decide⟩ rfl (v_X10_cellHere (d + 0) h_a0 q28) (Nat.le_of_ble_eq_true rfl) ?_
    refine e_if_eq 60 dX10_isLodgerHere_38 (by decide) (fun c31 => ?_) (fun c31 => ?_)
    · rw [if_pos c31] at h
      refine e_iconst (v := (0 : Int32)) dX10_isLodgerHere_60 (by decide) ?_
      obtain rfl := Option.some.inj h
      exact s_ret rfl ⟨_, rfl, nb1 (Or.inl rfl)⟩ dX10_isLodgerHere_61
    · rw [if_neg c31] at h
      refine e_aload_n 0 dX10_isLodgerHere_41 rfl rfl ?_
      refine e_bipush (v := (47 : Int32)) dX10_isLodgerHere_42 (by decide) ?_
      refine e_aload_n 0 dX10_isLodgerHere_44 rfl rfl ?_
      refine s_getr dX10_isLodgerHere_45 fl_RX10_26 h_a0 (r_10_7 h_a0).1 ?_
      refine e_iconst (v := (3 : Int32)) dX10_isLodgerHere_48 (by decide) ?_
      obtain ⟨q32, h⟩ := gd_some h
      refine s_iald dX10_isLodgerHere_49 (r_10_7 (w := 0) h_a0).2 q32 ?_
      refine e_iadd dX10_isLodgerHere_50 ?_
      refine e_iconst (v := (0 : Int32)) dX10_isLodgerHere_51 (by decide) ?_
      refine e_bipush (v := (99 : Int32)) dX10_isLodgerHere_52 (by decide) ?_
      obtain ⟨r35, σ34, q33, h⟩ := bd_some h
      refine s_callVi [.int ((47 : Int32) + (σ29.1 220 (3 : Int32).toNatClampNeg)), .int (0 : Int32), .int (99 : Int32)] dX10_isLodgerHere_54 ml_RX10_238 h_a0 ⟨_, rfl, by decide⟩ rfl (v_X10_cellHere (d + 0) h_a0 q33) (Nat.le_of_ble_eq_true rfl) ?_
      refine e_if_ne 62 dX10_isLodgerHere_57 (by decide) (fun c36 => ?_) (fun c36 => ?_)
      · rw [if_neg c36] at h
        refine e_aload_n 0 dX10_isLodgerHere_62 rfl rfl ?_
        refine s_getr dX10_isLodgerHere_63 fl_RX10_26 h_a0 (r_10_7 h_a0).1 ?_
        refine e_iconst (v := (3 : Int32)) dX10_isLodgerHere_66 (by decide) ?_
        refine e_dup2 dX10_isLodgerHere_67 rfl rfl ?_
        obtain ⟨q37, h⟩ := gd_some h
        refine s_iald dX10_isLodgerHere_68 (r_10_7 (w := 0) h_a0).2 q37 ?_
        refine e_iconst (v := (1 : Int32)) dX10_isLodgerHere_69 (by decide) ?_
        refine e_iadd dX10_isLodgerHere_70 ?_
        obtain ⟨q38, h⟩ := gd_some h
        refine s_iast dX10_isLodgerHere_71 (r_10_7 (w := 0) h_a0).2 q38 ?_
        obtain ⟨σ39, q40, h⟩ := lt_some h
        refine s_nms q40 ?_
        refine e_iconst (v := (1 : Int32)) dX10_isLodgerHere_72 (by decide) ?_
        obtain rfl := Option.some.inj h
        exact s_ret rfl ⟨_, rfl, nb1 (Or.inr rfl)⟩ dX10_isLodgerHere_73
      · rw [if_pos c36] at h
        refine e_iconst (v := (0 : Int32)) dX10_isLodgerHere_60 (by decide) ?_
        obtain rfl := Option.some.inj h
        exact s_ret rfl ⟨_, rfl, nb1 (Or.inl rfl)⟩ dX10_isLodgerHere_61
  · rw [if_pos c24] at h
    refine e_aload_n 0 dX10_isLodgerHere_11 rfl rfl ?_
    refine e_iconst (v := (4 : Int32)) dX10_isLodgerHere_12 (by decide) ?_
    refine e_iload_n 1 dX10_isLodgerHere_13 rfl rfl ?_
    obtain ⟨r43, σ42, q41, h⟩ := bd_some h
    refine s_callVi [.int (4 : Int32), .int i1] dX10_isLodgerHere_14 ml_RX10_129 h_a0 ⟨_, rfl, by decide⟩ rfl (v_X10_fails (d + 2) h_a0 q41) (Nat.le_of_ble_eq_true rfl) ?_
    obtain ⟨q44, h⟩ := gb_some h
    obtain rfl := Option.some.inj h
    exact s_ret rfl ⟨_, rfl, nb1 q44⟩ dX10_isLodgerHere_17
abbrev yy_X10_isDearHere : mm_Y := (yX10_isDearHere, cX10_isDearHere, 3, (some .boolean))
theorem dX10_isDearHere_0 : decode cX10_isDearHere 0 = .ok (.aload_n 0, 1) := by decide +kernel
theorem dX10_isDearHere_1 : decode cX10_isDearHere 1 = .ok (.invokevirtual 123, 3) := by decide +kernel
theorem dX10_isDearHere_4 : decode cX10_isDearHere 4 = .ok (.aload_n 0, 1) := by decide +kernel
theorem dX10_isDearHere_5 : decode cX10_isDearHere 5 = .ok (.iconst 0, 1) := by decide +kernel
theorem dX10_isDearHere_6 : decode cX10_isDearHere 6 = .ok (.aload_n 0, 1) := by decide +kernel
theorem dX10_isDearHere_7 : decode cX10_isDearHere 7 = .ok (.getfield 26, 3) := by decide +kernel
theorem dX10_isDearHere_10 : decode cX10_isDearHere 10 = .ok (.iconst 3, 1) := by decide +kernel
theorem dX10_isDearHere_11 : decode cX10_isDearHere 11 = .ok (.iaload, 1) := by decide +kernel
theorem dX10_isDearHere_12 : decode cX10_isDearHere 12 = .ok (.iconst 1, 1) := by decide +kernel
theorem dX10_isDearHere_13 : decode cX10_isDearHere 13 = .ok (.isub, 1) := by decide +kernel
theorem dX10_isDearHere_14 : decode cX10_isDearHere 14 = .ok (.invokevirtual 187, 3) := by decide +kernel
theorem dX10_isDearHere_17 : decode cX10_isDearHere 17 = .ok (.ifCond .ne 5, 3) := by decide +kernel
theorem dX10_isDearHere_20 : decode cX10_isDearHere 20 = .ok (.iconst 0, 1) := by decide +kernel
theorem dX10_isDearHere_21 : decode cX10_isDearHere 21 = .ok (.ireturn, 1) := by decide +kernel
theorem dX10_isDearHere_22 : decode cX10_isDearHere 22 = .ok (.aload_n 0, 1) := by decide +kernel
theorem dX10_isDearHere_23 : decode cX10_isDearHere 23 = .ok (.getfield 133, 3) := by decide +kernel
theorem dX10_isDearHere_26 : decode cX10_isDearHere 26 = .ok (.istore_n 1, 1) := by decide +kernel
theorem dX10_isDearHere_27 : decode cX10_isDearHere 27 = .ok (.aload_n 0, 1) := by decide +kernel
theorem dX10_isDearHere_28 : decode cX10_isDearHere 28 = .ok (.invokevirtual 111, 3) := by decide +kernel
theorem dX10_isDearHere_31 : decode cX10_isDearHere 31 = .ok (.pop, 1) := by decide +kernel
theorem dX10_isDearHere_32 : decode cX10_isDearHere 32 = .ok (.aload_n 0, 1) := by decide +kernel
theorem dX10_isDearHere_33 : decode cX10_isDearHere 33 = .ok (.getfield 108, 3) := by decide +kernel
theorem dX10_isDearHere_36 : decode cX10_isDearHere 36 = .ok (.istore_n 2, 1) := by decide +kernel
theorem dX10_isDearHere_37 : decode cX10_isDearHere 37 = .ok (.aload_n 0, 1) := by decide +kernel
theorem dX10_isDearHere_38 : decode cX10_isDearHere 38 = .ok (.iconst 0, 1) := by decide +kernel
theorem dX10_isDearHere_39 : decode cX10_isDearHere 39 = .ok (.aload_n 0, 1) := by decide +kernel
theorem dX10_isDearHere_40 : decode cX10_isDearHere 40 = .ok (.getfield 26, 3) := by decide +kernel
theorem dX10_isDearHere_43 : decode cX10_isDearHere 43 = .ok (.iconst 3, 1) := by decide +kernel
theorem dX10_isDearHere_44 : decode cX10_isDearHere 44 = .ok (.iaload, 1) := by decide +kernel
theorem dX10_isDearHere_45 : decode cX10_isDearHere 45 = .ok (.iconst 1, 1) := by decide +kernel
theorem dX10_isDearHere_46 : decode cX10_isDearHere 46 = .ok (.isub, 1) := by decide +kernel
theorem dX10_isDearHere_47 : decode cX10_isDearHere 47 = .ok (.invokevirtual 187, 3) := by decide +kernel
theorem dX10_isDearHere_50 : decode cX10_isDearHere 50 = .ok (.ifCond .ne 5, 3) := by decide +kernel
theorem dX10_isDearHere_53 : decode cX10_isDearHere 53 = .ok (.iconst 0, 1) := by decide +kernel
theorem dX10_isDearHere_54 : decode cX10_isDearHere 54 = .ok (.ireturn, 1) := by decide +kernel
theorem dX10_isDearHere_55 : decode cX10_isDearHere 55 = .ok (.iload_n 1, 1) := by decide +kernel
theorem dX10_isDearHere_56 : decode cX10_isDearHere 56 = .ok (.aload_n 0, 1) := by decide +kernel
theorem dX10_isDearHere_57 : decode cX10_isDearHere 57 = .ok (.getfield 133, 3) := by decide +kernel
theorem dX10_isDearHere_60 : decode cX10_isDearHere 60 = .ok (.if_icmp .ne 10, 3) := by decide +kernel
theorem dX10_isDearHere_63 : decode cX10_isDearHere 63 = .ok (.aload_n 0, 1) := by decide +kernel
theorem dX10_isDearHere_64 : decode cX10_isDearHere 64 = .ok (.iconst 1, 1) := by decide +kernel
theorem dX10_isDearHere_65 : decode cX10_isDearHere 65 = .ok (.iload_n 2, 1) := by decide +kernel
theorem dX10_isDearHere_66 : decode cX10_isDearHere 66 = .ok (.invokevirtual 129, 3) := by decide +kernel
theorem dX10_isDearHere_69 : decode cX10_isDearHere 69 = .ok (.ireturn, 1) := by decide +kernel
theorem dX10_isDearHere_70 : decode cX10_isDearHere 70 = .ok (.aload_n 0, 1) := by decide +kernel
theorem dX10_isDearHere_71 : decode cX10_isDearHere 71 = .ok (.bipush 53, 2) := by decide +kernel
theorem dX10_isDearHere_73 : decode cX10_isDearHere 73 = .ok (.bipush 6, 2) := by decide +kernel
theorem dX10_isDearHere_75 : decode cX10_isDearHere 75 = .ok (.iload_n 1, 1) := by decide +kernel
theorem dX10_isDearHere_76 : decode cX10_isDearHere 76 = .ok (.imul, 1) := by decide +kernel
theorem dX10_isDearHere_77 : decode cX10_isDearHere 77 = .ok (.iadd, 1) := by decide +kernel
theorem dX10_isDearHere_78 : decode cX10_isDearHere 78 = .ok (.aload_n 0, 1) := by decide +kernel
theorem dX10_isDearHere_79 : decode cX10_isDearHere 79 = .ok (.getfield 133, 3) := by decide +kernel
theorem dX10_isDearHere_82 : decode cX10_isDearHere 82 = .ok (.iadd, 1) := by decide +kernel
theorem dX10_isDearHere_83 : decode cX10_isDearHere 83 = .ok (.iconst 0, 1) := by decide +kernel
theorem dX10_isDearHere_84 : decode cX10_isDearHere 84 = .ok (.bipush 9, 2) := by decide +kernel
theorem dX10_isDearHere_86 : decode cX10_isDearHere 86 = .ok (.invokevirtual 238, 3) := by decide +kernel
theorem dX10_isDearHere_89 : decode cX10_isDearHere 89 = .ok (.ireturn, 1) := by decide +kernel
def f_X10_isDearHere (a0 : Nat) (σ : mm_S) : Option (Int32 × mm_S) :=
    bv (f_X10_passWord a0 σ) fun σ30 =>
    gd (3 : Int32) 90 <|
    bd (f_X10_numberHere a0 (0 : Int32) ((σ30.1 220 (3 : Int32).toNatClampNeg) - (1 : Int32)) σ30) fun r34 σ33 =>
    if r34 = 0 then
      some ((0 : Int32), σ33)
    else
      lt ((σ33.1 a0 10)) fun x36 =>
      bd (f_X10_see a0 σ33) fun r40 σ39 =>
      lt ((σ39.1 a0 8)) fun x41 =>
      gd (3 : Int32) 90 <|
      bd (f_X10_numberHere a0 (0 : Int32) ((σ39.1 220 (3 : Int32).toNatClampNeg) - (1 : Int32)) σ39) fun r46 σ45 =>
      if r46 = 0 then
        some ((0 : Int32), σ45)
      else
        if x36 = (σ45.1 a0 10) then
          bd (f_X10_fails a0 (1 : Int32) x41 σ45) fun r55 σ54 =>
          gb r55 <|
          some (r55, σ54)
        else
          bd (f_X10_cellHere a0 (((53 : Int32) + ((6 : Int32) * x36)) + (σ45.1 a0 10)) (0 : Int32) (9 : Int32) σ45) fun r51 σ50 =>
          gb r51 <|
          some (r51, σ50)
theorem v_X10_isDearHere {g : mm_G} (d : Nat) {a0 : Nat} {σ : mm_S} {res : Int32 × mm_S} (h_a0 : (mm_K a0).1 = 10) (h : f_X10_isDearHere a0 σ = some res) : SM g (d + 3) yy_X10_isDearHere [.ref a0] σ (.int res.1) res.2 := by
  refine s_of (by decide) (Nat.le_of_ble_eq_true rfl) (L := [(0, .ref a0)]) rfl ?_
  unfold f_X10_isDearHere at h
  refine e_aload_n 0 dX10_isDearHere_0 rfl rfl ?_
  obtain ⟨σ30, q29, h⟩ := bv_some h
  refine s_callVv [] dX10_isDearHere_1 ml_RX10_123 h_a0 rfl rfl (v_X10_passWord (d + 1) h_a0 q29) (Nat.le_of_ble_eq_true rfl) ?_
  refine e_aload_n 0 dX10_isDearHere_4 rfl rfl ?_
  refine e_iconst (v := (0 : Int32)) dX10_isDearHere_5 (by decide) ?_
  refine e_aload_n 0 dX10_isDearHere_6 rfl rfl ?_
  refine s_getr dX10_isDearHere_7 fl_RX10_26 h_a0 (r_10_7 h_a0).1 ?_
  refine e_iconst (v := (3 : Int32)) dX10_isDearHere_10 (by decide) ?_
  obtain ⟨q31, h⟩ := gd_some h
  refine s_iald dX10_isDearHere_11 (r_10_7 (w := 0) h_a0).2 q31 ?_
  refine e_iconst (v := (1 : Int32)) dX10_isDearHere_12 (by decide) ?_
  refine e_isub dX10_isDearHere_13 ?_
  obtain ⟨r34, σ33, q32, h⟩ := bd_some h
  refine s_callVi [.int (0 : Int32), .int ((σ30.1 220 (3 : Int32).toNatClampNeg) - (1 : Int32))] dX10_isDearHere_14 ml_RX10_187 h_a0 ⟨_, rfl, by decide⟩ rfl (v_X10_numberHere (d + 1) h_a0 q32) (Nat.le_of_ble_eq_true rfl) ?_
  refine e_if_ne 22 dX10_isDearHere_17 (by decide) (fun c35 => ?_) (fun c35 => ?_)
  · rw [if_neg c35] at h
    refine e_aload_n 0 dX10_isDearHere_22 rfl rfl ?_
    refine s_geti dX10_isDearHere_23 fl_RX10_133 h_a0 ?_
    obtain ⟨x36, q37, h⟩ := lt_some h
    refine s_nmi q37 ?_
    refine e_istore_n (L' := [(0, .ref a0), (1, .int x36)]) dX10_isDearHere_26 rfl (by decide) rfl ?_
    refine e_aload_n 0 dX10_isDearHere_27 rfl rfl ?_
    obtain ⟨r40, σ39, q38, h⟩ := bd_some h
    refine s_callVi [] dX10_isDearHere_28 ml_RX10_111 h_a0 ⟨_, rfl, by decide⟩ rfl (v_X10_see (d + 2) h_a0 q38) (Nat.le_of_ble_eq_true rfl) ?_
    refine e_pop dX10_isDearHere_31 rfl ?_
    refine e_aload_n 0 dX10_isDearHere_32 rfl rfl ?_
    refine s_geti dX10_isDearHere_33 fl_RX10_108 h_a0 ?_
    obtain ⟨x41, q42, h⟩ := lt_some h
    refine s_nmi q42 ?_
    refine e_istore_n (L' := [(0, .ref a0), (1, .int x36), (2, .int x41)]) dX10_isDearHere_36 rfl (by decide) rfl ?_
    refine e_aload_n 0 dX10_isDearHere_37 rfl rfl ?_
    refine e_iconst (v := (0 : Int32)) dX10_isDearHere_38 (by decide) ?_
    refine e_aload_n 0 dX10_isDearHere_39 rfl rfl ?_
    refine s_getr dX10_isDearHere_40 fl_RX10_26 h_a0 (r_10_7 h_a0).1 ?_
    refine e_iconst (v := (3 : Int32)) dX10_isDearHere_43 (by decide) ?_
    obtain ⟨q43, h⟩ := gd_some h
    refine s_iald dX10_isDearHere_44 (r_10_7 (w := 0) h_a0).2 q43 ?_
    refine e_iconst (v := (1 : Int32)) dX10_isDearHere_45 (by decide) ?_
    refine e_isub dX10_isDearHere_46 ?_
    obtain ⟨r46, σ45, q44, h⟩ := bd_some h
    refine s_callVi [.int (0 : Int32), .int ((σ39.1 220 (3 : Int32).toNatClampNeg) - (1 : Int32))] dX10_isDearHere_47 ml_RX10_187 h_a0 ⟨_, rfl, by decide⟩ rfl (v_X10_numberHere (d + 1) h_a0 q44) (Nat.le_of_ble_eq_true rfl) ?_
    refine e_if_ne 55 dX10_isDearHere_50 (by decide) (fun c47 => ?_) (fun c47 => ?_)
    · rw [if_neg c47] at h
      refine e_iload_n 1 dX10_isDearHere_55 rfl rfl ?_
      refine e_aload_n 0 dX10_isDearHere_56 rfl rfl ?_
      refine s_geti dX10_isDearHere_57 fl_RX10_133 h_a0 ?_
      refine e_icmp_ne 70 dX10_isDearHere_60 (by decide) (fun c48 => ?_) (fun c48 => ?_)
      · rw [if_neg c48] at h
        refine e_aload_n 0 dX10_isDearHere_70 rfl rfl ?_
        refine e_bipush (v := (53 : Int32)) dX10_isDearHere_71 (by decide) ?_
        refine e_bipush (v := (6 : Int32)) dX10_isDearHere_73 (by decide) ?_
        refine e_iload_n 1 dX10_isDearHere_75 rfl rfl ?_
        refine e_imul dX10_isDearHere_76 ?_
        refine e_iadd dX10_isDearHere_77 ?_
        refine e_aload_n 0 dX10_isDearHere_78 rfl rfl ?_
        refine s_geti dX10_isDearHere_79 fl_RX10_133 h_a0 ?_
        refine e_iadd dX10_isDearHere_82 ?_
        refine e_iconst (v := (0 : Int32)) dX10_isDearHere_83 (by decide) ?_
        refine e_bipush (v := (9 : Int32)) dX10_isDearHere_84 (by decide) ?_
        obtain ⟨r51, σ50, q49, h⟩ := bd_some h
        refine s_callVi [.int (((53 : Int32) + ((6 : Int32) * x36)) + (σ45.1 a0 10)), .int (0 : Int32), .int (9 : Int32)] dX10_isDearHere_86 ml_RX10_238 h_a0 ⟨_, rfl, by decide⟩ rfl (v_X10_cellHere (d + 0) h_a0 q49) (Nat.le_of_ble_eq_true rfl) ?_
        obtain ⟨q52, h⟩ := gb_some h
        obtain rfl := Option.some.inj h
        exact s_ret rfl ⟨_, rfl, nb1 q52⟩ dX10_isDearHere_89
      · rw [if_pos c48] at h
        refine e_aload_n 0 dX10_isDearHere_63 rfl rfl ?_
        refine e_iconst (v := (1 : Int32)) dX10_isDearHere_64 (by decide) ?_
        refine e_iload_n 2 dX10_isDearHere_65 rfl rfl ?_
        obtain ⟨r55, σ54, q53, h⟩ := bd_some h
        refine s_callVi [.int (1 : Int32), .int x41] dX10_isDearHere_66 ml_RX10_129 h_a0 ⟨_, rfl, by decide⟩ rfl (v_X10_fails (d + 2) h_a0 q53) (Nat.le_of_ble_eq_true rfl) ?_
        obtain ⟨q56, h⟩ := gb_some h
        obtain rfl := Option.some.inj h
        exact s_ret rfl ⟨_, rfl, nb1 q56⟩ dX10_isDearHere_69
    · rw [if_pos c47] at h
      refine e_iconst (v := (0 : Int32)) dX10_isDearHere_53 (by decide) ?_
      obtain rfl := Option.some.inj h
      exact s_ret rfl ⟨_, rfl, nb1 (Or.inl rfl)⟩ dX10_isDearHere_54
  · rw [if_pos c35] at h
    refine e_iconst (v := (0 : Int32)) dX10_isDearHere_20 (by decide) ?_
    obtain rfl := Option.some.inj h
    exact s_ret rfl ⟨_, rfl, nb1 (Or.inl rfl)⟩ dX10_isDearHere_21
abbrev yy_X10_isCountHere : mm_Y := (yX10_isCountHere, cX10_isCountHere, 1, (some .boolean))
theorem dX10_isCountHere_0 : decode cX10_isCountHere 0 = .ok (.aload_n 0, 1) := by decide +kernel
theorem dX10_isCountHere_1 : decode cX10_isCountHere 1 = .ok (.invokevirtual 123, 3) := by decide +kernel
theorem dX10_isCountHere_4 : decode cX10_isCountHere 4 = .ok (.aload_n 0, 1) := by decide +kernel
theorem dX10_isCountHere_5 : decode cX10_isCountHere 5 = .ok (.iconst 0, 1) := by decide +kernel
theorem dX10_isCountHere_6 : decode cX10_isCountHere 6 = .ok (.bipush 11, 2) := by decide +kernel
theorem dX10_isCountHere_8 : decode cX10_isCountHere 8 = .ok (.invokevirtual 187, 3) := by decide +kernel
theorem dX10_isCountHere_11 : decode cX10_isCountHere 11 = .ok (.ifCond .ne 5, 3) := by decide +kernel
theorem dX10_isCountHere_14 : decode cX10_isCountHere 14 = .ok (.iconst 0, 1) := by decide +kernel
theorem dX10_isCountHere_15 : decode cX10_isCountHere 15 = .ok (.ireturn, 1) := by decide +kernel
theorem dX10_isCountHere_16 : decode cX10_isCountHere 16 = .ok (.aload_n 0, 1) := by decide +kernel
theorem dX10_isCountHere_17 : decode cX10_isCountHere 17 = .ok (.getfield 26, 3) := by decide +kernel
theorem dX10_isCountHere_20 : decode cX10_isCountHere 20 = .ok (.bipush 89, 2) := by decide +kernel
theorem dX10_isCountHere_22 : decode cX10_isCountHere 22 = .ok (.dup2, 1) := by decide +kernel
theorem dX10_isCountHere_23 : decode cX10_isCountHere 23 = .ok (.iaload, 1) := by decide +kernel
theorem dX10_isCountHere_24 : decode cX10_isCountHere 24 = .ok (.iconst 1, 1) := by decide +kernel
theorem dX10_isCountHere_25 : decode cX10_isCountHere 25 = .ok (.aload_n 0, 1) := by decide +kernel
theorem dX10_isCountHere_26 : decode cX10_isCountHere 26 = .ok (.getfield 133, 3) := by decide +kernel
theorem dX10_isCountHere_29 : decode cX10_isCountHere 29 = .ok (.ishl, 1) := by decide +kernel
theorem dX10_isCountHere_30 : decode cX10_isCountHere 30 = .ok (.ior, 1) := by decide +kernel
theorem dX10_isCountHere_31 : decode cX10_isCountHere 31 = .ok (.iastore, 1) := by decide +kernel
theorem dX10_isCountHere_32 : decode cX10_isCountHere 32 = .ok (.iconst 1, 1) := by decide +kernel
theorem dX10_isCountHere_33 : decode cX10_isCountHere 33 = .ok (.ireturn, 1) := by decide +kernel
def f_X10_isCountHere (a0 : Nat) (σ : mm_S) : Option (Int32 × mm_S) :=
    bv (f_X10_passWord a0 σ) fun σ12 =>
    bd (f_X10_numberHere a0 (0 : Int32) (11 : Int32) σ12) fun r15 σ14 =>
    if r15 = 0 then
      some ((0 : Int32), σ14)
    else
      gd (89 : Int32) 90 <|
      gd (89 : Int32) 90 <|
      lt (su_i σ14 220 (89 : Int32).toNatClampNeg ((σ14.1 220 (89 : Int32).toNatClampNeg) ||| ((1 : Int32) <<< ((σ14.1 a0 10) &&& 31)))) fun σ19 =>
      some ((1 : Int32), σ19)
theorem v_X10_isCountHere {g : mm_G} (d : Nat) {a0 : Nat} {σ : mm_S} {res : Int32 × mm_S} (h_a0 : (mm_K a0).1 = 10) (h : f_X10_isCountHere a0 σ = some res) : SM g (d + 2) yy_X10_isCountHere [.ref a0] σ (.int res.1) res.2 := by
  refine s_of (by decide) (Nat.le_of_ble_eq_true rfl) (L := [(0, .ref a0)]) rfl ?_
  unfold f_X10_isCountHere at h
  refine e_aload_n 0 dX10_isCountHere_0 rfl rfl ?_
  obtain ⟨σ12, q11, h⟩ := bv_some h
  refine s_callVv [] dX10_isCountHere_1 ml_RX10_123 h_a0 rfl rfl (v_X10_passWord (d + 0) h_a0 q11) (Nat.le_of_ble_eq_true rfl) ?_
  refine e_aload_n 0 dX10_isCountHere_4 rfl rfl ?_
  refine e_iconst (v := (0 : Int32)) dX10_isCountHere_5 (by decide) ?_
  refine e_bipush (v := (11 : Int32)) dX10_isCountHere_6 (by decide) ?_
  obtain ⟨r15, σ14, q13, h⟩ := bd_some h
  refine s_callVi [.int (0 : Int32), .int (11 : Int32)] dX10_isCountHere_8 ml_RX10_187 h_a0 ⟨_, rfl, by decide⟩ rfl (v_X10_numberHere (d + 0) h_a0 q13) (Nat.le_of_ble_eq_true rfl) ?_
  refine e_if_ne 16 dX10_isCountHere_11 (by decide) (fun c16 => ?_) (fun c16 => ?_)
  · rw [if_neg c16] at h
    refine e_aload_n 0 dX10_isCountHere_16 rfl rfl ?_
    refine s_getr dX10_isCountHere_17 fl_RX10_26 h_a0 (r_10_7 h_a0).1 ?_
    refine e_bipush (v := (89 : Int32)) dX10_isCountHere_20 (by decide) ?_
    refine e_dup2 dX10_isCountHere_22 rfl rfl ?_
    obtain ⟨q17, h⟩ := gd_some h
    refine s_iald dX10_isCountHere_23 (r_10_7 (w := 0) h_a0).2 q17 ?_
    refine e_iconst (v := (1 : Int32)) dX10_isCountHere_24 (by decide) ?_
    refine e_aload_n 0 dX10_isCountHere_25 rfl rfl ?_
    refine s_geti dX10_isCountHere_26 fl_RX10_133 h_a0 ?_
    refine e_ishl dX10_isCountHere_29 ?_
    refine e_ior dX10_isCountHere_30 ?_
    obtain ⟨q18, h⟩ := gd_some h
    refine s_iast dX10_isCountHere_31 (r_10_7 (w := 0) h_a0).2 q18 ?_
    obtain ⟨σ19, q20, h⟩ := lt_some h
    refine s_nms q20 ?_
    refine e_iconst (v := (1 : Int32)) dX10_isCountHere_32 (by decide) ?_
    obtain rfl := Option.some.inj h
    exact s_ret rfl ⟨_, rfl, nb1 (Or.inr rfl)⟩ dX10_isCountHere_33
  · rw [if_pos c16] at h
    refine e_iconst (v := (0 : Int32)) dX10_isCountHere_14 (by decide) ?_
    obtain rfl := Option.some.inj h
    exact s_ret rfl ⟨_, rfl, nb1 (Or.inl rfl)⟩ dX10_isCountHere_15
abbrev yy_X10_houseLineHere : mm_Y := (yX10_houseLineHere, cX10_houseLineHere, 2, (some .boolean))
theorem dX10_houseLineHere_0 : decode cX10_houseLineHere 0 = .ok (.aload_n 0, 1) := by decide +kernel
theorem dX10_houseLineHere_1 : decode cX10_houseLineHere 1 = .ok (.ldc2_w 242, 3) := by decide +kernel
theorem dX10_houseLineHere_4 : decode cX10_houseLineHere 4 = .ok (.invokevirtual 119, 3) := by decide +kernel
theorem dX10_houseLineHere_7 : decode cX10_houseLineHere 7 = .ok (.ifCond .eq 9, 3) := by decide +kernel
theorem dX10_houseLineHere_10 : decode cX10_houseLineHere 10 = .ok (.aload_n 0, 1) := by decide +kernel
theorem dX10_houseLineHere_11 : decode cX10_houseLineHere 11 = .ok (.iload_n 1, 1) := by decide +kernel
theorem dX10_houseLineHere_12 : decode cX10_houseLineHere 12 = .ok (.invokevirtual 244, 3) := by decide +kernel
theorem dX10_houseLineHere_15 : decode cX10_houseLineHere 15 = .ok (.ireturn, 1) := by decide +kernel
theorem dX10_houseLineHere_16 : decode cX10_houseLineHere 16 = .ok (.aload_n 0, 1) := by decide +kernel
theorem dX10_houseLineHere_17 : decode cX10_houseLineHere 17 = .ok (.getfield 26, 3) := by decide +kernel
theorem dX10_houseLineHere_20 : decode cX10_houseLineHere 20 = .ok (.iconst 0, 1) := by decide +kernel
theorem dX10_houseLineHere_21 : decode cX10_houseLineHere 21 = .ok (.iaload, 1) := by decide +kernel
theorem dX10_houseLineHere_22 : decode cX10_houseLineHere 22 = .ok (.ifCond .ne 10, 3) := by decide +kernel
theorem dX10_houseLineHere_25 : decode cX10_houseLineHere 25 = .ok (.aload_n 0, 1) := by decide +kernel
theorem dX10_houseLineHere_26 : decode cX10_houseLineHere 26 = .ok (.iconst 4, 1) := by decide +kernel
theorem dX10_houseLineHere_27 : decode cX10_houseLineHere 27 = .ok (.iload_n 1, 1) := by decide +kernel
theorem dX10_houseLineHere_28 : decode cX10_houseLineHere 28 = .ok (.invokevirtual 129, 3) := by decide +kernel
theorem dX10_houseLineHere_31 : decode cX10_houseLineHere 31 = .ok (.ireturn, 1) := by decide +kernel
theorem dX10_houseLineHere_32 : decode cX10_houseLineHere 32 = .ok (.aload_n 0, 1) := by decide +kernel
theorem dX10_houseLineHere_33 : decode cX10_houseLineHere 33 = .ok (.ldc2_w 140, 3) := by decide +kernel
theorem dX10_houseLineHere_36 : decode cX10_houseLineHere 36 = .ok (.invokevirtual 119, 3) := by decide +kernel
theorem dX10_houseLineHere_39 : decode cX10_houseLineHere 39 = .ok (.ifCond .eq 9, 3) := by decide +kernel
theorem dX10_houseLineHere_42 : decode cX10_houseLineHere 42 = .ok (.aload_n 0, 1) := by decide +kernel
theorem dX10_houseLineHere_43 : decode cX10_houseLineHere 43 = .ok (.iload_n 1, 1) := by decide +kernel
theorem dX10_houseLineHere_44 : decode cX10_houseLineHere 44 = .ok (.invokevirtual 247, 3) := by decide +kernel
theorem dX10_houseLineHere_47 : decode cX10_houseLineHere 47 = .ok (.ireturn, 1) := by decide +kernel
theorem dX10_houseLineHere_48 : decode cX10_houseLineHere 48 = .ok (.aload_n 0, 1) := by decide +kernel
theorem dX10_houseLineHere_49 : decode cX10_houseLineHere 49 = .ok (.ldc2_w 152, 3) := by decide +kernel
theorem dX10_houseLineHere_52 : decode cX10_houseLineHere 52 = .ok (.invokevirtual 119, 3) := by decide +kernel
theorem dX10_houseLineHere_55 : decode cX10_houseLineHere 55 = .ok (.ifCond .eq 10, 3) := by decide +kernel
theorem dX10_houseLineHere_58 : decode cX10_houseLineHere 58 = .ok (.aload_n 0, 1) := by decide +kernel
theorem dX10_houseLineHere_59 : decode cX10_houseLineHere 59 = .ok (.invokevirtual 250, 3) := by decide +kernel
theorem dX10_houseLineHere_62 : decode cX10_houseLineHere 62 = .ok (.goto 7, 3) := by decide +kernel
theorem dX10_houseLineHere_65 : decode cX10_houseLineHere 65 = .ok (.aload_n 0, 1) := by decide +kernel
theorem dX10_houseLineHere_66 : decode cX10_houseLineHere 66 = .ok (.invokevirtual 253, 3) := by decide +kernel
theorem dX10_houseLineHere_69 : decode cX10_houseLineHere 69 = .ok (.ireturn, 1) := by decide +kernel
def f_X10_houseLineHere (a0 : Nat) (i1 : Int32) (σ : mm_S) : Option (Int32 × mm_S) :=
    bd (f_X10_isWord a0 (8902245 : Int64) σ) fun r37 σ36 =>
    if r37 = 0 then
      gd (0 : Int32) 90 <|
      if (σ36.1 220 (0 : Int32).toNatClampNeg) = 0 then
        bd (f_X10_fails a0 (4 : Int32) i1 σ36) fun r63 σ62 =>
        gb r63 <|
        some (r63, σ62)
      else
        bd (f_X10_isWord a0 (418520242 : Int64) σ36) fun r43 σ42 =>
        if r43 = 0 then
          bd (f_X10_isWord a0 (136242 : Int64) σ42) fun r47 σ46 =>
          if r47 = 0 then
            bd (f_X10_isCountHere a0 σ46) fun r51 σ50 =>
            gb r51 <|
            some (r51, σ50)
          else
            bd (f_X10_isDearHere a0 σ46) fun r55 σ54 =>
            gb r55 <|
            some (r55, σ54)
        else
          bd (f_X10_isLodgerHere a0 i1 σ42) fun r59 σ58 =>
          gb r59 <|
          some (r59, σ58)
    else
      bd (f_X10_isHouseHere a0 i1 σ36) fun r67 σ66 =>
      gb r67 <|
      some (r67, σ66)
theorem v_X10_houseLineHere {g : mm_G} (d : Nat) {a0 : Nat} {i1 : Int32} {σ : mm_S} {res : Int32 × mm_S} (h_a0 : (mm_K a0).1 = 10) (h : f_X10_houseLineHere a0 i1 σ = some res) : SM g (d + 4) yy_X10_houseLineHere [.ref a0, .int i1] σ (.int res.1) res.2 := by
  refine s_of (by decide) (Nat.le_of_ble_eq_true rfl) (L := [(0, .ref a0), (1, .int i1)]) rfl ?_
  unfold f_X10_houseLineHere at h
  refine e_aload_n 0 dX10_houseLineHere_0 rfl rfl ?_
  refine e_ldc2 dX10_houseLineHere_1 co_RX10_242 ?_
  obtain ⟨r37, σ36, q35, h⟩ := bd_some h
  refine s_callVi [.long (8902245 : Int64)] dX10_houseLineHere_4 ml_RX10_119 h_a0 ⟨_, rfl, by decide⟩ rfl (v_X10_isWord (d + 2) h_a0 q35) (Nat.le_of_ble_eq_true rfl) ?_
  refine e_if_eq 16 dX10_houseLineHere_7 (by decide) (fun c38 => ?_) (fun c38 => ?_)
  · rw [if_pos c38] at h
    refine e_aload_n 0 dX10_houseLineHere_16 rfl rfl ?_
    refine s_getr dX10_houseLineHere_17 fl_RX10_26 h_a0 (r_10_7 h_a0).1 ?_
    refine e_iconst (v := (0 : Int32)) dX10_houseLineHere_20 (by decide) ?_
    obtain ⟨q39, h⟩ := gd_some h
    refine s_iald dX10_houseLineHere_21 (r_10_7 (w := 0) h_a0).2 q39 ?_
    refine e_if_ne 32 dX10_houseLineHere_22 (by decide) (fun c40 => ?_) (fun c40 => ?_)
    · rw [if_neg c40] at h
      refine e_aload_n 0 dX10_houseLineHere_32 rfl rfl ?_
      refine e_ldc2 dX10_houseLineHere_33 co_RX10_140 ?_
      obtain ⟨r43, σ42, q41, h⟩ := bd_some h
      refine s_callVi [.long (418520242 : Int64)] dX10_houseLineHere_36 ml_RX10_119 h_a0 ⟨_, rfl, by decide⟩ rfl (v_X10_isWord (d + 2) h_a0 q41) (Nat.le_of_ble_eq_true rfl) ?_
      refine e_if_eq 48 dX10_houseLineHere_39 (by decide) (fun c44 => ?_) (fun c44 => ?_)
      · rw [if_pos c44] at h
        refine e_aload_n 0 dX10_houseLineHere_48 rfl rfl ?_
        refine e_ldc2 dX10_houseLineHere_49 co_RX10_152 ?_
        obtain ⟨r47, σ46, q45, h⟩ := bd_some h
        refine s_callVi [.long (136242 : Int64)] dX10_houseLineHere_52 ml_RX10_119 h_a0 ⟨_, rfl, by decide⟩ rfl (v_X10_isWord (d + 2) h_a0 q45) (Nat.le_of_ble_eq_true rfl) ?_
        refine e_if_eq 65 dX10_houseLineHere_55 (by decide) (fun c48 => ?_) (fun c48 => ?_)
        · rw [if_pos c48] at h
          refine e_aload_n 0 dX10_houseLineHere_65 rfl rfl ?_
          obtain ⟨r51, σ50, q49, h⟩ := bd_some h
          refine s_callVi [] dX10_houseLineHere_66 ml_RX10_253 h_a0 ⟨_, rfl, by decide⟩ rfl (v_X10_isCountHere (d + 1) h_a0 q49) (Nat.le_of_ble_eq_true rfl) ?_
          obtain ⟨q52, h⟩ := gb_some h
          obtain rfl := Option.some.inj h
          exact s_ret rfl ⟨_, rfl, nb1 q52⟩ dX10_houseLineHere_69
        · rw [if_neg c48] at h
          refine e_aload_n 0 dX10_houseLineHere_58 rfl rfl ?_
          obtain ⟨r55, σ54, q53, h⟩ := bd_some h
          refine s_callVi [] dX10_houseLineHere_59 ml_RX10_250 h_a0 ⟨_, rfl, by decide⟩ rfl (v_X10_isDearHere (d + 0) h_a0 q53) (Nat.le_of_ble_eq_true rfl) ?_
          refine e_goto 69 dX10_houseLineHere_62 (by decide) ?_
          obtain ⟨q56, h⟩ := gb_some h
          obtain rfl := Option.some.inj h
          exact s_ret rfl ⟨_, rfl, nb1 q56⟩ dX10_houseLineHere_69
      · rw [if_neg c44] at h
        refine e_aload_n 0 dX10_houseLineHere_42 rfl rfl ?_
        refine e_iload_n 1 dX10_houseLineHere_43 rfl rfl ?_
        obtain ⟨r59, σ58, q57, h⟩ := bd_some h
        refine s_callVi [.int i1] dX10_houseLineHere_44 ml_RX10_247 h_a0 ⟨_, rfl, by decide⟩ rfl (v_X10_isLodgerHere (d + 0) h_a0 q57) (Nat.le_of_ble_eq_true rfl) ?_
        obtain ⟨q60, h⟩ := gb_some h
        obtain rfl := Option.some.inj h
        exact s_ret rfl ⟨_, rfl, nb1 q60⟩ dX10_houseLineHere_47
    · rw [if_pos c40] at h
      refine e_aload_n 0 dX10_houseLineHere_25 rfl rfl ?_
      refine e_iconst (v := (4 : Int32)) dX10_houseLineHere_26 (by decide) ?_
      refine e_iload_n 1 dX10_houseLineHere_27 rfl rfl ?_
      obtain ⟨r63, σ62, q61, h⟩ := bd_some h
      refine s_callVi [.int (4 : Int32), .int i1] dX10_houseLineHere_28 ml_RX10_129 h_a0 ⟨_, rfl, by decide⟩ rfl (v_X10_fails (d + 3) h_a0 q61) (Nat.le_of_ble_eq_true rfl) ?_
      obtain ⟨q64, h⟩ := gb_some h
      obtain rfl := Option.some.inj h
      exact s_ret rfl ⟨_, rfl, nb1 q64⟩ dX10_houseLineHere_31
  · rw [if_neg c38] at h
    refine e_aload_n 0 dX10_houseLineHere_10 rfl rfl ?_
    refine e_iload_n 1 dX10_houseLineHere_11 rfl rfl ?_
    obtain ⟨r67, σ66, q65, h⟩ := bd_some h
    refine s_callVi [.int i1] dX10_houseLineHere_12 ml_RX10_244 h_a0 ⟨_, rfl, by decide⟩ rfl (v_X10_isHouseHere (d + 0) h_a0 q65) (Nat.le_of_ble_eq_true rfl) ?_
    obtain ⟨q68, h⟩ := gb_some h
    obtain rfl := Option.some.inj h
    exact s_ret rfl ⟨_, rfl, nb1 q68⟩ dX10_houseLineHere_15
