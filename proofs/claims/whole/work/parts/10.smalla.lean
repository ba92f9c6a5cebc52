abbrev yy_X5_add : mm_Y := (yX5_add, cX5_add, 2, none)
theorem dX5_add_0 : decode cX5_add 0 = .ok (.aload_n 0, 1) := by decide +kernel
theorem dX5_add_1 : decode cX5_add 1 = .ok (.getfield 15, 3) := by decide +kernel
theorem dX5_add_4 : decode cX5_add 4 = .ok (.aload_n 0, 1) := by decide +kernel
theorem dX5_add_5 : decode cX5_add 5 = .ok (.getfield 9, 3) := by decide +kernel
theorem dX5_add_8 : decode cX5_add 8 = .ok (.arraylength, 1) := by decide +kernel
theorem dX5_add_9 : decode cX5_add 9 = .ok (.if_icmp .ge 23, 3) := by decide +kernel
theorem dX5_add_12 : decode cX5_add 12 = .ok (.aload_n 0, 1) := by decide +kernel
theorem dX5_add_13 : decode cX5_add 13 = .ok (.getfield 9, 3) := by decide +kernel
theorem dX5_add_16 : decode cX5_add 16 = .ok (.aload_n 0, 1) := by decide +kernel
theorem dX5_add_17 : decode cX5_add 17 = .ok (.getfield 15, 3) := by decide +kernel
theorem dX5_add_20 : decode cX5_add 20 = .ok (.iload_n 1, 1) := by decide +kernel
theorem dX5_add_21 : decode cX5_add 21 = .ok (.iastore, 1) := by decide +kernel
theorem dX5_add_22 : decode cX5_add 22 = .ok (.aload_n 0, 1) := by decide +kernel
theorem dX5_add_23 : decode cX5_add 23 = .ok (.dup, 1) := by decide +kernel
theorem dX5_add_24 : decode cX5_add 24 = .ok (.getfield 15, 3) := by decide +kernel
theorem dX5_add_27 : decode cX5_add 27 = .ok (.iconst 1, 1) := by decide +kernel
theorem dX5_add_28 : decode cX5_add 28 = .ok (.iadd, 1) := by decide +kernel
theorem dX5_add_29 : decode cX5_add 29 = .ok (.putfield 15, 3) := by decide +kernel
theorem dX5_add_32 : decode cX5_add 32 = .ok (.return_, 1) := by decide +kernel
def f_X5_add (a0 : Nat) (i1 : Int32) (σ : mm_S) : Option (mm_S) :=
    if (Int32.ofNat 400) ≤ (σ.1 a0 1) then
      some σ
    else
      gd (σ.1 a0 1) 400 <|
      lt (su_i σ (a0 + 1) (σ.1 a0 1).toNatClampNeg i1) fun σ9 =>
      lt (su_i σ9 a0 1 ((σ9.1 a0 1) + (1 : Int32))) fun σ11 =>
      some σ11
theorem v_X5_add {g : mm_G} (d : Nat) {a0 : Nat} {i1 : Int32} {σ : mm_S} {res : mm_S} (h_a0 : (mm_K a0).1 = 5) (h : f_X5_add a0 i1 σ = some res) : SM g (d + 0) yy_X5_add [.ref a0, .int i1] σ .null res := by
  refine s_of (by decide) (Nat.le_of_ble_eq_true rfl) (L := [(0, .ref a0), (1, .int i1)]) rfl ?_
  unfold f_X5_add at h
  refine e_aload_n 0 dX5_add_0 rfl rfl ?_
  refine s_geti dX5_add_1 fl_RX5_15 h_a0 ?_
  refine e_aload_n 0 dX5_add_4 rfl rfl ?_
  refine s_getr dX5_add_5 fl_RX5_9 h_a0 (r_5_0 h_a0).1 ?_
  refine s_alen dX5_add_8 (r_5_0 (w := 0) h_a0).2 ⟨by decide, by decide⟩ rfl ?_
  refine e_icmp_ge 32 dX5_add_9 (by decide) (fun c7 => ?_) (fun c7 => ?_)
  · rw [if_pos c7] at h
    obtain rfl := Option.some.inj h
    exact s_ret rfl rfl dX5_add_32
  · rw [if_neg c7] at h
    refine e_aload_n 0 dX5_add_12 rfl rfl ?_
    refine s_getr dX5_add_13 fl_RX5_9 h_a0 (r_5_0 h_a0).1 ?_
    refine e_aload_n 0 dX5_add_16 rfl rfl ?_
    refine s_geti dX5_add_17 fl_RX5_15 h_a0 ?_
    refine e_iload_n 1 dX5_add_20 rfl rfl ?_
    obtain ⟨q8, h⟩ := gd_some h
    refine s_iast dX5_add_21 (r_5_0 (w := 0) h_a0).2 q8 ?_
    obtain ⟨σ9, q10, h⟩ := lt_some h
    refine s_nms q10 ?_
    refine e_aload_n 0 dX5_add_22 rfl rfl ?_
    refine e_dup dX5_add_23 rfl ?_
    refine s_geti dX5_add_24 fl_RX5_15 h_a0 ?_
    refine e_iconst (v := (1 : Int32)) dX5_add_27 (by decide) ?_
    refine e_iadd dX5_add_28 ?_
    refine s_puti dX5_add_29 fl_RX5_15 h_a0 rfl rfl rfl ?_
    obtain ⟨σ11, q12, h⟩ := lt_some h
    refine s_nms q12 ?_
    obtain rfl := Option.some.inj h
    exact s_ret rfl rfl dX5_add_32
abbrev yy_X0_forget : mm_Y := (yX0_forget, cX0_forget, 1, none)
theorem dX0_forget_0 : decode cX0_forget 0 = .ok (.aload_n 0, 1) := by decide +kernel
theorem dX0_forget_1 : decode cX0_forget 1 = .ok (.iconst 0, 1) := by decide +kernel
theorem dX0_forget_2 : decode cX0_forget 2 = .ok (.putfield 18, 3) := by decide +kernel
theorem dX0_forget_5 : decode cX0_forget 5 = .ok (.return_, 1) := by decide +kernel
def f_X0_forget (a0 : Nat) (σ : mm_S) : Option (mm_S) :=
    lt (su_i σ a0 2 (0 : Int32)) fun σ3 =>
    some σ3
theorem v_X0_forget {g : mm_G} (d : Nat) {a0 : Nat} {σ : mm_S} {res : mm_S} (h_a0 : (mm_K a0).1 = 0) (h : f_X0_forget a0 σ = some res) : SM g (d + 0) yy_X0_forget [.ref a0] σ .null res := by
  refine s_of (by decide) (Nat.le_of_ble_eq_true rfl) (L := [(0, .ref a0)]) rfl ?_
  unfold f_X0_forget at h
  refine e_aload_n 0 dX0_forget_0 rfl rfl ?_
  refine e_iconst (v := (0 : Int32)) dX0_forget_1 (by decide) ?_
  refine s_puti dX0_forget_2 fl_RX0_18 h_a0 rfl rfl rfl ?_
  obtain ⟨σ3, q4, h⟩ := lt_some h
  refine s_nms q4 ?_
  obtain rfl := Option.some.inj h
  exact s_ret rfl rfl dX0_forget_5
abbrev yy_X2_take : mm_Y := (yX2_take, cX2_take, 2, none)
theorem dX2_take_0 : decode cX2_take 0 = .ok (.aload_n 0, 1) := by decide +kernel
theorem dX2_take_1 : decode cX2_take 1 = .ok (.aload_n 1, 1) := by decide +kernel
theorem dX2_take_2 : decode cX2_take 2 = .ok (.getfield 30, 3) := by decide +kernel
theorem dX2_take_5 : decode cX2_take 5 = .ok (.putfield 30, 3) := by decide +kernel
theorem dX2_take_8 : decode cX2_take 8 = .ok (.aload_n 0, 1) := by decide +kernel
theorem dX2_take_9 : decode cX2_take 9 = .ok (.aload_n 1, 1) := by decide +kernel
theorem dX2_take_10 : decode cX2_take 10 = .ok (.getfield 34, 3) := by decide +kernel
theorem dX2_take_13 : decode cX2_take 13 = .ok (.putfield 34, 3) := by decide +kernel
theorem dX2_take_16 : decode cX2_take 16 = .ok (.aload_n 1, 1) := by decide +kernel
theorem dX2_take_17 : decode cX2_take 17 = .ok (.getfield 9, 3) := by decide +kernel
theorem dX2_take_20 : decode cX2_take 20 = .ok (.iconst 0, 1) := by decide +kernel
theorem dX2_take_21 : decode cX2_take 21 = .ok (.aload_n 0, 1) := by decide +kernel
theorem dX2_take_22 : decode cX2_take 22 = .ok (.getfield 9, 3) := by decide +kernel
theorem dX2_take_25 : decode cX2_take 25 = .ok (.iconst 0, 1) := by decide +kernel
theorem dX2_take_26 : decode cX2_take 26 = .ok (.bipush 6, 2) := by decide +kernel
theorem dX2_take_28 : decode cX2_take 28 = .ok (.invokestatic 40, 3) := by decide +kernel
theorem dX2_take_31 : decode cX2_take 31 = .ok (.aload_n 1, 1) := by decide +kernel
theorem dX2_take_32 : decode cX2_take 32 = .ok (.getfield 15, 3) := by decide +kernel
theorem dX2_take_35 : decode cX2_take 35 = .ok (.iconst 0, 1) := by decide +kernel
theorem dX2_take_36 : decode cX2_take 36 = .ok (.aload_n 0, 1) := by decide +kernel
theorem dX2_take_37 : decode cX2_take 37 = .ok (.getfield 15, 3) := by decide +kernel
theorem dX2_take_40 : decode cX2_take 40 = .ok (.iconst 0, 1) := by decide +kernel
theorem dX2_take_41 : decode cX2_take 41 = .ok (.bipush 6, 2) := by decide +kernel
theorem dX2_take_43 : decode cX2_take 43 = .ok (.invokestatic 40, 3) := by decide +kernel
theorem dX2_take_46 : decode cX2_take 46 = .ok (.aload_n 1, 1) := by decide +kernel
theorem dX2_take_47 : decode cX2_take 47 = .ok (.getfield 18, 3) := by decide +kernel
theorem dX2_take_50 : decode cX2_take 50 = .ok (.iconst 0, 1) := by decide +kernel
theorem dX2_take_51 : decode cX2_take 51 = .ok (.aload_n 0, 1) := by decide +kernel
theorem dX2_take_52 : decode cX2_take 52 = .ok (.getfield 18, 3) := by decide +kernel
theorem dX2_take_55 : decode cX2_take 55 = .ok (.iconst 0, 1) := by decide +kernel
theorem dX2_take_56 : decode cX2_take 56 = .ok (.bipush 6, 2) := by decide +kernel
theorem dX2_take_58 : decode cX2_take 58 = .ok (.invokestatic 40, 3) := by decide +kernel
theorem dX2_take_61 : decode cX2_take 61 = .ok (.aload_n 1, 1) := by decide +kernel
theorem dX2_take_62 : decode cX2_take 62 = .ok (.getfield 21, 3) := by decide +kernel
theorem dX2_take_65 : decode cX2_take 65 = .ok (.iconst 0, 1) := by decide +kernel
theorem dX2_take_66 : decode cX2_take 66 = .ok (.aload_n 0, 1) := by decide +kernel
theorem dX2_take_67 : decode cX2_take 67 = .ok (.getfield 21, 3) := by decide +kernel
theorem dX2_take_70 : decode cX2_take 70 = .ok (.iconst 0, 1) := by decide +kernel
theorem dX2_take_71 : decode cX2_take 71 = .ok (.bipush 6, 2) := by decide +kernel
theorem dX2_take_73 : decode cX2_take 73 = .ok (.invokestatic 40, 3) := by decide +kernel
theorem dX2_take_76 : decode cX2_take 76 = .ok (.return_, 1) := by decide +kernel
def f_X2_take (a0 : Nat) (a1 : Nat) (σ : mm_S) : Option (mm_S) :=
    lt (su_i σ a0 0 (σ.1 a1 0)) fun σ13 =>
    lt (su_i σ13 a0 1 (σ13.1 a1 1)) fun σ15 =>
    lt (su_c σ15 (a1 + 1) 0 (a0 + 1) 0 6) fun σ17 =>
    lt (su_c σ17 (a1 + 2) 0 (a0 + 2) 0 6) fun σ19 =>
    lt (su_c σ19 (a1 + 3) 0 (a0 + 3) 0 6) fun σ21 =>
    lt (su_c σ21 (a1 + 4) 0 (a0 + 4) 0 6) fun σ23 =>
    some σ23
theorem v_X2_take {g : mm_G} (d : Nat) {a0 : Nat} {a1 : Nat} {σ : mm_S} {res : mm_S} (h_a0 : (mm_K a0).1 = 2) (h_a1 : (mm_K a1).1 = 2) (h : f_X2_take a0 a1 σ = some res) : SM g (d + 1) yy_X2_take [.ref a0, .ref a1] σ .null res := by
  refine s_of (by decide) (Nat.le_of_ble_eq_true rfl) (L := [(0, .ref a0), (1, .ref a1)]) rfl ?_
  unfold f_X2_take at h
  refine e_aload_n 0 dX2_take_0 rfl rfl ?_
  refine e_aload_n 1 dX2_take_1 rfl rfl ?_
  refine s_geti dX2_take_2 fl_RX2_30 h_a1 ?_
  refine s_puti dX2_take_5 fl_RX2_30 h_a0 rfl rfl rfl ?_
  obtain ⟨σ13, q14, h⟩ := lt_some h
  refine s_nms q14 ?_
  refine e_aload_n 0 dX2_take_8 rfl rfl ?_
  refine e_aload_n 1 dX2_take_9 rfl rfl ?_
  refine s_geti dX2_take_10 fl_RX2_34 h_a1 ?_
  refine s_puti dX2_take_13 fl_RX2_34 h_a0 rfl rfl rfl ?_
  obtain ⟨σ15, q16, h⟩ := lt_some h
  refine s_nms q16 ?_
  refine e_aload_n 1 dX2_take_16 rfl rfl ?_
  refine s_getr dX2_take_17 fl_RX2_9 h_a1 (r_2_2 h_a1).1 ?_
  refine e_iconst (v := (0 : Int32)) dX2_take_20 (by decide) ?_
  refine e_aload_n 0 dX2_take_21 rfl rfl ?_
  refine s_getr dX2_take_22 fl_RX2_9 h_a0 (r_2_2 h_a0).1 ?_
  refine e_iconst (v := (0 : Int32)) dX2_take_25 (by decide) ?_
  refine e_bipush (v := (6 : Int32)) dX2_take_26 (by decide) ?_
  refine s_copy dX2_take_28 cp_RX2_40 (r_2_2 (w := 0) h_a1).2 (r_2_2 (w := 0) h_a0).2 (by decide) (by decide) (by decide) (by decide) (by decide) (by decide) ?_
  obtain ⟨σ17, q18, h⟩ := lt_some h
  refine s_nms q18 ?_
  refine e_aload_n 1 dX2_take_31 rfl rfl ?_
  refine s_getr dX2_take_32 fl_RX2_15 h_a1 (r_2_3 h_a1).1 ?_
  refine e_iconst (v := (0 : Int32)) dX2_take_35 (by decide) ?_
  refine e_aload_n 0 dX2_take_36 rfl rfl ?_
  refine s_getr dX2_take_37 fl_RX2_15 h_a0 (r_2_3 h_a0).1 ?_
  refine e_iconst (v := (0 : Int32)) dX2_take_40 (by decide) ?_
  refine e_bipush (v := (6 : Int32)) dX2_take_41 (by decide) ?_
  refine s_copy dX2_take_43 cp_RX2_40 (r_2_3 (w := 0) h_a1).2 (r_2_3 (w := 0) h_a0).2 (by decide) (by decide) (by decide) (by decide) (by decide) (by decide) ?_
  obtain ⟨σ19, q20, h⟩ := lt_some h
  refine s_nms q20 ?_
  refine e_aload_n 1 dX2_take_46 rfl rfl ?_
  refine s_getr dX2_take_47 fl_RX2_18 h_a1 (r_2_4 h_a1).1 ?_
  refine e_iconst (v := (0 : Int32)) dX2_take_50 (by decide) ?_
  refine e_aload_n 0 dX2_take_51 rfl rfl ?_
  refine s_getr dX2_take_52 fl_RX2_18 h_a0 (r_2_4 h_a0).1 ?_
  refine e_iconst (v := (0 : Int32)) dX2_take_55 (by decide) ?_
  refine e_bipush (v := (6 : Int32)) dX2_take_56 (by decide) ?_
  refine s_copy dX2_take_58 cp_RX2_40 (r_2_4 (w := 0) h_a1).2 (r_2_4 (w := 0) h_a0).2 (by decide) (by decide) (by decide) (by decide) (by decide) (by decide) ?_
  obtain ⟨σ21, q22, h⟩ := lt_some h
  refine s_nms q22 ?_
  refine e_aload_n 1 dX2_take_61 rfl rfl ?_
  refine s_getr dX2_take_62 fl_RX2_21 h_a1 (r_2_5 h_a1).1 ?_
  refine e_iconst (v := (0 : Int32)) dX2_take_65 (by decide) ?_
  refine e_aload_n 0 dX2_take_66 rfl rfl ?_
  refine s_getr dX2_take_67 fl_RX2_21 h_a0 (r_2_5 h_a0).1 ?_
  refine e_iconst (v := (0 : Int32)) dX2_take_70 (by decide) ?_
  refine e_bipush (v := (6 : Int32)) dX2_take_71 (by decide) ?_
  refine s_copy dX2_take_73 cp_RX2_40 (r_2_5 (w := 0) h_a1).2 (r_2_5 (w := 0) h_a0).2 (by decide) (by decide) (by decide) (by decide) (by decide) (by decide) ?_
  obtain ⟨σ23, q24, h⟩ := lt_some h
  refine s_nms q24 ?_
  obtain rfl := Option.some.inj h
  exact s_ret rfl rfl dX2_take_76
abbrev yy_X0_keep : mm_Y := (yX0_keep, cX0_keep, 2, none)
theorem dX0_keep_0 : decode cX0_keep 0 = .ok (.aload_n 0, 1) := by decide +kernel
theorem dX0_keep_1 : decode cX0_keep 1 = .ok (.getfield 11, 3) := by decide +kernel
theorem dX0_keep_4 : decode cX0_keep 4 = .ok (.aload_n 0, 1) := by decide +kernel
theorem dX0_keep_5 : decode cX0_keep 5 = .ok (.getfield 22, 3) := by decide +kernel
theorem dX0_keep_8 : decode cX0_keep 8 = .ok (.aaload, 1) := by decide +kernel
theorem dX0_keep_9 : decode cX0_keep 9 = .ok (.aload_n 1, 1) := by decide +kernel
theorem dX0_keep_10 : decode cX0_keep 10 = .ok (.invokevirtual 25, 3) := by decide +kernel
theorem dX0_keep_13 : decode cX0_keep 13 = .ok (.aload_n 0, 1) := by decide +kernel
theorem dX0_keep_14 : decode cX0_keep 14 = .ok (.aload_n 0, 1) := by decide +kernel
theorem dX0_keep_15 : decode cX0_keep 15 = .ok (.getfield 22, 3) := by decide +kernel
theorem dX0_keep_18 : decode cX0_keep 18 = .ok (.iconst 1, 1) := by decide +kernel
theorem dX0_keep_19 : decode cX0_keep 19 = .ok (.iadd, 1) := by decide +kernel
theorem dX0_keep_20 : decode cX0_keep 20 = .ok (.bipush 20, 2) := by decide +kernel
theorem dX0_keep_22 : decode cX0_keep 22 = .ok (.irem, 1) := by decide +kernel
theorem dX0_keep_23 : decode cX0_keep 23 = .ok (.putfield 22, 3) := by decide +kernel
theorem dX0_keep_26 : decode cX0_keep 26 = .ok (.aload_n 0, 1) := by decide +kernel
theorem dX0_keep_27 : decode cX0_keep 27 = .ok (.aload_n 0, 1) := by decide +kernel
theorem dX0_keep_28 : decode cX0_keep 28 = .ok (.getfield 18, 3) := by decide +kernel
theorem dX0_keep_31 : decode cX0_keep 31 = .ok (.iconst 1, 1) := by decide +kernel
theorem dX0_keep_32 : decode cX0_keep 32 = .ok (.iadd, 1) := by decide +kernel
theorem dX0_keep_33 : decode cX0_keep 33 = .ok (.bipush 20, 2) := by decide +kernel
theorem dX0_keep_35 : decode cX0_keep 35 = .ok (.invokestatic 29, 3) := by decide +kernel
theorem dX0_keep_38 : decode cX0_keep 38 = .ok (.putfield 18, 3) := by decide +kernel
theorem dX0_keep_41 : decode cX0_keep 41 = .ok (.return_, 1) := by decide +kernel
def f_X0_keep (a0 : Nat) (a1 : Nat) (σ : mm_S) : Option (mm_S) :=
    gd (σ.1 a0 1) 20 <|
    bv (f_X2_take (100 + 5 * (σ.1 a0 1).toNatClampNeg) a1 σ) fun σ12 =>
    lt (su_i σ12 a0 1 (((σ12.1 a0 1) + (1 : Int32)) - ((σ12.1 a0 1) + (1 : Int32)) / (20 : Int32) * (20 : Int32))) fun σ13 =>
    lt ((if (20 : Int32) < ((σ13.1 a0 2) + (1 : Int32)) then (20 : Int32) else ((σ13.1 a0 2) + (1 : Int32)))) fun x15 =>
    lt (su_i σ13 a0 2 x15) fun σ17 =>
    some σ17
theorem v_X0_keep {g : mm_G} (d : Nat) {a0 : Nat} {a1 : Nat} {σ : mm_S} {res : mm_S} (h_a0 : (mm_K a0).1 = 0) (h_a1 : (mm_K a1).1 = 2) (h : f_X0_keep a0 a1 σ = some res) : SM g (d + 2) yy_X0_keep [.ref a0, .ref a1] σ .null res := by
  refine s_of (by decide) (Nat.le_of_ble_eq_true rfl) (L := [(0, .ref a0), (1, .ref a1)]) rfl ?_
  unfold f_X0_keep at h
  refine e_aload_n 0 dX0_keep_0 rfl rfl ?_
  refine s_getr dX0_keep_1 fl_RX0_11 h_a0 (r_0_0 h_a0).1 ?_
  refine e_aload_n 0 dX0_keep_4 rfl rfl ?_
  refine s_geti dX0_keep_5 fl_RX0_22 h_a0 ?_
  obtain ⟨q10, h⟩ := gd_some h
  refine s_aald15 dX0_keep_8 (ka_1 (r_0_0 (w := 0) h_a0).2) q10 ?_
  refine e_aload_n 1 dX0_keep_9 rfl rfl ?_
  obtain ⟨σ12, q11, h⟩ := bv_some h
  refine s_callVv [.ref a1] dX0_keep_10 ml_RX0_25 (r_a15 (w := 0) (ka_1 (r_0_0 (w := 0) h_a0).2) (vin_lt q10)).2.1 rfl rfl (v_X2_take (d + 0) (r_a15 (w := 0) (ka_1 (r_0_0 (w := 0) h_a0).2) (vin_lt q10)).2.1 h_a1 q11) (Nat.le_of_ble_eq_true rfl) ?_
  refine e_aload_n 0 dX0_keep_13 rfl rfl ?_
  refine e_aload_n 0 dX0_keep_14 rfl rfl ?_
  refine s_geti dX0_keep_15 fl_RX0_22 h_a0 ?_
  refine e_iconst (v := (1 : Int32)) dX0_keep_18 (by decide) ?_
  refine e_iadd dX0_keep_19 ?_
  refine e_bipush (v := (20 : Int32)) dX0_keep_20 (by decide) ?_
  refine e_irem dX0_keep_22 (by decide) ?_
  refine s_puti dX0_keep_23 fl_RX0_22 h_a0 rfl rfl rfl ?_
  obtain ⟨σ13, q14, h⟩ := lt_some h
  refine s_nms q14 ?_
  refine e_aload_n 0 dX0_keep_26 rfl rfl ?_
  refine e_aload_n 0 dX0_keep_27 rfl rfl ?_
  refine s_geti dX0_keep_28 fl_RX0_18 h_a0 ?_
  refine e_iconst (v := (1 : Int32)) dX0_keep_31 (by decide) ?_
  refine e_iadd dX0_keep_32 ?_
  refine e_bipush (v := (20 : Int32)) dX0_keep_33 (by decide) ?_
  refine s_mmin dX0_keep_35 mx_RX0_29 (Nat.le_of_ble_eq_true rfl) ?_
  obtain ⟨x15, q16, h⟩ := lt_some h
  refine s_nmi q16 ?_
  refine s_puti dX0_keep_38 fl_RX0_18 h_a0 rfl rfl rfl ?_
  obtain ⟨σ17, q18, h⟩ := lt_some h
  refine s_nms q18 ?_
  obtain rfl := Option.some.inj h
  exact s_ret rfl rfl dX0_keep_41
abbrev yy_X0_putBack : mm_Y := (yX0_putBack, cX0_putBack, 2, none)
theorem dX0_putBack_0 : decode cX0_putBack 0 = .ok (.aload_n 0, 1) := by decide +kernel
theorem dX0_putBack_1 : decode cX0_putBack 1 = .ok (.aload_n 0, 1) := by decide +kernel
theorem dX0_putBack_2 : decode cX0_putBack 2 = .ok (.getfield 22, 3) := by decide +kernel
theorem dX0_putBack_5 : decode cX0_putBack 5 = .ok (.bipush 20, 2) := by decide +kernel
theorem dX0_putBack_7 : decode cX0_putBack 7 = .ok (.iadd, 1) := by decide +kernel
theorem dX0_putBack_8 : decode cX0_putBack 8 = .ok (.iconst 1, 1) := by decide +kernel
theorem dX0_putBack_9 : decode cX0_putBack 9 = .ok (.isub, 1) := by decide +kernel
theorem dX0_putBack_10 : decode cX0_putBack 10 = .ok (.bipush 20, 2) := by decide +kernel
theorem dX0_putBack_12 : decode cX0_putBack 12 = .ok (.irem, 1) := by decide +kernel
theorem dX0_putBack_13 : decode cX0_putBack 13 = .ok (.putfield 22, 3) := by decide +kernel
theorem dX0_putBack_16 : decode cX0_putBack 16 = .ok (.aload_n 1, 1) := by decide +kernel
theorem dX0_putBack_17 : decode cX0_putBack 17 = .ok (.aload_n 0, 1) := by decide +kernel
theorem dX0_putBack_18 : decode cX0_putBack 18 = .ok (.getfield 11, 3) := by decide +kernel
theorem dX0_putBack_21 : decode cX0_putBack 21 = .ok (.aload_n 0, 1) := by decide +kernel
theorem dX0_putBack_22 : decode cX0_putBack 22 = .ok (.getfield 22, 3) := by decide +kernel
theorem dX0_putBack_25 : decode cX0_putBack 25 = .ok (.aaload, 1) := by decide +kernel
theorem dX0_putBack_26 : decode cX0_putBack 26 = .ok (.invokevirtual 25, 3) := by decide +kernel
theorem dX0_putBack_29 : decode cX0_putBack 29 = .ok (.aload_n 0, 1) := by decide +kernel
theorem dX0_putBack_30 : decode cX0_putBack 30 = .ok (.aload_n 0, 1) := by decide +kernel
theorem dX0_putBack_31 : decode cX0_putBack 31 = .ok (.getfield 18, 3) := by decide +kernel
theorem dX0_putBack_34 : decode cX0_putBack 34 = .ok (.iconst 1, 1) := by decide +kernel
theorem dX0_putBack_35 : decode cX0_putBack 35 = .ok (.isub, 1) := by decide +kernel
theorem dX0_putBack_36 : decode cX0_putBack 36 = .ok (.iconst 0, 1) := by decide +kernel
theorem dX0_putBack_37 : decode cX0_putBack 37 = .ok (.invokestatic 35, 3) := by decide +kernel
theorem dX0_putBack_40 : decode cX0_putBack 40 = .ok (.putfield 18, 3) := by decide +kernel
theorem dX0_putBack_43 : decode cX0_putBack 43 = .ok (.return_, 1) := by decide +kernel
def f_X0_putBack (a0 : Nat) (a1 : Nat) (σ : mm_S) : Option (mm_S) :=
    lt (su_i σ a0 1 ((((σ.1 a0 1) + (20 : Int32)) - (1 : Int32)) - (((σ.1 a0 1) + (20 : Int32)) - (1 : Int32)) / (20 : Int32) * (20 : Int32))) fun σ10 =>
    gd (σ10.1 a0 1) 20 <|
    bv (f_X2_take a1 (100 + 5 * (σ10.1 a0 1).toNatClampNeg) σ10) fun σ14 =>
    lt ((if ((σ14.1 a0 2) - (1 : Int32)) < (0 : Int32) then (0 : Int32) else ((σ14.1 a0 2) - (1 : Int32)))) fun x15 =>
    lt (su_i σ14 a0 2 x15) fun σ17 =>
    some σ17
theorem v_X0_putBack {g : mm_G} (d : Nat) {a0 : Nat} {a1 : Nat} {σ : mm_S} {res : mm_S} (h_a0 : (mm_K a0).1 = 0) (h_a1 : (mm_K a1).1 = 2) (h : f_X0_putBack a0 a1 σ = some res) : SM g (d + 2) yy_X0_putBack [.ref a0, .ref a1] σ .null res := by
  refine s_of (by decide) (Nat.le_of_ble_eq_true rfl) (L := [(0, .ref a0), (1, .ref a1)]) rfl ?_
  unfold f_X0_putBack at h
  refine e_aload_n 0 dX0_putBack_0 rfl rfl ?_
  refine e_aload_n 0 dX0_putBack_1 rfl rfl ?_
  refine s_geti dX0_putBack_2 fl_RX0_22 h_a0 ?_
  refine e_bipush (v := (20 : Int32)) dX0_putBack_5 (by decide) ?_
  refine e_iadd dX0_putBack_7 ?_
  refine e_iconst (v := (1 : Int32)) dX0_putBack_8 (by decide) ?_
  refine e_isub dX0_putBack_9 ?_
  refine e_bipush (v := (20 : Int32)) dX0_putBack_10 (by decide) ?_
  refine e_irem dX0_putBack_12 (by decide) ?_
  refine s_puti dX0_putBack_13 fl_RX0_22 h_a0 rfl rfl rfl ?_
  obtain ⟨σ10, q11, h⟩ := lt_some h
  refine s_nms q11 ?_
  refine e_aload_n 1 dX0_putBack_16 rfl rfl ?_
  refine e_aload_n 0 dX0_putBack_17 rfl rfl ?_
  refine s_getr dX0_putBack_18 fl_RX0_11 h_a0 (r_0_0 h_a0).1 ?_
  refine e_aload_n 0 dX0_putBack_21 rfl rfl ?_
  refine s_geti dX0_putBack_22 fl_RX0_22 h_a0 ?_
  obtain ⟨q12, h⟩ := gd_some h
  refine s_aald15 dX0_putBack_25 (ka_1 (r_0_0 (w := 0) h_a0).2) q12 ?_
  obtain ⟨σ14, q13, h⟩ := bv_some h
  refine s_callVv [.ref (100 + 5 * (σ10.1 a0 1).toNatClampNeg)] dX0_putBack_26 ml_RX0_25 h_a1 rfl rfl (v_X2_take (d + 0) h_a1 (r_a15 (w := 0) (ka_1 (r_0_0 (w := 0) h_a0).2) (vin_lt q12)).2.1 q13) (Nat.le_of_ble_eq_true rfl) ?_
  refine e_aload_n 0 dX0_putBack_29 rfl rfl ?_
  refine e_aload_n 0 dX0_putBack_30 rfl rfl ?_
  refine s_geti dX0_putBack_31 fl_RX0_18 h_a0 ?_
  refine e_iconst (v := (1 : Int32)) dX0_putBack_34 (by decide) ?_
  refine e_isub dX0_putBack_35 ?_
  refine e_iconst (v := (0 : Int32)) dX0_putBack_36 (by decide) ?_
  refine s_mmax dX0_putBack_37 mx_RX0_35 (Nat.le_of_ble_eq_true rfl) ?_
  obtain ⟨x15, q16, h⟩ := lt_some h
  refine s_nmi q16 ?_
  refine s_puti dX0_putBack_40 fl_RX0_18 h_a0 rfl rfl rfl ?_
  obtain ⟨σ17, q18, h⟩ := lt_some h
  refine s_nms q18 ?_
  obtain rfl := Option.some.inj h
  exact s_ret rfl rfl dX0_putBack_43
abbrev yy_X1_empty : mm_Y := (yX1_empty, cX1_empty, 1, none)
theorem dX1_empty_0 : decode cX1_empty 0 = .ok (.aload_n 0, 1) := by decide +kernel
theorem dX1_empty_1 : decode cX1_empty 1 = .ok (.iconst 0, 1) := by decide +kernel
theorem dX1_empty_2 : decode cX1_empty 2 = .ok (.putfield 21, 3) := by decide +kernel
theorem dX1_empty_5 : decode cX1_empty 5 = .ok (.aload_n 0, 1) := by decide +kernel
theorem dX1_empty_6 : decode cX1_empty 6 = .ok (.iconst 0, 1) := by decide +kernel
theorem dX1_empty_7 : decode cX1_empty 7 = .ok (.putfield 25, 3) := by decide +kernel
theorem dX1_empty_10 : decode cX1_empty 10 = .ok (.aload_n 0, 1) := by decide +kernel
theorem dX1_empty_11 : decode cX1_empty 11 = .ok (.iconst 0, 1) := by decide +kernel
theorem dX1_empty_12 : decode cX1_empty 12 = .ok (.putfield 29, 3) := by decide +kernel
theorem dX1_empty_15 : decode cX1_empty 15 = .ok (.aload_n 0, 1) := by decide +kernel
theorem dX1_empty_16 : decode cX1_empty 16 = .ok (.iconst 0, 1) := by decide +kernel
theorem dX1_empty_17 : decode cX1_empty 17 = .ok (.putfield 32, 3) := by decide +kernel
theorem dX1_empty_20 : decode cX1_empty 20 = .ok (.aload_n 0, 1) := by decide +kernel
theorem dX1_empty_21 : decode cX1_empty 21 = .ok (.iconst 0, 1) := by decide +kernel
theorem dX1_empty_22 : decode cX1_empty 22 = .ok (.putfield 35, 3) := by decide +kernel
theorem dX1_empty_25 : decode cX1_empty 25 = .ok (.aload_n 0, 1) := by decide +kernel
theorem dX1_empty_26 : decode cX1_empty 26 = .ok (.getfield 9, 3) := by decide +kernel
theorem dX1_empty_29 : decode cX1_empty 29 = .ok (.iconst 0, 1) := by decide +kernel
theorem dX1_empty_30 : decode cX1_empty 30 = .ok (.invokestatic 38, 3) := by decide +kernel
theorem dX1_empty_33 : decode cX1_empty 33 = .ok (.aload_n 0, 1) := by decide +kernel
theorem dX1_empty_34 : decode cX1_empty 34 = .ok (.getfield 15, 3) := by decide +kernel
theorem dX1_empty_37 : decode cX1_empty 37 = .ok (.iconst 0, 1) := by decide +kernel
theorem dX1_empty_38 : decode cX1_empty 38 = .ok (.invokestatic 38, 3) := by decide +kernel
theorem dX1_empty_41 : decode cX1_empty 41 = .ok (.aload_n 0, 1) := by decide +kernel
theorem dX1_empty_42 : decode cX1_empty 42 = .ok (.getfield 18, 3) := by decide +kernel
theorem dX1_empty_45 : decode cX1_empty 45 = .ok (.iconst 0, 1) := by decide +kernel
theorem dX1_empty_46 : decode cX1_empty 46 = .ok (.invokestatic 38, 3) := by decide +kernel
theorem dX1_empty_49 : decode cX1_empty 49 = .ok (.return_, 1) := by decide +kernel
def f_X1_empty (a0 : Nat) (σ : mm_S) : Option (mm_S) :=
    lt (su_i σ a0 0 (0 : Int32)) fun σ17 =>
    lt (su_i σ17 a0 1 (0 : Int32)) fun σ19 =>
    lt (su_i σ19 a0 2 (0 : Int32)) fun σ21 =>
    lt (su_i σ21 a0 3 (0 : Int32)) fun σ23 =>
    lt (su_i σ23 a0 4 (0 : Int32)) fun σ25 =>
    bv (f_J7_fill_53178 (a0 + 1) (0 : Int32) σ25) fun σ28 =>
    bv (f_J7_fill_53178 (a0 + 2) (0 : Int32) σ28) fun σ30 =>
    bv (f_J7_fill_53178 (a0 + 3) (0 : Int32) σ30) fun σ32 =>
    some σ32
theorem v_X1_empty {g : mm_G} (d : Nat) {a0 : Nat} {σ : mm_S} {res : mm_S} (h_a0 : (mm_K a0).1 = 1) (h : f_X1_empty a0 σ = some res) : SM g (d + 1) yy_X1_empty [.ref a0] σ .null res := by
  refine s_of (by decide) (Nat.le_of_ble_eq_true rfl) (L := [(0, .ref a0)]) rfl ?_
  unfold f_X1_empty at h
  refine e_aload_n 0 dX1_empty_0 rfl rfl ?_
  refine e_iconst (v := (0 : Int32)) dX1_empty_1 (by decide) ?_
  refine s_puti dX1_empty_2 fl_RX1_21 h_a0 rfl (nb1 (Or.inl rfl)) (nb2 (Or.inl rfl)) ?_
  obtain ⟨σ17, q18, h⟩ := lt_some h
  refine s_nms q18 ?_
  refine e_aload_n 0 dX1_empty_5 rfl rfl ?_
  refine e_iconst (v := (0 : Int32)) dX1_empty_6 (by decide) ?_
  refine s_puti dX1_empty_7 fl_RX1_25 h_a0 rfl rfl rfl ?_
  obtain ⟨σ19, q20, h⟩ := lt_some h
  refine s_nms q20 ?_
  refine e_aload_n 0 dX1_empty_10 rfl rfl ?_
  refine e_iconst (v := (0 : Int32)) dX1_empty_11 (by decide) ?_
  refine s_puti dX1_empty_12 fl_RX1_29 h_a0 rfl rfl rfl ?_
  obtain ⟨σ21, q22, h⟩ := lt_some h
  refine s_nms q22 ?_
  refine e_aload_n 0 dX1_empty_15 rfl rfl ?_
  refine e_iconst (v := (0 : Int32)) dX1_empty_16 (by decide) ?_
  refine s_puti dX1_empty_17 fl_RX1_32 h_a0 rfl rfl rfl ?_
  obtain ⟨σ23, q24, h⟩ := lt_some h
  refine s_nms q24 ?_
  refine e_aload_n 0 dX1_empty_20 rfl rfl ?_
  refine e_iconst (v := (0 : Int32)) dX1_empty_21 (by decide) ?_
  refine s_puti dX1_empty_22 fl_RX1_35 h_a0 rfl rfl rfl ?_
  obtain ⟨σ25, q26, h⟩ := lt_some h
  refine s_nms q26 ?_
  refine e_aload_n 0 dX1_empty_25 rfl rfl ?_
  refine s_getr dX1_empty_26 fl_RX1_9 h_a0 (r_1_5 h_a0).1 ?_
  refine e_iconst (v := (0 : Int32)) dX1_empty_29 (by decide) ?_
  obtain ⟨σ28, q27, h⟩ := bv_some h
  refine s_callSv [.ref (a0 + 1), .int (0 : Int32)] dX1_empty_30 ml_RX1_38 rfl rfl (v_J7_fill_53178 (d + 0) (ka_1 (r_1_5 (w := 0) h_a0).2) q27) (Nat.le_of_ble_eq_true rfl) ?_
  refine e_aload_n 0 dX1_empty_33 rfl rfl ?_
  refine s_getr dX1_empty_34 fl_RX1_15 h_a0 (r_1_6 h_a0).1 ?_
  refine e_iconst (v := (0 : Int32)) dX1_empty_37 (by decide) ?_
  obtain ⟨σ30, q29, h⟩ := bv_some h
  refine s_callSv [.ref (a0 + 2), .int (0 : Int32)] dX1_empty_38 ml_RX1_38 rfl rfl (v_J7_fill_53178 (d + 0) (ka_1 (r_1_6 (w := 0) h_a0).2) q29) (Nat.le_of_ble_eq_true rfl) ?_
  refine e_aload_n 0 dX1_empty_41 rfl rfl ?_
  refine s_getr dX1_empty_42 fl_RX1_18 h_a0 (r_1_7 h_a0).1 ?_
  refine e_iconst (v := (0 : Int32)) dX1_empty_45 (by decide) ?_
  obtain ⟨σ32, q31, h⟩ := bv_some h
  refine s_callSv [.ref (a0 + 3), .int (0 : Int32)] dX1_empty_46 ml_RX1_38 rfl rfl (v_J7_fill_53178 (d + 0) (ka_1 (r_1_7 (w := 0) h_a0).2) q31) (Nat.le_of_ble_eq_true rfl) ?_
  obtain rfl := Option.some.inj h
  exact s_ret rfl rfl dX1_empty_49
abbrev yy_X1_take : mm_Y := (yX1_take, cX1_take, 2, none)
theorem dX1_take_0 : decode cX1_take 0 = .ok (.aload_n 0, 1) := by decide +kernel
theorem dX1_take_1 : decode cX1_take 1 = .ok (.aload_n 1, 1) := by decide +kernel
theorem dX1_take_2 : decode cX1_take 2 = .ok (.getfield 21, 3) := by decide +kernel
theorem dX1_take_5 : decode cX1_take 5 = .ok (.putfield 21, 3) := by decide +kernel
theorem dX1_take_8 : decode cX1_take 8 = .ok (.aload_n 0, 1) := by decide +kernel
theorem dX1_take_9 : decode cX1_take 9 = .ok (.aload_n 1, 1) := by decide +kernel
theorem dX1_take_10 : decode cX1_take 10 = .ok (.getfield 25, 3) := by decide +kernel
theorem dX1_take_13 : decode cX1_take 13 = .ok (.putfield 25, 3) := by decide +kernel
theorem dX1_take_16 : decode cX1_take 16 = .ok (.aload_n 0, 1) := by decide +kernel
theorem dX1_take_17 : decode cX1_take 17 = .ok (.aload_n 1, 1) := by decide +kernel
theorem dX1_take_18 : decode cX1_take 18 = .ok (.getfield 29, 3) := by decide +kernel
theorem dX1_take_21 : decode cX1_take 21 = .ok (.putfield 29, 3) := by decide +kernel
theorem dX1_take_24 : decode cX1_take 24 = .ok (.aload_n 0, 1) := by decide +kernel
theorem dX1_take_25 : decode cX1_take 25 = .ok (.aload_n 1, 1) := by decide +kernel
theorem dX1_take_26 : decode cX1_take 26 = .ok (.getfield 32, 3) := by decide +kernel
theorem dX1_take_29 : decode cX1_take 29 = .ok (.putfield 32, 3) := by decide +kernel
theorem dX1_take_32 : decode cX1_take 32 = .ok (.aload_n 0, 1) := by decide +kernel
theorem dX1_take_33 : decode cX1_take 33 = .ok (.aload_n 1, 1) := by decide +kernel
theorem dX1_take_34 : decode cX1_take 34 = .ok (.getfield 35, 3) := by decide +kernel
theorem dX1_take_37 : decode cX1_take 37 = .ok (.putfield 35, 3) := by decide +kernel
theorem dX1_take_40 : decode cX1_take 40 = .ok (.aload_n 1, 1) := by decide +kernel
theorem dX1_take_41 : decode cX1_take 41 = .ok (.getfield 9, 3) := by decide +kernel
theorem dX1_take_44 : decode cX1_take 44 = .ok (.iconst 0, 1) := by decide +kernel
theorem dX1_take_45 : decode cX1_take 45 = .ok (.aload_n 0, 1) := by decide +kernel
theorem dX1_take_46 : decode cX1_take 46 = .ok (.getfield 9, 3) := by decide +kernel
theorem dX1_take_49 : decode cX1_take 49 = .ok (.iconst 0, 1) := by decide +kernel
theorem dX1_take_50 : decode cX1_take 50 = .ok (.bipush 6, 2) := by decide +kernel
theorem dX1_take_52 : decode cX1_take 52 = .ok (.invokestatic 44, 3) := by decide +kernel
theorem dX1_take_55 : decode cX1_take 55 = .ok (.aload_n 1, 1) := by decide +kernel
theorem dX1_take_56 : decode cX1_take 56 = .ok (.getfield 15, 3) := by decide +kernel
theorem dX1_take_59 : decode cX1_take 59 = .ok (.iconst 0, 1) := by decide +kernel
theorem dX1_take_60 : decode cX1_take 60 = .ok (.aload_n 0, 1) := by decide +kernel
theorem dX1_take_61 : decode cX1_take 61 = .ok (.getfield 15, 3) := by decide +kernel
theorem dX1_take_64 : decode cX1_take 64 = .ok (.iconst 0, 1) := by decide +kernel
theorem dX1_take_65 : decode cX1_take 65 = .ok (.bipush 6, 2) := by decide +kernel
theorem dX1_take_67 : decode cX1_take 67 = .ok (.invokestatic 44, 3) := by decide +kernel
theorem dX1_take_70 : decode cX1_take 70 = .ok (.aload_n 1, 1) := by decide +kernel
theorem dX1_take_71 : decode cX1_take 71 = .ok (.getfield 18, 3) := by decide +kernel
theorem dX1_take_74 : decode cX1_take 74 = .ok (.iconst 0, 1) := by decide +kernel
theorem dX1_take_75 : decode cX1_take 75 = .ok (.aload_n 0, 1) := by decide +kernel
theorem dX1_take_76 : decode cX1_take 76 = .ok (.getfield 18, 3) := by decide +kernel
theorem dX1_take_79 : decode cX1_take 79 = .ok (.iconst 0, 1) := by decide +kernel
theorem dX1_take_80 : decode cX1_take 80 = .ok (.bipush 36, 2) := by decide +kernel
theorem dX1_take_82 : decode cX1_take 82 = .ok (.invokestatic 44, 3) := by decide +kernel
theorem dX1_take_85 : decode cX1_take 85 = .ok (.return_, 1) := by decide +kernel
def f_X1_take (a0 : Nat) (a1 : Nat) (σ : mm_S) : Option (mm_S) :=
    gb (σ.1 a1 0) <|
    lt (su_i σ a0 0 (σ.1 a1 0)) fun σ19 =>
    lt (su_i σ19 a0 1 (σ19.1 a1 1)) fun σ21 =>
    lt (su_i σ21 a0 2 (σ21.1 a1 2)) fun σ23 =>
    lt (su_i σ23 a0 3 (σ23.1 a1 3)) fun σ25 =>
    lt (su_i σ25 a0 4 (σ25.1 a1 4)) fun σ27 =>
    lt (su_c σ27 (a1 + 1) 0 (a0 + 1) 0 6) fun σ29 =>
    lt (su_c σ29 (a1 + 2) 0 (a0 + 2) 0 6) fun σ31 =>
    lt (su_c σ31 (a1 + 3) 0 (a0 + 3) 0 36) fun σ33 =>
    some σ33
theorem v_X1_take {g : mm_G} (d : Nat) {a0 : Nat} {a1 : Nat} {σ : mm_S} {res : mm_S} (h_a0 : (mm_K a0).1 = 1) (h_a1 : (mm_K a1).1 = 1) (h : f_X1_take a0 a1 σ = some res) : SM g (d + 1) yy_X1_take [.ref a0, .ref a1] σ .null res := by
  refine s_of (by decide) (Nat.le_of_ble_eq_true rfl) (L := [(0, .ref a0), (1, .ref a1)]) rfl ?_
  unfold f_X1_take at h
  refine e_aload_n 0 dX1_take_0 rfl rfl ?_
  refine e_aload_n 1 dX1_take_1 rfl rfl ?_
  refine s_geti dX1_take_2 fl_RX1_21 h_a1 ?_
  obtain ⟨q18, h⟩ := gb_some h
  refine s_puti dX1_take_5 fl_RX1_21 h_a0 rfl (nb1 q18) (nb2 q18) ?_
  obtain ⟨σ19, q20, h⟩ := lt_some h
  refine s_nms q20 ?_
  refine e_aload_n 0 dX1_take_8 rfl rfl ?_
  refine e_aload_n 1 dX1_take_9 rfl rfl ?_
  refine s_geti dX1_take_10 fl_RX1_25 h_a1 ?_
  refine s_puti dX1_take_13 fl_RX1_25 h_a0 rfl rfl rfl ?_
  obtain ⟨σ21, q22, h⟩ := lt_some h
  refine s_nms q22 ?_
  refine e_aload_n 0 dX1_take_16 rfl rfl ?_
  refine e_aload_n 1 dX1_take_17 rfl rfl ?_
  refine s_geti dX1_take_18 fl_RX1_29 h_a1 ?_
  refine s_puti dX1_take_21 fl_RX1_29 h_a0 rfl rfl rfl ?_
  obtain ⟨σ23, q24, h⟩ := lt_some h
  refine s_nms q24 ?_
  refine e_aload_n 0 dX1_take_24 rfl rfl ?_
  refine e_aload_n 1 dX1_take_25 rfl rfl ?_
  refine s_geti dX1_take_26 fl_RX1_32 h_a1 ?_
  refine s_puti dX1_take_29 fl_RX1_32 h_a0 rfl rfl rfl ?_
  obtain ⟨σ25, q26, h⟩ := lt_some h
  refine s_nms q26 ?_
  refine e_aload_n 0 dX1_take_32 rfl rfl ?_
  refine e_aload_n 1 dX1_take_33 rfl rfl ?_
  refine s_geti dX1_take_34 fl_RX1_35 h_a1 ?_
  refine s_puti dX1_take_37 fl_RX1_35 h_a0 rfl rfl rfl ?_
  obtain ⟨σ27, q28, h⟩ := lt_some h
  refine s_nms q28 ?_
  refine e_aload_n 1 dX1_take_40 rfl rfl ?_
  refine s_getr dX1_take_41 fl_RX1_9 h_a1 (r_1_5 h_a1).1 ?_
  refine e_iconst (v := (0 : Int32)) dX1_take_44 (by decide) ?_
  refine e_aload_n 0 dX1_take_45 rfl rfl ?_
  refine s_getr dX1_take_46 fl_RX1_9 h_a0 (r_1_5 h_a0).1 ?_
  refine e_iconst (v := (0 : Int32)) dX1_take_49 (by decide) ?_
  refine e_bipush (v := (6 : Int32)) dX1_take_50 (by decide) ?_
  refine s_copy dX1_take_52 cp_RX1_44 (r_1_5 (w := 0) h_a1).2 (r_1_5 (w := 0) h_a0).2 (by decide) (by decide) (by decide) (by decide) (by decide) (by decide) ?_
  obtain ⟨σ29, q30, h⟩ := lt_some h
  refine s_nms q30 ?_
  refine e_aload_n 1 dX1_take_55 rfl rfl ?_
  refine s_getr dX1_take_56 fl_RX1_15 h_a1 (r_1_6 h_a1).1 ?_
  refine e_iconst (v := (0 : Int32)) dX1_take_59 (by decide) ?_
  refine e_aload_n 0 dX1_take_60 rfl rfl ?_
  refine s_getr dX1_take_61 fl_RX1_15 h_a0 (r_1_6 h_a0).1 ?_
  refine e_iconst (v := (0 : Int32)) dX1_take_64 (by decide) ?_
  refine e_bipush (v := (6 : Int32)) dX1_take_65 (by decide) ?_
  refine s_copy dX1_take_67 cp_RX1_44 (r_1_6 (w := 0) h_a1).2 (r_1_6 (w := 0) h_a0).2 (by decide) (by decide) (by decide) (by decide) (by decide) (by decide) ?_
  obtain ⟨σ31, q32, h⟩ := lt_some h
  refine s_nms q32 ?_
  refine e_aload_n 1 dX1_take_70 rfl rfl ?_
  refine s_getr dX1_take_71 fl_RX1_18 h_a1 (r_1_7 h_a1).1 ?_
  refine e_iconst (v := (0 : Int32)) dX1_take_74 (by decide) ?_
  refine e_aload_n 0 dX1_take_75 rfl rfl ?_
  refine s_getr dX1_take_76 fl_RX1_18 h_a0 (r_1_7 h_a0).1 ?_
  refine e_iconst (v := (0 : Int32)) dX1_take_79 (by decide) ?_
  refine e_bipush (v := (36 : Int32)) dX1_take_80 (by decide) ?_
  refine s_copy dX1_take_82 cp_RX1_44 (r_1_7 (w := 0) h_a1).2 (r_1_7 (w := 0) h_a0).2 (by decide) (by decide) (by decide) (by decide) (by decide) (by decide) ?_
  obtain ⟨σ33, q34, h⟩ := lt_some h
  refine s_nms q34 ?_
  obtain rfl := Option.some.inj h
  exact s_ret rfl rfl dX1_take_85
abbrev yy_X1_addLodger : mm_Y := (yX1_addLodger, cX1_addLodger, 3, none)
theorem dX1_addLodger_0 : decode cX1_addLodger 0 = .ok (.aload_n 0, 1) := by decide +kernel
theorem dX1_addLodger_1 : decode cX1_addLodger 1 = .ok (.getfield 32, 3) := by decide +kernel
theorem dX1_addLodger_4 : decode cX1_addLodger 4 = .ok (.bipush 6, 2) := by decide +kernel
theorem dX1_addLodger_6 : decode cX1_addLodger 6 = .ok (.if_icmp .ge 33, 3) := by decide +kernel
theorem dX1_addLodger_9 : decode cX1_addLodger 9 = .ok (.aload_n 0, 1) := by decide +kernel
theorem dX1_addLodger_10 : decode cX1_addLodger 10 = .ok (.getfield 9, 3) := by decide +kernel
theorem dX1_addLodger_13 : decode cX1_addLodger 13 = .ok (.aload_n 0, 1) := by decide +kernel
theorem dX1_addLodger_14 : decode cX1_addLodger 14 = .ok (.getfield 32, 3) := by decide +kernel
theorem dX1_addLodger_17 : decode cX1_addLodger 17 = .ok (.iload_n 1, 1) := by decide +kernel
theorem dX1_addLodger_18 : decode cX1_addLodger 18 = .ok (.iastore, 1) := by decide +kernel
theorem dX1_addLodger_19 : decode cX1_addLodger 19 = .ok (.aload_n 0, 1) := by decide +kernel
theorem dX1_addLodger_20 : decode cX1_addLodger 20 = .ok (.getfield 15, 3) := by decide +kernel
theorem dX1_addLodger_23 : decode cX1_addLodger 23 = .ok (.aload_n 0, 1) := by decide +kernel
theorem dX1_addLodger_24 : decode cX1_addLodger 24 = .ok (.getfield 32, 3) := by decide +kernel
theorem dX1_addLodger_27 : decode cX1_addLodger 27 = .ok (.iload_n 2, 1) := by decide +kernel
theorem dX1_addLodger_28 : decode cX1_addLodger 28 = .ok (.iastore, 1) := by decide +kernel
theorem dX1_addLodger_29 : decode cX1_addLodger 29 = .ok (.aload_n 0, 1) := by decide +kernel
theorem dX1_addLodger_30 : decode cX1_addLodger 30 = .ok (.dup, 1) := by decide +kernel
theorem dX1_addLodger_31 : decode cX1_addLodger 31 = .ok (.getfield 32, 3) := by decide +kernel
theorem dX1_addLodger_34 : decode cX1_addLodger 34 = .ok (.iconst 1, 1) := by decide +kernel
theorem dX1_addLodger_35 : decode cX1_addLodger 35 = .ok (.iadd, 1) := by decide +kernel
theorem dX1_addLodger_36 : decode cX1_addLodger 36 = .ok (.putfield 32, 3) := by decide +kernel
theorem dX1_addLodger_39 : decode cX1_addLodger 39 = .ok (.return_, 1) := by decide +kernel
def f_X1_addLodger (a0 : Nat) (i1 : Int32) (i2 : Int32) (σ : mm_S) : Option (mm_S) :=
    if (6 : Int32) ≤ (σ.1 a0 3) then
      some σ
    else
      gd (σ.1 a0 3) 6 <|
      lt (su_i σ (a0 + 1) (σ.1 a0 3).toNatClampNeg i1) fun σ12 =>
      gd (σ12.1 a0 3) 6 <|
      lt (su_i σ12 (a0 + 2) (σ12.1 a0 3).toNatClampNeg i2) fun σ15 =>
      lt (su_i σ15 a0 3 ((σ15.1 a0 3) + (1 : Int32))) fun σ17 =>
      some σ17
theorem v_X1_addLodger {g : mm_G} (d : Nat) {a0 : Nat} {i1 : Int32} {i2 : Int32} {σ : mm_S} {res : mm_S} (h_a0 : (mm_K a0).1 = 1) (h : f_X1_addLodger a0 i1 i2 σ = some res) : SM g (d + 0) yy_X1_addLodger [.ref a0, .int i1, .int i2] σ .null res := by
  refine s_of (by decide) (Nat.le_of_ble_eq_true rfl) (L := [(0, .ref a0), (1, .int i1), (2, .int i2)]) rfl ?_
  unfold f_X1_addLodger at h
  refine e_aload_n 0 dX1_addLodger_0 rfl rfl ?_
  refine s_geti dX1_addLodger_1 fl_RX1_32 h_a0 ?_
  refine e_bipush (v := (6 : Int32)) dX1_addLodger_4 (by decide) ?_
  refine e_icmp_ge 39 dX1_addLodger_6 (by decide) (fun c10 => ?_) (fun c10 => ?_)
  · rw [if_pos c10] at h
    obtain rfl := Option.some.inj h
    exact s_ret rfl rfl dX1_addLodger_39
  · rw [if_neg c10] at h
    refine e_aload_n 0 dX1_addLodger_9 rfl rfl ?_
    refine s_getr dX1_addLodger_10 fl_RX1_9 h_a0 (r_1_5 h_a0).1 ?_
    refine e_aload_n 0 dX1_addLodger_13 rfl rfl ?_
    refine s_geti dX1_addLodger_14 fl_RX1_32 h_a0 ?_
    refine e_iload_n 1 dX1_addLodger_17 rfl rfl ?_
    obtain ⟨q11, h⟩ := gd_some h
    refine s_iast dX1_addLodger_18 (r_1_5 (w := 0) h_a0).2 q11 ?_
    obtain ⟨σ12, q13, h⟩ := lt_some h
    refine s_nms q13 ?_
    refine e_aload_n 0 dX1_addLodger_19 rfl rfl ?_
    refine s_getr dX1_addLodger_20 fl_RX1_15 h_a0 (r_1_6 h_a0).1 ?_
    refine e_aload_n 0 dX1_addLodger_23 rfl rfl ?_
    refine s_geti dX1_addLodger_24 fl_RX1_32 h_a0 ?_
    refine e_iload_n 2 dX1_addLodger_27 rfl rfl ?_
    obtain ⟨q14, h⟩ := gd_some h
    refine s_iast dX1_addLodger_28 (r_1_6 (w := 0) h_a0).2 q14 ?_
    obtain ⟨σ15, q16, h⟩ := lt_some h
    refine s_nms q16 ?_
    refine e_aload_n 0 dX1_addLodger_29 rfl rfl ?_
    refine e_dup dX1_addLodger_30 rfl ?_
    refine s_geti dX1_addLodger_31 fl_RX1_32 h_a0 ?_
    refine e_iconst (v := (1 : Int32)) dX1_addLodger_34 (by decide) ?_
    refine e_iadd dX1_addLodger_35 ?_
    refine s_puti dX1_addLodger_36 fl_RX1_32 h_a0 rfl rfl rfl ?_
    obtain ⟨σ17, q18, h⟩ := lt_some h
    refine s_nms q18 ?_
    obtain rfl := Option.some.inj h
    exact s_ret rfl rfl dX1_addLodger_39
abbrev yy_X1_setDearness : mm_Y := (yX1_setDearness, cX1_setDearness, 5, none)
theorem dX1_setDearness_0 : decode cX1_setDearness 0 = .ok (.iload_n 1, 1) := by decide +kernel
theorem dX1_setDearness_1 : decode cX1_setDearness 1 = .ok (.bipush 6, 2) := by decide +kernel
theorem dX1_setDearness_3 : decode cX1_setDearness 3 = .ok (.imul, 1) := by decide +kernel
theorem dX1_setDearness_4 : decode cX1_setDearness 4 = .ok (.iload_n 2, 1) := by decide +kernel
theorem dX1_setDearness_5 : decode cX1_setDearness 5 = .ok (.iadd, 1) := by decide +kernel
theorem dX1_setDearness_6 : decode cX1_setDearness 6 = .ok (.istore 4, 2) := by decide +kernel
theorem dX1_setDearness_8 : decode cX1_setDearness 8 = .ok (.iload 4, 2) := by decide +kernel
theorem dX1_setDearness_10 : decode cX1_setDearness 10 = .ok (.ifCond .lt 21, 3) := by decide +kernel
theorem dX1_setDearness_13 : decode cX1_setDearness 13 = .ok (.iload 4, 2) := by decide +kernel
theorem dX1_setDearness_15 : decode cX1_setDearness 15 = .ok (.aload_n 0, 1) := by decide +kernel
theorem dX1_setDearness_16 : decode cX1_setDearness 16 = .ok (.getfield 18, 3) := by decide +kernel
theorem dX1_setDearness_19 : decode cX1_setDearness 19 = .ok (.arraylength, 1) := by decide +kernel
theorem dX1_setDearness_20 : decode cX1_setDearness 20 = .ok (.if_icmp .ge 11, 3) := by decide +kernel
theorem dX1_setDearness_23 : decode cX1_setDearness 23 = .ok (.aload_n 0, 1) := by decide +kernel
theorem dX1_setDearness_24 : decode cX1_setDearness 24 = .ok (.getfield 18, 3) := by decide +kernel
theorem dX1_setDearness_27 : decode cX1_setDearness 27 = .ok (.iload 4, 2) := by decide +kernel
theorem dX1_setDearness_29 : decode cX1_setDearness 29 = .ok (.iload_n 3, 1) := by decide +kernel
theorem dX1_setDearness_30 : decode cX1_setDearness 30 = .ok (.iastore, 1) := by decide +kernel
theorem dX1_setDearness_31 : decode cX1_setDearness 31 = .ok (.return_, 1) := by decide +kernel
def f_X1_setDearness (a0 : Nat) (i1 : Int32) (i2 : Int32) (i3 : Int32) (σ : mm_S) : Option (mm_S) :=
    lt (((i1 * (6 : Int32)) + i2)) fun x8 =>
    if x8 < 0 then
      some σ
    else
      if (Int32.ofNat 36) ≤ x8 then
        some σ
      else
        gd x8 36 <|
        lt (su_i σ (a0 + 3) x8.toNatClampNeg i3) fun σ13 =>
        some σ13
theorem v_X1_setDearness {g : mm_G} (d : Nat) {a0 : Nat} {i1 : Int32} {i2 : Int32} {i3 : Int32} {σ : mm_S} {res : mm_S} (h_a0 : (mm_K a0).1 = 1) (h : f_X1_setDearness a0 i1 i2 i3 σ = some res) : SM g (d + 0) yy_X1_setDearness [.ref a0, .int i1, .int i2, .int i3] σ .null res := by
  refine s_of (by decide) (Nat.le_of_ble_eq_true rfl) (L := [(0, .ref a0), (1, .int i1), (2, .int i2), (3, .int i3)]) rfl ?_
  unfold f_X1_setDearness at h
  refine e_iload_n 1 dX1_setDearness_0 rfl rfl ?_
  refine e_bipush (v := (6 : Int32)) dX1_setDearness_1 (by decide) ?_
  refine e_imul dX1_setDearness_3 ?_
  refine e_iload_n 2 dX1_setDearness_4 rfl rfl ?_
  refine e_iadd dX1_setDearness_5 ?_
  obtain ⟨x8, q9, h⟩ := lt_some h
  refine s_nmi q9 ?_
  refine e_istore (L' := [(0, .ref a0), (1, .int i1), (2, .int i2), (3, .int i3), (4, .int x8)]) dX1_setDearness_6  (by decide) rfl ?_
  refine e_iload 4 dX1_setDearness_8  rfl ?_
  refine e_if_lt 31 dX1_setDearness_10 (by decide) (fun c10 => ?_) (fun c10 => ?_)
  · rw [if_pos c10] at h
    obtain rfl := Option.some.inj h
    exact s_ret rfl rfl dX1_setDearness_31
  · rw [if_neg c10] at h
    refine e_iload 4 dX1_setDearness_13  rfl ?_
    refine e_aload_n 0 dX1_setDearness_15 rfl rfl ?_
    refine s_getr dX1_setDearness_16 fl_RX1_18 h_a0 (r_1_7 h_a0).1 ?_
    refine s_alen dX1_setDearness_19 (r_1_7 (w := 0) h_a0).2 ⟨by decide, by decide⟩ rfl ?_
    refine e_icmp_ge 31 dX1_setDearness_20 (by decide) (fun c11 => ?_) (fun c11 => ?_)
    · rw [if_pos c11] at h
      obtain rfl := Option.some.inj h
      exact s_ret rfl rfl dX1_setDearness_31
    · rw [if_neg c11] at h
      refine e_aload_n 0 dX1_setDearness_23 rfl rfl ?_
      refine s_getr dX1_setDearness_24 fl_RX1_18 h_a0 (r_1_7 h_a0).1 ?_
      refine e_iload 4 dX1_setDearness_27  rfl ?_
      refine e_iload_n 3 dX1_setDearness_29 rfl rfl ?_
      obtain ⟨q12, h⟩ := gd_some h
      refine s_iast dX1_setDearness_30 (r_1_7 (w := 0) h_a0).2 q12 ?_
      obtain ⟨σ13, q14, h⟩ := lt_some h
      refine s_nms q14 ?_
      obtain rfl := Option.some.inj h
      exact s_ret rfl rfl dX1_setDearness_31
abbrev yy_X1_dearness : mm_Y := (yX1_dearness, cX1_dearness, 4, (some .int))
theorem dX1_dearness_0 : decode cX1_dearness 0 = .ok (.iload_n 1, 1) := by decide +kernel
theorem dX1_dearness_1 : decode cX1_dearness 1 = .ok (.bipush 6, 2) := by decide +kernel
theorem dX1_dearness_3 : decode cX1_dearness 3 = .ok (.imul, 1) := by decide +kernel
theorem dX1_dearness_4 : decode cX1_dearness 4 = .ok (.iload_n 2, 1) := by decide +kernel
theorem dX1_dearness_5 : decode cX1_dearness 5 = .ok (.iadd, 1) := by decide +kernel
theorem dX1_dearness_6 : decode cX1_dearness 6 = .ok (.istore_n 3, 1) := by decide +kernel
theorem dX1_dearness_7 : decode cX1_dearness 7 = .ok (.iload_n 3, 1) := by decide +kernel
theorem dX1_dearness_8 : decode cX1_dearness 8 = .ok (.ifCond .lt 21, 3) := by decide +kernel
theorem dX1_dearness_11 : decode cX1_dearness 11 = .ok (.iload_n 3, 1) := by decide +kernel
theorem dX1_dearness_12 : decode cX1_dearness 12 = .ok (.aload_n 0, 1) := by decide +kernel
theorem dX1_dearness_13 : decode cX1_dearness 13 = .ok (.getfield 18, 3) := by decide +kernel
theorem dX1_dearness_16 : decode cX1_dearness 16 = .ok (.arraylength, 1) := by decide +kernel
theorem dX1_dearness_17 : decode cX1_dearness 17 = .ok (.if_icmp .ge 12, 3) := by decide +kernel
theorem dX1_dearness_20 : decode cX1_dearness 20 = .ok (.aload_n 0, 1) := by decide +kernel
theorem dX1_dearness_21 : decode cX1_dearness 21 = .ok (.getfield 18, 3) := by decide +kernel
theorem dX1_dearness_24 : decode cX1_dearness 24 = .ok (.iload_n 3, 1) := by decide +kernel
theorem dX1_dearness_25 : decode cX1_dearness 25 = .ok (.iaload, 1) := by decide +kernel
theorem dX1_dearness_26 : decode cX1_dearness 26 = .ok (.goto 4, 3) := by decide +kernel
theorem dX1_dearness_29 : decode cX1_dearness 29 = .ok (.iconst 0, 1) := by decide +kernel
theorem dX1_dearness_30 : decode cX1_dearness 30 = .ok (.ireturn, 1) := by decide +kernel
def f_X1_dearness (a0 : Nat) (i1 : Int32) (i2 : Int32) (σ : mm_S) : Option (Int32 × mm_S) :=
    lt (((i1 * (6 : Int32)) + i2)) fun x6 =>
    if x6 < 0 then
      some ((0 : Int32), σ)
    else
      if (Int32.ofNat 36) ≤ x6 then
        some ((0 : Int32), σ)
      else
        gd x6 36 <|
        some ((σ.1 (a0 + 3) x6.toNatClampNeg), σ)
theorem v_X1_dearness {g : mm_G} (d : Nat) {a0 : Nat} {i1 : Int32} {i2 : Int32} {σ : mm_S} {res : Int32 × mm_S} (h_a0 : (mm_K a0).1 = 1) (h : f_X1_dearness a0 i1 i2 σ = some res) : SM g (d + 0) yy_X1_dearness [.ref a0, .int i1, .int i2] σ (.int res.1) res.2 := by
  refine s_of (by decide) (Nat.le_of_ble_eq_true rfl) (L := [(0, .ref a0), (1, .int i1), (2, .int i2)]) rfl ?_
  unfold f_X1_dearness at h
  refine e_iload_n 1 dX1_dearness_0 rfl rfl ?_
  refine e_bipush (v := (6 : Int32)) dX1_dearness_1 (by decide) ?_
  refine e_imul dX1_dearness_3 ?_
  refine e_iload_n 2 dX1_dearness_4 rfl rfl ?_
  refine e_iadd dX1_dearness_5 ?_
  obtain ⟨x6, q7, h⟩ := lt_some h
  refine s_nmi q7 ?_
  refine e_istore_n (L' := [(0, .ref a0), (1, .int i1), (2, .int i2), (3, .int x6)]) dX1_dearness_6 rfl (by decide) rfl ?_
  refine e_iload_n 3 dX1_dearness_7 rfl rfl ?_
  refine e_if_lt 29 dX1_dearness_8 (by decide) (fun c8 => ?_) (fun c8 => ?_)
  · rw [if_pos c8] at h
    refine e_iconst (v := (0 : Int32)) dX1_dearness_29 (by decide) ?_
    obtain rfl := Option.some.inj h
    exact s_ret rfl ⟨_, rfl, rfl⟩ dX1_dearness_30
  · rw [if_neg c8] at h
    refine e_iload_n 3 dX1_dearness_11 rfl rfl ?_
    refine e_aload_n 0 dX1_dearness_12 rfl rfl ?_
    refine s_getr dX1_dearness_13 fl_RX1_18 h_a0 (r_1_7 h_a0).1 ?_
    refine s_alen dX1_dearness_16 (r_1_7 (w := 0) h_a0).2 ⟨by decide, by decide⟩ rfl ?_
    refine e_icmp_ge 29 dX1_dearness_17 (by decide) (fun c9 => ?_) (fun c9 => ?_)
    · rw [if_pos c9] at h
      refine e_iconst (v := (0 : Int32)) dX1_dearness_29 (by decide) ?_
      obtain rfl := Option.some.inj h
      exact s_ret rfl ⟨_, rfl, rfl⟩ dX1_dearness_30
    · rw [if_neg c9] at h
      refine e_aload_n 0 dX1_dearness_20 rfl rfl ?_
      refine s_getr dX1_dearness_21 fl_RX1_18 h_a0 (r_1_7 h_a0).1 ?_
      refine e_iload_n 3 dX1_dearness_24 rfl rfl ?_
      obtain ⟨q10, h⟩ := gd_some h
      refine s_iald dX1_dearness_25 (r_1_7 (w := 0) h_a0).2 q10 ?_
      refine e_goto 30 dX1_dearness_26 (by decide) ?_
      obtain rfl := Option.some.inj h
      exact s_ret rfl ⟨_, rfl, rfl⟩ dX1_dearness_30
