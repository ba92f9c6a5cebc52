abbrev yy_X9_feed : mm_Y := (yX9_feed, cX9_feed, 6, (some .int))
theorem dX9_feed_0 : decode cX9_feed 0 = .ok (.aload_n 0, 1) := by decide +kernel
theorem dX9_feed_1 : decode cX9_feed 1 = .ok (.getfield 12, 3) := by decide +kernel
theorem dX9_feed_4 : decode cX9_feed 4 = .ok (.getfield 91, 3) := by decide +kernel
theorem dX9_feed_7 : decode cX9_feed 7 = .ok (.bipush 20, 2) := by decide +kernel
theorem dX9_feed_9 : decode cX9_feed 9 = .ok (.iadd, 1) := by decide +kernel
theorem dX9_feed_10 : decode cX9_feed 10 = .ok (.sipush 400, 3) := by decide +kernel
theorem dX9_feed_13 : decode cX9_feed 13 = .ok (.if_icmp .le 5, 3) := by decide +kernel
theorem dX9_feed_16 : decode cX9_feed 16 = .ok (.iconst (-1), 1) := by decide +kernel
theorem dX9_feed_17 : decode cX9_feed 17 = .ok (.ireturn, 1) := by decide +kernel
theorem dX9_feed_18 : decode cX9_feed 18 = .ok (.aload_n 0, 1) := by decide +kernel
theorem dX9_feed_19 : decode cX9_feed 19 = .ok (.getfield 12, 3) := by decide +kernel
theorem dX9_feed_22 : decode cX9_feed 22 = .ok (.iload_n 1, 1) := by decide +kernel
theorem dX9_feed_23 : decode cX9_feed 23 = .ok (.invokevirtual 94, 3) := by decide +kernel
theorem dX9_feed_26 : decode cX9_feed 26 = .ok (.aload_n 0, 1) := by decide +kernel
theorem dX9_feed_27 : decode cX9_feed 27 = .ok (.getfield 12, 3) := by decide +kernel
theorem dX9_feed_30 : decode cX9_feed 30 = .ok (.iload_n 2, 1) := by decide +kernel
theorem dX9_feed_31 : decode cX9_feed 31 = .ok (.invokevirtual 94, 3) := by decide +kernel
theorem dX9_feed_34 : decode cX9_feed 34 = .ok (.aload_n 0, 1) := by decide +kernel
theorem dX9_feed_35 : decode cX9_feed 35 = .ok (.getfield 12, 3) := by decide +kernel
theorem dX9_feed_38 : decode cX9_feed 38 = .ok (.iload_n 3, 1) := by decide +kernel
theorem dX9_feed_39 : decode cX9_feed 39 = .ok (.invokevirtual 94, 3) := by decide +kernel
theorem dX9_feed_42 : decode cX9_feed 42 = .ok (.aload_n 0, 1) := by decide +kernel
theorem dX9_feed_43 : decode cX9_feed 43 = .ok (.getfield 12, 3) := by decide +kernel
theorem dX9_feed_46 : decode cX9_feed 46 = .ok (.iload 4, 2) := by decide +kernel
theorem dX9_feed_48 : decode cX9_feed 48 = .ok (.invokevirtual 94, 3) := by decide +kernel
theorem dX9_feed_51 : decode cX9_feed 51 = .ok (.aload_n 0, 1) := by decide +kernel
theorem dX9_feed_52 : decode cX9_feed 52 = .ok (.getfield 12, 3) := by decide +kernel
theorem dX9_feed_55 : decode cX9_feed 55 = .ok (.iload 5, 2) := by decide +kernel
theorem dX9_feed_57 : decode cX9_feed 57 = .ok (.invokevirtual 94, 3) := by decide +kernel
theorem dX9_feed_60 : decode cX9_feed 60 = .ok (.aload_n 0, 1) := by decide +kernel
theorem dX9_feed_61 : decode cX9_feed 61 = .ok (.getfield 12, 3) := by decide +kernel
theorem dX9_feed_64 : decode cX9_feed 64 = .ok (.getfield 91, 3) := by decide +kernel
theorem dX9_feed_67 : decode cX9_feed 67 = .ok (.ireturn, 1) := by decide +kernel
def f_X9_feed (a0 : Nat) (i1 : Int32) (i2 : Int32) (i3 : Int32) (i4 : Int32) (i5 : Int32) (σ : mm_S) : Option (Int32 × mm_S) :=
    if ((σ.1 1 1) + (20 : Int32)) ≤ (400 : Int32) then
      bv (f_X6_addNumber 1 i1 σ) fun σ14 =>
      bv (f_X6_addNumber 1 i2 σ14) fun σ16 =>
      bv (f_X6_addNumber 1 i3 σ16) fun σ18 =>
      bv (f_X6_addNumber 1 i4 σ18) fun σ20 =>
      bv (f_X6_addNumber 1 i5 σ20) fun σ22 =>
      some ((σ22.1 1 1), σ22)
    else
      some ((-1 : Int32), σ)
theorem v_X9_feed {g : mm_G} (d : Nat) {a0 : Nat} {i1 : Int32} {i2 : Int32} {i3 : Int32} {i4 : Int32} {i5 : Int32} {σ : mm_S} {res : Int32 × mm_S} (h_a0 : (mm_K a0).1 = 9) (h : f_X9_feed a0 i1 i2 i3 i4 i5 σ = some res) : SM g (d + 1) yy_X9_feed [.ref a0, .int i1, .int i2, .int i3, .int i4, .int i5] σ (.int res.1) res.2 := by
  refine s_of (by decide) (Nat.le_of_ble_eq_true rfl) (L := [(0, .ref a0), (1, .int i1), (2, .int i2), (3, .int i3), (4, .int i4), (5, .int i5)]) rfl ?_
  unfold f_X9_feed at h
  refine e_aload_n 0 dX9_feed_0 rfl rfl ?_
  refine s_getr dX9_feed_1 fl_RX9_12 h_a0 (r_9_0 h_a0).1 ?_
  refine s_geti dX9_feed_4 fl_RX9_91 (ka_1 (r_9_0 (w := 0) h_a0).2) ?_
  refine e_bipush (v := (20 : Int32)) dX9_feed_7 (by decide) ?_
  refine e_iadd dX9_feed_9 ?_
  refine e_sipush (v := (400 : Int32)) dX9_feed_10 (by decide) ?_
  refine e_icmp_le 18 dX9_feed_13 (by decide) (fun c12 => ?_) (fun c12 => ?_)
  · rw [if_pos c12] at h
    refine e_aload_n 0 dX9_feed_18 rfl rfl ?_
    refine s_getr dX9_feed_19 fl_RX9_12 h_a0 (r_9_0 h_a0).1 ?_
    refine e_iload_n 1 dX9_feed_22 rfl rfl ?_
    obtain ⟨σ14, q13, h⟩ := bv_some h
    refine s_callVv [.int i1] dX9_feed_23 ml_RX9_94 (ka_1 (r_9_0 (w := 0) h_a0).2) rfl rfl (v_X6_addNumber (d + 0) (ka_1 (r_9_0 (w := 0) h_a0).2) q13) (Nat.le_of_ble_eq_true rfl) ?_
    refine e_aload_n 0 dX9_feed_26 rfl rfl ?_
    refine s_getr dX9_feed_27 fl_RX9_12 h_a0 (r_9_0 h_a0).1 ?_
    refine e_iload_n 2 dX9_feed_30 rfl rfl ?_
    obtain ⟨σ16, q15, h⟩ := bv_some h
    refine s_callVv [.int i2] dX9_feed_31 ml_RX9_94 (ka_1 (r_9_0 (w := 0) h_a0).2) rfl rfl (v_X6_addNumber (d + 0) (ka_1 (r_9_0 (w := 0) h_a0).2) q15) (Nat.le_of_ble_eq_true rfl) ?_
    refine e_aload_n 0 dX9_feed_34 rfl rfl ?_
    refine s_getr dX9_feed_35 fl_RX9_12 h_a0 (r_9_0 h_a0).1 ?_
    refine e_iload_n 3 dX9_feed_38 rfl rfl ?_
    obtain ⟨σ18, q17, h⟩ := bv_some h
    refine s_callVv [.int i3] dX9_feed_39 ml_RX9_94 (ka_1 (r_9_0 (w := 0) h_a0).2) rfl rfl (v_X6_addNumber (d + 0) (ka_1 (r_9_0 (w := 0) h_a0).2) q17) (Nat.le_of_ble_eq_true rfl) ?_
    refine e_aload_n 0 dX9_feed_42 rfl rfl ?_
    refine s_getr dX9_feed_43 fl_RX9_12 h_a0 (r_9_0 h_a0).1 ?_
    refine e_iload 4 dX9_feed_46  rfl ?_
    obtain ⟨σ20, q19, h⟩ := bv_some h
    refine s_callVv [.int i4] dX9_feed_48 ml_RX9_94 (ka_1 (r_9_0 (w := 0) h_a0).2) rfl rfl (v_X6_addNumber (d + 0) (ka_1 (r_9_0 (w := 0) h_a0).2) q19) (Nat.le_of_ble_eq_true rfl) ?_
    refine e_aload_n 0 dX9_feed_51 rfl rfl ?_
    refine s_getr dX9_feed_52 fl_RX9_12 h_a0 (r_9_0 h_a0).1 ?_
    refine e_iload 5 dX9_feed_55  rfl ?_
    obtain ⟨σ22, q21, h⟩ := bv_some h
    refine s_callVv [.int i5] dX9_feed_57 ml_RX9_94 (ka_1 (r_9_0 (w := 0) h_a0).2) rfl rfl (v_X6_addNumber (d + 0) (ka_1 (r_9_0 (w := 0) h_a0).2) q21) (Nat.le_of_ble_eq_true rfl) ?_
    refine e_aload_n 0 dX9_feed_60 rfl rfl ?_
    refine s_getr dX9_feed_61 fl_RX9_12 h_a0 (r_9_0 h_a0).1 ?_
    refine s_geti dX9_feed_64 fl_RX9_91 (ka_1 (r_9_0 (w := 0) h_a0).2) ?_
    obtain rfl := Option.some.inj h
    exact s_ret rfl ⟨_, rfl, rfl⟩ dX9_feed_67
  · rw [if_neg c12] at h
    refine e_iconst (v := (-1 : Int32)) dX9_feed_16 (by decide) ?_
    obtain rfl := Option.some.inj h
    exact s_ret rfl ⟨_, rfl, rfl⟩ dX9_feed_17
abbrev yy_X9_end : mm_Y := (yX9_end, cX9_end, 2, (some .int))
theorem dX9_end_0 : decode cX9_end 0 = .ok (.iload_n 1, 1) := by decide +kernel
theorem dX9_end_1 : decode cX9_end 1 = .ok (.ifCond .lt 14, 3) := by decide +kernel
theorem dX9_end_4 : decode cX9_end 4 = .ok (.iload_n 1, 1) := by decide +kernel
theorem dX9_end_5 : decode cX9_end 5 = .ok (.aload_n 0, 1) := by decide +kernel
theorem dX9_end_6 : decode cX9_end 6 = .ok (.getfield 12, 3) := by decide +kernel
theorem dX9_end_9 : decode cX9_end 9 = .ok (.getfield 91, 3) := by decide +kernel
theorem dX9_end_12 : decode cX9_end 12 = .ok (.if_icmp .le 5, 3) := by decide +kernel
theorem dX9_end_15 : decode cX9_end 15 = .ok (.iconst (-1), 1) := by decide +kernel
theorem dX9_end_16 : decode cX9_end 16 = .ok (.ireturn, 1) := by decide +kernel
theorem dX9_end_17 : decode cX9_end 17 = .ok (.aload_n 0, 1) := by decide +kernel
theorem dX9_end_18 : decode cX9_end 18 = .ok (.getfield 12, 3) := by decide +kernel
theorem dX9_end_21 : decode cX9_end 21 = .ok (.iload_n 1, 1) := by decide +kernel
theorem dX9_end_22 : decode cX9_end 22 = .ok (.putfield 91, 3) := by decide +kernel
theorem dX9_end_25 : decode cX9_end 25 = .ok (.iload_n 1, 1) := by decide +kernel
theorem dX9_end_26 : decode cX9_end 26 = .ok (.ireturn, 1) := by decide +kernel
def f_X9_end (a0 : Nat) (i1 : Int32) (σ : mm_S) : Option (Int32 × mm_S) :=
    if i1 < 0 then
      some ((-1 : Int32), σ)
    else
      if i1 ≤ (σ.1 1 1) then
        lt (su_i σ 1 1 i1) fun σ7 =>
        some (i1, σ7)
      else
        some ((-1 : Int32), σ)
theorem v_X9_end {g : mm_G} (d : Nat) {a0 : Nat} {i1 : Int32} {σ : mm_S} {res : Int32 × mm_S} (h_a0 : (mm_K a0).1 = 9) (h : f_X9_end a0 i1 σ = some res) : SM g (d + 0) yy_X9_end [.ref a0, .int i1] σ (.int res.1) res.2 := by
  refine s_of (by decide) (Nat.le_of_ble_eq_true rfl) (L := [(0, .ref a0), (1, .int i1)]) rfl ?_
  unfold f_X9_end at h
  refine e_iload_n 1 dX9_end_0 rfl rfl ?_
  refine e_if_lt 15 dX9_end_1 (by decide) (fun c5 => ?_) (fun c5 => ?_)
  · rw [if_pos c5] at h
    refine e_iconst (v := (-1 : Int32)) dX9_end_15 (by decide) ?_
    obtain rfl := Option.some.inj h
    exact s_ret rfl ⟨_, rfl, rfl⟩ dX9_end_16
  · rw [if_neg c5] at h
    refine e_iload_n 1 dX9_end_4 rfl rfl ?_
    refine e_aload_n 0 dX9_end_5 rfl rfl ?_
    refine s_getr dX9_end_6 fl_RX9_12 h_a0 (r_9_0 h_a0).1 ?_
    refine s_geti dX9_end_9 fl_RX9_91 (ka_1 (r_9_0 (w := 0) h_a0).2) ?_
    refine e_icmp_le 17 dX9_end_12 (by decide) (fun c6 => ?_) (fun c6 => ?_)
    · rw [if_pos c6] at h
      refine e_aload_n 0 dX9_end_17 rfl rfl ?_
      refine s_getr dX9_end_18 fl_RX9_12 h_a0 (r_9_0 h_a0).1 ?_
      refine e_iload_n 1 dX9_end_21 rfl rfl ?_
      refine s_puti dX9_end_22 fl_RX9_91 (ka_1 (r_9_0 (w := 0) h_a0).2) rfl rfl rfl ?_
      obtain ⟨σ7, q8, h⟩ := lt_some h
      refine s_nms q8 ?_
      refine e_iload_n 1 dX9_end_25 rfl rfl ?_
      obtain rfl := Option.some.inj h
      exact s_ret rfl ⟨_, rfl, rfl⟩ dX9_end_26
    · rw [if_neg c6] at h
      refine e_iconst (v := (-1 : Int32)) dX9_end_15 (by decide) ?_
      obtain rfl := Option.some.inj h
      exact s_ret rfl ⟨_, rfl, rfl⟩ dX9_end_16
abbrev yy_X9_house : mm_Y := (yX9_house, cX9_house, 1, (some .int))
theorem dX9_house_0 : decode cX9_house 0 = .ok (.aload_n 0, 1) := by decide +kernel
theorem dX9_house_1 : decode cX9_house 1 = .ok (.getfield 21, 3) := by decide +kernel
theorem dX9_house_4 : decode cX9_house 4 = .ok (.aload_n 0, 1) := by decide +kernel
theorem dX9_house_5 : decode cX9_house 5 = .ok (.getfield 28, 3) := by decide +kernel
theorem dX9_house_8 : decode cX9_house 8 = .ok (.invokevirtual 97, 3) := by decide +kernel
theorem dX9_house_11 : decode cX9_house 11 = .ok (.aload_n 0, 1) := by decide +kernel
theorem dX9_house_12 : decode cX9_house 12 = .ok (.getfield 12, 3) := by decide +kernel
theorem dX9_house_15 : decode cX9_house 15 = .ok (.iconst 0, 1) := by decide +kernel
theorem dX9_house_16 : decode cX9_house 16 = .ok (.putfield 91, 3) := by decide +kernel
theorem dX9_house_19 : decode cX9_house 19 = .ok (.aload_n 0, 1) := by decide +kernel
theorem dX9_house_20 : decode cX9_house 20 = .ok (.getfield 21, 3) := by decide +kernel
theorem dX9_house_23 : decode cX9_house 23 = .ok (.getfield 101, 3) := by decide +kernel
theorem dX9_house_26 : decode cX9_house 26 = .ok (.ifCond .eq 14, 3) := by decide +kernel
theorem dX9_house_29 : decode cX9_house 29 = .ok (.bipush (-2), 2) := by decide +kernel
theorem dX9_house_31 : decode cX9_house 31 = .ok (.aload_n 0, 1) := by decide +kernel
theorem dX9_house_32 : decode cX9_house 32 = .ok (.getfield 21, 3) := by decide +kernel
theorem dX9_house_35 : decode cX9_house 35 = .ok (.getfield 101, 3) := by decide +kernel
theorem dX9_house_38 : decode cX9_house 38 = .ok (.isub, 1) := by decide +kernel
theorem dX9_house_39 : decode cX9_house 39 = .ok (.ireturn, 1) := by decide +kernel
theorem dX9_house_40 : decode cX9_house 40 = .ok (.aload_n 0, 1) := by decide +kernel
theorem dX9_house_41 : decode cX9_house 41 = .ok (.getfield 50, 3) := by decide +kernel
theorem dX9_house_44 : decode cX9_house 44 = .ok (.getfield 71, 3) := by decide +kernel
theorem dX9_house_47 : decode cX9_house 47 = .ok (.aload_n 0, 1) := by decide +kernel
theorem dX9_house_48 : decode cX9_house 48 = .ok (.getfield 28, 3) := by decide +kernel
theorem dX9_house_51 : decode cX9_house 51 = .ok (.invokevirtual 104, 3) := by decide +kernel
theorem dX9_house_54 : decode cX9_house 54 = .ok (.aload_n 0, 1) := by decide +kernel
theorem dX9_house_55 : decode cX9_house 55 = .ok (.getfield 50, 3) := by decide +kernel
theorem dX9_house_58 : decode cX9_house 58 = .ok (.getfield 107, 3) := by decide +kernel
theorem dX9_house_61 : decode cX9_house 61 = .ok (.aload_n 0, 1) := by decide +kernel
theorem dX9_house_62 : decode cX9_house 62 = .ok (.getfield 28, 3) := by decide +kernel
theorem dX9_house_65 : decode cX9_house 65 = .ok (.invokevirtual 111, 3) := by decide +kernel
theorem dX9_house_68 : decode cX9_house 68 = .ok (.aload_n 0, 1) := by decide +kernel
theorem dX9_house_69 : decode cX9_house 69 = .ok (.getfield 50, 3) := by decide +kernel
theorem dX9_house_72 : decode cX9_house 72 = .ok (.getfield 116, 3) := by decide +kernel
theorem dX9_house_75 : decode cX9_house 75 = .ok (.iconst 0, 1) := by decide +kernel
theorem dX9_house_76 : decode cX9_house 76 = .ok (.putfield 120, 3) := by decide +kernel
theorem dX9_house_79 : decode cX9_house 79 = .ok (.aload_n 0, 1) := by decide +kernel
theorem dX9_house_80 : decode cX9_house 80 = .ok (.getfield 65, 3) := by decide +kernel
theorem dX9_house_83 : decode cX9_house 83 = .ok (.invokevirtual 125, 3) := by decide +kernel
theorem dX9_house_86 : decode cX9_house 86 = .ok (.aload_n 0, 1) := by decide +kernel
theorem dX9_house_87 : decode cX9_house 87 = .ok (.getfield 28, 3) := by decide +kernel
theorem dX9_house_90 : decode cX9_house 90 = .ok (.getfield 128, 3) := by decide +kernel
theorem dX9_house_93 : decode cX9_house 93 = .ok (.ireturn, 1) := by decide +kernel
def f_X9_house (a0 : Nat) (σ : mm_S) : Option (Int32 × mm_S) :=
    bv (f_X4_readHouse 3 7 σ) fun σ15 =>
    lt (su_i σ15 1 1 (0 : Int32)) fun σ16 =>
    if (σ16.1 3 9) = 0 then
      bv (f_X1_take (26 + 1) 7 σ16) fun σ20 =>
      bv (f_X2_begin (26 + 5) 7 σ20) fun σ22 =>
      lt (su_i σ22 (26 + 10) 0 (0 : Int32)) fun σ23 =>
      bv (f_X0_forget 98 σ23) fun σ26 =>
      some ((σ26.1 7 3), σ26)
    else
      some (((-2 : Int32) - (σ16.1 3 9)), σ16)
theorem v_X9_house {g : mm_G} (d : Nat) {a0 : Nat} {σ : mm_S} {res : Int32 × mm_S} (h_a0 : (mm_K a0).1 = 9) (h : f_X9_house a0 σ = some res) : SM g (d + 8) yy_X9_house [.ref a0] σ (.int res.1) res.2 := by
  refine s_of (by decide) (Nat.le_of_ble_eq_true rfl) (L := [(0, .ref a0)]) rfl ?_
  unfold f_X9_house at h
  refine e_aload_n 0 dX9_house_0 rfl rfl ?_
  refine s_getr dX9_house_1 fl_RX9_21 h_a0 (r_9_1 h_a0).1 ?_
  refine e_aload_n 0 dX9_house_4 rfl rfl ?_
  refine s_getr dX9_house_5 fl_RX9_28 h_a0 (r_9_2 h_a0).1 ?_
  obtain ⟨σ15, q14, h⟩ := bv_some h
  refine s_callVv [.ref 7] dX9_house_8 ml_RX9_97 (ka_1 (r_9_1 (w := 0) h_a0).2) rfl rfl (v_X4_readHouse (d + 0) (ka_1 (r_9_1 (w := 0) h_a0).2) (ka_1 (r_9_2 (w := 0) h_a0).2) q14) (Nat.le_of_ble_eq_true rfl) ?_
  refine e_aload_n 0 dX9_house_11 rfl rfl ?_
  refine s_getr dX9_house_12 fl_RX9_12 h_a0 (r_9_0 h_a0).1 ?_
  refine e_iconst (v := (0 : Int32)) dX9_house_15 (by decide) ?_
  refine s_puti dX9_house_16 fl_RX9_91 (ka_1 (r_9_0 (w := 0) h_a0).2) rfl rfl rfl ?_
  obtain ⟨σ16, q17, h⟩ := lt_some h
  refine s_nms q17 ?_
  refine e_aload_n 0 dX9_house_19 rfl rfl ?_
  refine s_getr dX9_house_20 fl_RX9_21 h_a0 (r_9_1 h_a0).1 ?_
  refine s_geti dX9_house_23 fl_RX9_101 (ka_1 (r_9_1 (w := 0) h_a0).2) ?_
  refine e_if_eq 40 dX9_house_26 (by decide) (fun c18 => ?_) (fun c18 => ?_)
  · rw [if_pos c18] at h
    refine e_aload_n 0 dX9_house_40 rfl rfl ?_
    refine s_getr dX9_house_41 fl_RX9_50 h_a0 (r_9_5 h_a0).1 ?_
    refine s_getr dX9_house_44 fl_RX9_71 (ka_1 (r_9_5 (w := 0) h_a0).2) (r_8_0 (ka_1 (r_9_5 (w := 0) h_a0).2)).1 ?_
    refine e_aload_n 0 dX9_house_47 rfl rfl ?_
    refine s_getr dX9_house_48 fl_RX9_28 h_a0 (r_9_2 h_a0).1 ?_
    obtain ⟨σ20, q19, h⟩ := bv_some h
    refine s_callVv [.ref 7] dX9_house_51 ml_RX9_104 (ka_1 (r_8_0 (w := 0) (ka_1 (r_9_5 (w := 0) h_a0).2)).2) rfl rfl (v_X1_take (d + 6) (ka_1 (r_8_0 (w := 0) (ka_1 (r_9_5 (w := 0) h_a0).2)).2) (ka_1 (r_9_2 (w := 0) h_a0).2) q19) (Nat.le_of_ble_eq_true rfl) ?_
    refine e_aload_n 0 dX9_house_54 rfl rfl ?_
    refine s_getr dX9_house_55 fl_RX9_50 h_a0 (r_9_5 h_a0).1 ?_
    refine s_getr dX9_house_58 fl_RX9_107 (ka_1 (r_9_5 (w := 0) h_a0).2) (r_8_1 (ka_1 (r_9_5 (w := 0) h_a0).2)).1 ?_
    refine e_aload_n 0 dX9_house_61 rfl rfl ?_
    refine s_getr dX9_house_62 fl_RX9_28 h_a0 (r_9_2 h_a0).1 ?_
    obtain ⟨σ22, q21, h⟩ := bv_some h
    refine s_callVv [.ref 7] dX9_house_65 ml_RX9_111 (ka_1 (r_8_1 (w := 0) (ka_1 (r_9_5 (w := 0) h_a0).2)).2) rfl rfl (v_X2_begin (d + 6) (ka_1 (r_8_1 (w := 0) (ka_1 (r_9_5 (w := 0) h_a0).2)).2) (ka_1 (r_9_2 (w := 0) h_a0).2) q21) (Nat.le_of_ble_eq_true rfl) ?_
    refine e_aload_n 0 dX9_house_68 rfl rfl ?_
    refine s_getr dX9_house_69 fl_RX9_50 h_a0 (r_9_5 h_a0).1 ?_
    refine s_getr dX9_house_72 fl_RX9_116 (ka_1 (r_9_5 (w := 0) h_a0).2) (r_8_2 (ka_1 (r_9_5 (w := 0) h_a0).2)).1 ?_
    refine e_iconst (v := (0 : Int32)) dX9_house_75 (by decide) ?_
    refine s_puti dX9_house_76 fl_RX9_120 (ka_1 (r_8_2 (w := 0) (ka_1 (r_9_5 (w := 0) h_a0).2)).2) rfl rfl rfl ?_
    obtain ⟨σ23, q24, h⟩ := lt_some h
    refine s_nms q24 ?_
    refine e_aload_n 0 dX9_house_79 rfl rfl ?_
    refine s_getr dX9_house_80 fl_RX9_65 h_a0 (r_9_8 h_a0).1 ?_
    obtain ⟨σ26, q25, h⟩ := bv_some h
    refine s_callVv [] dX9_house_83 ml_RX9_125 (ka_1 (r_9_8 (w := 0) h_a0).2) rfl rfl (v_X0_forget (d + 7) (ka_1 (r_9_8 (w := 0) h_a0).2) q25) (Nat.le_of_ble_eq_true rfl) ?_
    refine e_aload_n 0 dX9_house_86 rfl rfl ?_
    refine s_getr dX9_house_87 fl_RX9_28 h_a0 (r_9_2 h_a0).1 ?_
    refine s_geti dX9_house_90 fl_RX9_128 (ka_1 (r_9_2 (w := 0) h_a0).2) ?_
    obtain rfl := Option.some.inj h
    exact s_ret rfl ⟨_, rfl, rfl⟩ dX9_house_93
  · rw [if_neg c18] at h
    refine e_bipush (v := (-2 : Int32)) dX9_house_29 (by decide) ?_
    refine e_aload_n 0 dX9_house_31 rfl rfl ?_
    refine s_getr dX9_house_32 fl_RX9_21 h_a0 (r_9_1 h_a0).1 ?_
    refine s_geti dX9_house_35 fl_RX9_101 (ka_1 (r_9_1 (w := 0) h_a0).2) ?_
    refine e_isub dX9_house_38 ?_
    obtain rfl := Option.some.inj h
    exact s_ret rfl ⟨_, rfl, rfl⟩ dX9_house_39
abbrev yy_X9_rule : mm_Y := (yX9_rule, cX9_rule, 1, (some .int))
theorem dX9_rule_0 : decode cX9_rule 0 = .ok (.aload_n 0, 1) := by decide +kernel
theorem dX9_rule_1 : decode cX9_rule 1 = .ok (.getfield 43, 3) := by decide +kernel
theorem dX9_rule_4 : decode cX9_rule 4 = .ok (.bipush 6, 2) := by decide +kernel
theorem dX9_rule_6 : decode cX9_rule 6 = .ok (.if_icmp .lt 5, 3) := by decide +kernel
theorem dX9_rule_9 : decode cX9_rule 9 = .ok (.iconst (-1), 1) := by decide +kernel
theorem dX9_rule_10 : decode cX9_rule 10 = .ok (.ireturn, 1) := by decide +kernel
theorem dX9_rule_11 : decode cX9_rule 11 = .ok (.aload_n 0, 1) := by decide +kernel
theorem dX9_rule_12 : decode cX9_rule 12 = .ok (.getfield 21, 3) := by decide +kernel
theorem dX9_rule_15 : decode cX9_rule 15 = .ok (.aload_n 0, 1) := by decide +kernel
theorem dX9_rule_16 : decode cX9_rule 16 = .ok (.getfield 34, 3) := by decide +kernel
theorem dX9_rule_19 : decode cX9_rule 19 = .ok (.aload_n 0, 1) := by decide +kernel
theorem dX9_rule_20 : decode cX9_rule 20 = .ok (.getfield 43, 3) := by decide +kernel
theorem dX9_rule_23 : decode cX9_rule 23 = .ok (.iconst 1, 1) := by decide +kernel
theorem dX9_rule_24 : decode cX9_rule 24 = .ok (.iadd, 1) := by decide +kernel
theorem dX9_rule_25 : decode cX9_rule 25 = .ok (.aaload, 1) := by decide +kernel
theorem dX9_rule_26 : decode cX9_rule 26 = .ok (.invokevirtual 131, 3) := by decide +kernel
theorem dX9_rule_29 : decode cX9_rule 29 = .ok (.aload_n 0, 1) := by decide +kernel
theorem dX9_rule_30 : decode cX9_rule 30 = .ok (.getfield 12, 3) := by decide +kernel
theorem dX9_rule_33 : decode cX9_rule 33 = .ok (.iconst 0, 1) := by decide +kernel
theorem dX9_rule_34 : decode cX9_rule 34 = .ok (.putfield 91, 3) := by decide +kernel
theorem dX9_rule_37 : decode cX9_rule 37 = .ok (.aload_n 0, 1) := by decide +kernel
theorem dX9_rule_38 : decode cX9_rule 38 = .ok (.getfield 21, 3) := by decide +kernel
theorem dX9_rule_41 : decode cX9_rule 41 = .ok (.getfield 101, 3) := by decide +kernel
theorem dX9_rule_44 : decode cX9_rule 44 = .ok (.ifCond .eq 14, 3) := by decide +kernel
theorem dX9_rule_47 : decode cX9_rule 47 = .ok (.bipush (-2), 2) := by decide +kernel
theorem dX9_rule_49 : decode cX9_rule 49 = .ok (.aload_n 0, 1) := by decide +kernel
theorem dX9_rule_50 : decode cX9_rule 50 = .ok (.getfield 21, 3) := by decide +kernel
theorem dX9_rule_53 : decode cX9_rule 53 = .ok (.getfield 101, 3) := by decide +kernel
theorem dX9_rule_56 : decode cX9_rule 56 = .ok (.isub, 1) := by decide +kernel
theorem dX9_rule_57 : decode cX9_rule 57 = .ok (.ireturn, 1) := by decide +kernel
theorem dX9_rule_58 : decode cX9_rule 58 = .ok (.aload_n 0, 1) := by decide +kernel
theorem dX9_rule_59 : decode cX9_rule 59 = .ok (.dup, 1) := by decide +kernel
theorem dX9_rule_60 : decode cX9_rule 60 = .ok (.getfield 43, 3) := by decide +kernel
theorem dX9_rule_63 : decode cX9_rule 63 = .ok (.iconst 1, 1) := by decide +kernel
theorem dX9_rule_64 : decode cX9_rule 64 = .ok (.iadd, 1) := by decide +kernel
theorem dX9_rule_65 : decode cX9_rule 65 = .ok (.putfield 43, 3) := by decide +kernel
theorem dX9_rule_68 : decode cX9_rule 68 = .ok (.aload_n 0, 1) := by decide +kernel
theorem dX9_rule_69 : decode cX9_rule 69 = .ok (.getfield 43, 3) := by decide +kernel
theorem dX9_rule_72 : decode cX9_rule 72 = .ok (.iconst 1, 1) := by decide +kernel
theorem dX9_rule_73 : decode cX9_rule 73 = .ok (.isub, 1) := by decide +kernel
theorem dX9_rule_74 : decode cX9_rule 74 = .ok (.ireturn, 1) := by decide +kernel
def f_X9_rule (a0 : Nat) (σ : mm_S) : Option (Int32 × mm_S) :=
    if (σ.1 a0 4) < (6 : Int32) then
      gd ((σ.1 a0 4) + (1 : Int32)) 7 <|
      bv (f_X4_readRule 3 (12 + 2 * ((σ.1 a0 4) + (1 : Int32)).toNatClampNeg) σ) fun σ13 =>
      lt (su_i σ13 1 1 (0 : Int32)) fun σ14 =>
      if (σ14.1 3 9) = 0 then
        lt (su_i σ14 a0 4 ((σ14.1 a0 4) + (1 : Int32))) fun σ17 =>
        some (((σ17.1 a0 4) - (1 : Int32)), σ17)
      else
        some (((-2 : Int32) - (σ14.1 3 9)), σ14)
    else
      some ((-1 : Int32), σ)
theorem v_X9_rule {g : mm_G} (d : Nat) {a0 : Nat} {σ : mm_S} {res : Int32 × mm_S} (h_a0 : (mm_K a0).1 = 9) (h : f_X9_rule a0 σ = some res) : SM g (d + 45) yy_X9_rule [.ref a0] σ (.int res.1) res.2 := by
  refine s_of (by decide) (Nat.le_of_ble_eq_true rfl) (L := [(0, .ref a0)]) rfl ?_
  unfold f_X9_rule at h
  refine e_aload_n 0 dX9_rule_0 rfl rfl ?_
  refine s_geti dX9_rule_1 fl_RX9_43 h_a0 ?_
  refine e_bipush (v := (6 : Int32)) dX9_rule_4 (by decide) ?_
  refine e_icmp_lt 11 dX9_rule_6 (by decide) (fun c10 => ?_) (fun c10 => ?_)
  · rw [if_pos c10] at h
    refine e_aload_n 0 dX9_rule_11 rfl rfl ?_
    refine s_getr dX9_rule_12 fl_RX9_21 h_a0 (r_9_1 h_a0).1 ?_
    refine e_aload_n 0 dX9_rule_15 rfl rfl ?_
    refine s_getr dX9_rule_16 fl_RX9_34 h_a0 (r_9_3 h_a0).1 ?_
    refine e_aload_n 0 dX9_rule_19 rfl rfl ?_
    refine s_geti dX9_rule_20 fl_RX9_43 h_a0 ?_
    refine e_iconst (v := (1 : Int32)) dX9_rule_23 (by decide) ?_
    refine e_iadd dX9_rule_24 ?_
    obtain ⟨q11, h⟩ := gd_some h
    refine s_aald16 dX9_rule_25 (ka_1 (r_9_3 (w := 0) h_a0).2) q11 ?_
    obtain ⟨σ13, q12, h⟩ := bv_some h
    refine s_callVv [.ref (12 + 2 * ((σ.1 a0 4) + (1 : Int32)).toNatClampNeg)] dX9_rule_26 ml_RX9_131 (ka_1 (r_9_1 (w := 0) h_a0).2) rfl rfl (v_X4_readRule (d + 0) (ka_1 (r_9_1 (w := 0) h_a0).2) (r_a16 (w := 0) (ka_1 (r_9_3 (w := 0) h_a0).2) (vin_lt q11)).2.1 q12) (Nat.le_of_ble_eq_true rfl) ?_
    refine e_aload_n 0 dX9_rule_29 rfl rfl ?_
    refine s_getr dX9_rule_30 fl_RX9_12 h_a0 (r_9_0 h_a0).1 ?_
    refine e_iconst (v := (0 : Int32)) dX9_rule_33 (by decide) ?_
    refine s_puti dX9_rule_34 fl_RX9_91 (ka_1 (r_9_0 (w := 0) h_a0).2) rfl rfl rfl ?_
    obtain ⟨σ14, q15, h⟩ := lt_some h
    refine s_nms q15 ?_
    refine e_aload_n 0 dX9_rule_37 rfl rfl ?_
    refine s_getr dX9_rule_38 fl_RX9_21 h_a0 (r_9_1 h_a0).1 ?_
    refine s_geti dX9_rule_41 fl_RX9_101 (ka_1 (r_9_1 (w := 0) h_a0).2) ?_
    refine e_if_eq 58 dX9_rule_44 (by decide) (fun c16 => ?_) (fun c16 => ?_)
    · rw [if_pos c16] at h
      refine e_aload_n 0 dX9_rule_58 rfl rfl ?_
      refine e_dup dX9_rule_59 rfl ?_
      refine s_geti dX9_rule_60 fl_RX9_43 h_a0 ?_
      refine e_iconst (v := (1 : Int32)) dX9_rule_63 (by decide) ?_
      refine e_iadd dX9_rule_64 ?_
      refine s_puti dX9_rule_65 fl_RX9_43 h_a0 rfl rfl rfl ?_
      obtain ⟨σ17, q18, h⟩ := lt_some h
      refine s_nms q18 ?_
      refine e_aload_n 0 dX9_rule_68 rfl rfl ?_
      refine s_geti dX9_rule_69 fl_RX9_43 h_a0 ?_
      refine e_iconst (v := (1 : Int32)) dX9_rule_72 (by decide) ?_
      refine e_isub dX9_rule_73 ?_
      obtain rfl := Option.some.inj h
      exact s_ret rfl ⟨_, rfl, rfl⟩ dX9_rule_74
    · rw [if_neg c16] at h
      refine e_bipush (v := (-2 : Int32)) dX9_rule_47 (by decide) ?_
      refine e_aload_n 0 dX9_rule_49 rfl rfl ?_
      refine s_getr dX9_rule_50 fl_RX9_21 h_a0 (r_9_1 h_a0).1 ?_
      refine s_geti dX9_rule_53 fl_RX9_101 (ka_1 (r_9_1 (w := 0) h_a0).2) ?_
      refine e_isub dX9_rule_56 ?_
      obtain rfl := Option.some.inj h
      exact s_ret rfl ⟨_, rfl, rfl⟩ dX9_rule_57
  · rw [if_neg c10] at h
    refine e_iconst (v := (-1 : Int32)) dX9_rule_9 (by decide) ?_
    obtain rfl := Option.some.inj h
    exact s_ret rfl ⟨_, rfl, rfl⟩ dX9_rule_10
abbrev yy_X9_force : mm_Y := (yX9_force, cX9_force, 3, (some .int))
theorem dX9_force_0 : decode cX9_force 0 = .ok (.iload_n 1, 1) := by decide +kernel
theorem dX9_force_1 : decode cX9_force 1 = .ok (.iconst (-1), 1) := by decide +kernel
theorem dX9_force_2 : decode cX9_force 2 = .ok (.if_icmp .lt 11, 3) := by decide +kernel
theorem dX9_force_5 : decode cX9_force 5 = .ok (.iload_n 1, 1) := by decide +kernel
theorem dX9_force_6 : decode cX9_force 6 = .ok (.aload_n 0, 1) := by decide +kernel
theorem dX9_force_7 : decode cX9_force 7 = .ok (.getfield 43, 3) := by decide +kernel
theorem dX9_force_10 : decode cX9_force 10 = .ok (.if_icmp .lt 6, 3) := by decide +kernel
theorem dX9_force_13 : decode cX9_force 13 = .ok (.bipush (-2), 2) := by decide +kernel
theorem dX9_force_15 : decode cX9_force 15 = .ok (.ireturn, 1) := by decide +kernel
theorem dX9_force_16 : decode cX9_force 16 = .ok (.aload_n 0, 1) := by decide +kernel
theorem dX9_force_17 : decode cX9_force 17 = .ok (.getfield 50, 3) := by decide +kernel
theorem dX9_force_20 : decode cX9_force 20 = .ok (.getfield 135, 3) := by decide +kernel
theorem dX9_force_23 : decode cX9_force 23 = .ok (.istore_n 2, 1) := by decide +kernel
theorem dX9_force_24 : decode cX9_force 24 = .ok (.aload_n 0, 1) := by decide +kernel
theorem dX9_force_25 : decode cX9_force 25 = .ok (.getfield 50, 3) := by decide +kernel
theorem dX9_force_28 : decode cX9_force 28 = .ok (.iload_n 1, 1) := by decide +kernel
theorem dX9_force_29 : decode cX9_force 29 = .ok (.putfield 135, 3) := by decide +kernel
theorem dX9_force_32 : decode cX9_force 32 = .ok (.iload_n 2, 1) := by decide +kernel
theorem dX9_force_33 : decode cX9_force 33 = .ok (.ireturn, 1) := by decide +kernel
def f_X9_force (a0 : Nat) (i1 : Int32) (σ : mm_S) : Option (Int32 × mm_S) :=
    if i1 < (-1 : Int32) then
      some ((-2 : Int32), σ)
    else
      if i1 < (σ.1 a0 4) then
        lt ((σ.1 26 3)) fun x9 =>
        lt (su_i σ 26 3 i1) fun σ11 =>
        some (x9, σ11)
      else
        some ((-2 : Int32), σ)
theorem v_X9_force {g : mm_G} (d : Nat) {a0 : Nat} {i1 : Int32} {σ : mm_S} {res : Int32 × mm_S} (h_a0 : (mm_K a0).1 = 9) (h : f_X9_force a0 i1 σ = some res) : SM g (d + 0) yy_X9_force [.ref a0, .int i1] σ (.int res.1) res.2 := by
  refine s_of (by decide) (Nat.le_of_ble_eq_true rfl) (L := [(0, .ref a0), (1, .int i1)]) rfl ?_
  unfold f_X9_force at h
  refine e_iload_n 1 dX9_force_0 rfl rfl ?_
  refine e_iconst (v := (-1 : Int32)) dX9_force_1 (by decide) ?_
  refine e_icmp_lt 13 dX9_force_2 (by decide) (fun c7 => ?_) (fun c7 => ?_)
  · rw [if_pos c7] at h
    refine e_bipush (v := (-2 : Int32)) dX9_force_13 (by decide) ?_
    obtain rfl := Option.some.inj h
    exact s_ret rfl ⟨_, rfl, rfl⟩ dX9_force_15
  · rw [if_neg c7] at h
    refine e_iload_n 1 dX9_force_5 rfl rfl ?_
    refine e_aload_n 0 dX9_force_6 rfl rfl ?_
    refine s_geti dX9_force_7 fl_RX9_43 h_a0 ?_
    refine e_icmp_lt 16 dX9_force_10 (by decide) (fun c8 => ?_) (fun c8 => ?_)
    · rw [if_pos c8] at h
      refine e_aload_n 0 dX9_force_16 rfl rfl ?_
      refine s_getr dX9_force_17 fl_RX9_50 h_a0 (r_9_5 h_a0).1 ?_
      refine s_geti dX9_force_20 fl_RX9_135 (ka_1 (r_9_5 (w := 0) h_a0).2) ?_
      obtain ⟨x9, q10, h⟩ := lt_some h
      refine s_nmi q10 ?_
      refine e_istore_n (L' := [(0, .ref a0), (1, .int i1), (2, .int x9)]) dX9_force_23 rfl (by decide) rfl ?_
      refine e_aload_n 0 dX9_force_24 rfl rfl ?_
      refine s_getr dX9_force_25 fl_RX9_50 h_a0 (r_9_5 h_a0).1 ?_
      refine e_iload_n 1 dX9_force_28 rfl rfl ?_
      refine s_puti dX9_force_29 fl_RX9_135 (ka_1 (r_9_5 (w := 0) h_a0).2) rfl rfl rfl ?_
      obtain ⟨σ11, q12, h⟩ := lt_some h
      refine s_nms q12 ?_
      refine e_iload_n 2 dX9_force_32 rfl rfl ?_
      obtain rfl := Option.some.inj h
      exact s_ret rfl ⟨_, rfl, rfl⟩ dX9_force_33
    · rw [if_neg c8] at h
      refine e_bipush (v := (-2 : Int32)) dX9_force_13 (by decide) ?_
      obtain rfl := Option.some.inj h
      exact s_ret rfl ⟨_, rfl, rfl⟩ dX9_force_15
abbrev yy_X9_isLodger : mm_Y := (yX9_isLodger, cX9_isLodger, 2, (some .boolean))
theorem dX9_isLodger_0 : decode cX9_isLodger 0 = .ok (.iload_n 1, 1) := by decide +kernel
theorem dX9_isLodger_1 : decode cX9_isLodger 1 = .ok (.ifCond .lt 21, 3) := by decide +kernel
theorem dX9_isLodger_4 : decode cX9_isLodger 4 = .ok (.iload_n 1, 1) := by decide +kernel
theorem dX9_isLodger_5 : decode cX9_isLodger 5 = .ok (.aload_n 0, 1) := by decide +kernel
theorem dX9_isLodger_6 : decode cX9_isLodger 6 = .ok (.getfield 50, 3) := by decide +kernel
theorem dX9_isLodger_9 : decode cX9_isLodger 9 = .ok (.getfield 71, 3) := by decide +kernel
theorem dX9_isLodger_12 : decode cX9_isLodger 12 = .ok (.getfield 128, 3) := by decide +kernel
theorem dX9_isLodger_15 : decode cX9_isLodger 15 = .ok (.if_icmp .ge 7, 3) := by decide +kernel
theorem dX9_isLodger_18 : decode cX9_isLodger 18 = .ok (.iconst 1, 1) := by decide +kernel
theorem dX9_isLodger_19 : decode cX9_isLodger 19 = .ok (.goto 4, 3) := by decide +kernel
theorem dX9_isLodger_22 : decode cX9_isLodger 22 = .ok (.iconst 0, 1) := by decide +kernel
theorem dX9_isLodger_23 : decode cX9_isLodger 23 = .ok (.ireturn, 1) := by decide +kernel
def f_X9_isLodger (a0 : Nat) (i1 : Int32) (σ : mm_S) : Option (Int32 × mm_S) :=
    if i1 < 0 then
      some ((0 : Int32), σ)
    else
      if (σ.1 (26 + 1) 3) ≤ i1 then
        some ((0 : Int32), σ)
      else
        some ((1 : Int32), σ)
theorem v_X9_isLodger {g : mm_G} (d : Nat) {a0 : Nat} {i1 : Int32} {σ : mm_S} {res : Int32 × mm_S} (h_a0 : (mm_K a0).1 = 9) (h : f_X9_isLodger a0 i1 σ = some res) : SM g (d + 0) yy_X9_isLodger [.ref a0, .int i1] σ (.int res.1) res.2 := by
  refine s_of (by decide) (Nat.le_of_ble_eq_true rfl) (L := [(0, .ref a0), (1, .int i1)]) rfl ?_
  unfold f_X9_isLodger at h
  refine e_iload_n 1 dX9_isLodger_0 rfl rfl ?_
  refine e_if_lt 22 dX9_isLodger_1 (by decide) (fun c3 => ?_) (fun c3 => ?_)
  · rw [if_pos c3] at h
    refine e_iconst (v := (0 : Int32)) dX9_isLodger_22 (by decide) ?_
    obtain rfl := Option.some.inj h
    exact s_ret rfl ⟨_, rfl, nb1 (Or.inl rfl)⟩ dX9_isLodger_23
  · rw [if_neg c3] at h
    refine e_iload_n 1 dX9_isLodger_4 rfl rfl ?_
    refine e_aload_n 0 dX9_isLodger_5 rfl rfl ?_
    refine s_getr dX9_isLodger_6 fl_RX9_50 h_a0 (r_9_5 h_a0).1 ?_
    refine s_getr dX9_isLodger_9 fl_RX9_71 (ka_1 (r_9_5 (w := 0) h_a0).2) (r_8_0 (ka_1 (r_9_5 (w := 0) h_a0).2)).1 ?_
    refine s_geti dX9_isLodger_12 fl_RX9_128 (ka_1 (r_8_0 (w := 0) (ka_1 (r_9_5 (w := 0) h_a0).2)).2) ?_
    refine e_icmp_ge 22 dX9_isLodger_15 (by decide) (fun c4 => ?_) (fun c4 => ?_)
    · rw [if_pos c4] at h
      refine e_iconst (v := (0 : Int32)) dX9_isLodger_22 (by decide) ?_
      obtain rfl := Option.some.inj h
      exact s_ret rfl ⟨_, rfl, nb1 (Or.inl rfl)⟩ dX9_isLodger_23
    · rw [if_neg c4] at h
      refine e_iconst (v := (1 : Int32)) dX9_isLodger_18 (by decide) ?_
      refine e_goto 23 dX9_isLodger_19 (by decide) ?_
      obtain rfl := Option.some.inj h
      exact s_ret rfl ⟨_, rfl, nb1 (Or.inr rfl)⟩ dX9_isLodger_23
abbrev yy_X9_lodger : mm_Y := (yX9_lodger, cX9_lodger, 4, (some .int))
theorem dX9_lodger_0 : decode cX9_lodger 0 = .ok (.aload_n 0, 1) := by decide +kernel
theorem dX9_lodger_1 : decode cX9_lodger 1 = .ok (.iload_n 1, 1) := by decide +kernel
theorem dX9_lodger_2 : decode cX9_lodger 2 = .ok (.invokevirtual 138, 3) := by decide +kernel
theorem dX9_lodger_5 : decode cX9_lodger 5 = .ok (.ifCond .ne 6, 3) := by decide +kernel
theorem dX9_lodger_8 : decode cX9_lodger 8 = .ok (.bipush (-2), 2) := by decide +kernel
theorem dX9_lodger_10 : decode cX9_lodger 10 = .ok (.ireturn, 1) := by decide +kernel
theorem dX9_lodger_11 : decode cX9_lodger 11 = .ok (.aload_n 0, 1) := by decide +kernel
theorem dX9_lodger_12 : decode cX9_lodger 12 = .ok (.getfield 50, 3) := by decide +kernel
theorem dX9_lodger_15 : decode cX9_lodger 15 = .ok (.getfield 107, 3) := by decide +kernel
theorem dX9_lodger_18 : decode cX9_lodger 18 = .ok (.astore_n 3, 1) := by decide +kernel
theorem dX9_lodger_19 : decode cX9_lodger 19 = .ok (.iload_n 2, 1) := by decide +kernel
theorem dX9_lodger_20 : decode cX9_lodger 20 = .ok (.tableswitch 78 0 4 #[36, 43, 50, 64, 71], 36) := by decide +kernel
theorem dX9_lodger_56 : decode cX9_lodger 56 = .ok (.aload_n 3, 1) := by decide +kernel
theorem dX9_lodger_57 : decode cX9_lodger 57 = .ok (.getfield 142, 3) := by decide +kernel
theorem dX9_lodger_60 : decode cX9_lodger 60 = .ok (.iload_n 1, 1) := by decide +kernel
theorem dX9_lodger_61 : decode cX9_lodger 61 = .ok (.iaload, 1) := by decide +kernel
theorem dX9_lodger_62 : decode cX9_lodger 62 = .ok (.ireturn, 1) := by decide +kernel
theorem dX9_lodger_63 : decode cX9_lodger 63 = .ok (.aload_n 3, 1) := by decide +kernel
theorem dX9_lodger_64 : decode cX9_lodger 64 = .ok (.getfield 145, 3) := by decide +kernel
theorem dX9_lodger_67 : decode cX9_lodger 67 = .ok (.iload_n 1, 1) := by decide +kernel
theorem dX9_lodger_68 : decode cX9_lodger 68 = .ok (.iaload, 1) := by decide +kernel
theorem dX9_lodger_69 : decode cX9_lodger 69 = .ok (.ireturn, 1) := by decide +kernel
theorem dX9_lodger_70 : decode cX9_lodger 70 = .ok (.aload_n 3, 1) := by decide +kernel
theorem dX9_lodger_71 : decode cX9_lodger 71 = .ok (.iload_n 1, 1) := by decide +kernel
theorem dX9_lodger_72 : decode cX9_lodger 72 = .ok (.invokevirtual 148, 3) := by decide +kernel
theorem dX9_lodger_75 : decode cX9_lodger 75 = .ok (.ifCond .eq 7, 3) := by decide +kernel
theorem dX9_lodger_78 : decode cX9_lodger 78 = .ok (.iconst 1, 1) := by decide +kernel
theorem dX9_lodger_79 : decode cX9_lodger 79 = .ok (.goto 4, 3) := by decide +kernel
theorem dX9_lodger_82 : decode cX9_lodger 82 = .ok (.iconst 0, 1) := by decide +kernel
theorem dX9_lodger_83 : decode cX9_lodger 83 = .ok (.ireturn, 1) := by decide +kernel
theorem dX9_lodger_84 : decode cX9_lodger 84 = .ok (.aload_n 3, 1) := by decide +kernel
theorem dX9_lodger_85 : decode cX9_lodger 85 = .ok (.getfield 151, 3) := by decide +kernel
theorem dX9_lodger_88 : decode cX9_lodger 88 = .ok (.iload_n 1, 1) := by decide +kernel
theorem dX9_lodger_89 : decode cX9_lodger 89 = .ok (.iaload, 1) := by decide +kernel
theorem dX9_lodger_90 : decode cX9_lodger 90 = .ok (.ireturn, 1) := by decide +kernel
theorem dX9_lodger_91 : decode cX9_lodger 91 = .ok (.aload_n 3, 1) := by decide +kernel
theorem dX9_lodger_92 : decode cX9_lodger 92 = .ok (.getfield 154, 3) := by decide +kernel
theorem dX9_lodger_95 : decode cX9_lodger 95 = .ok (.iload_n 1, 1) := by decide +kernel
theorem dX9_lodger_96 : decode cX9_lodger 96 = .ok (.iaload, 1) := by decide +kernel
theorem dX9_lodger_97 : decode cX9_lodger 97 = .ok (.ireturn, 1) := by decide +kernel
theorem dX9_lodger_98 : decode cX9_lodger 98 = .ok (.bipush (-2), 2) := by decide +kernel
theorem dX9_lodger_100 : decode cX9_lodger 100 = .ok (.ireturn, 1) := by decide +kernel
def f_X9_lodger (a0 : Nat) (i1 : Int32) (i2 : Int32) (σ : mm_S) : Option (Int32 × mm_S) :=
    bd (f_X9_isLodger a0 i1 σ) fun r20 σ19 =>
    if r20 = 0 then
      some ((-2 : Int32), σ19)
    else
      if i2 = 0 then
        gd i1 6 <|
        some ((σ19.1 ((26 + 5) + 1) i1.toNatClampNeg), σ19)
      else
      if i2 = 1 then
        gd i1 6 <|
        some ((σ19.1 ((26 + 5) + 2) i1.toNatClampNeg), σ19)
      else
      if i2 = 2 then
        bd (f_X2_isIn (26 + 5) i1 σ19) fun r29 σ28 =>
        if r29 = 0 then
          some ((0 : Int32), σ28)
        else
          some ((1 : Int32), σ28)
      else
      if i2 = 3 then
        gd i1 6 <|
        some ((σ19.1 ((26 + 5) + 3) i1.toNatClampNeg), σ19)
      else
      if i2 = 4 then
        gd i1 6 <|
        some ((σ19.1 ((26 + 5) + 4) i1.toNatClampNeg), σ19)
      else
      some ((-2 : Int32), σ19)
theorem v_X9_lodger {g : mm_G} (d : Nat) {a0 : Nat} {i1 : Int32} {i2 : Int32} {σ : mm_S} {res : Int32 × mm_S} (h_a0 : (mm_K a0).1 = 9) (h : f_X9_lodger a0 i1 i2 σ = some res) : SM g (d + 1) yy_X9_lodger [.ref a0, .int i1, .int i2] σ (.int res.1) res.2 := by
  refine s_of (by decide) (Nat.le_of_ble_eq_true rfl) (L := [(0, .ref a0), (1, .int i1), (2, .int i2)]) rfl ?_
  unfold f_X9_lodger at h
  refine e_aload_n 0 dX9_lodger_0 rfl rfl ?_
  refine e_iload_n 1 dX9_lodger_1 rfl rfl ?_
  obtain ⟨r20, σ19, q18, h⟩ := bd_some h
  refine s_callVi [.int i1] dX9_lodger_2 ml_RX9_138 h_a0 ⟨_, rfl, by decide⟩ rfl (v_X9_isLodger (d + 0) h_a0 q18) (Nat.le_of_ble_eq_true rfl) ?_
  refine e_if_ne 11 dX9_lodger_5 (by decide) (fun c21 => ?_) (fun c21 => ?_)
  · rw [if_neg c21] at h
    refine e_aload_n 0 dX9_lodger_11 rfl rfl ?_
    refine s_getr dX9_lodger_12 fl_RX9_50 h_a0 (r_9_5 h_a0).1 ?_
    refine s_getr dX9_lodger_15 fl_RX9_107 (ka_1 (r_9_5 (w := 0) h_a0).2) (r_8_1 (ka_1 (r_9_5 (w := 0) h_a0).2)).1 ?_
    refine e_astore_n (L' := [(0, .ref a0), (1, .int i1), (2, .int i2), (3, .ref (26 + 5))]) dX9_lodger_18 rfl (by decide) rfl ?_
    refine e_iload_n 2 dX9_lodger_19 rfl rfl ?_
    by_cases c22 : i2 = 0
    · rw [if_pos c22] at h
      refine s_eqi c22 ?_
      refine e_tabIn 56 dX9_lodger_20 (by decide) (by decide) rfl (by decide) ?_
      refine e_aload_n 3 dX9_lodger_56 rfl rfl ?_
      refine s_getr dX9_lodger_57 fl_RX9_142 (ka_1 (r_8_1 (w := 0) (ka_1 (r_9_5 (w := 0) h_a0).2)).2) (r_2_2 (ka_1 (r_8_1 (w := 0) (ka_1 (r_9_5 (w := 0) h_a0).2)).2)).1 ?_
      refine e_iload_n 1 dX9_lodger_60 rfl rfl ?_
      obtain ⟨q23, h⟩ := gd_some h
      refine s_iald dX9_lodger_61 (r_2_2 (w := 0) (ka_1 (r_8_1 (w := 0) (ka_1 (r_9_5 (w := 0) h_a0).2)).2)).2 q23 ?_
      obtain rfl := Option.some.inj h
      exact s_ret rfl ⟨_, rfl, rfl⟩ dX9_lodger_62
    rw [if_neg c22] at h
    by_cases c24 : i2 = 1
    · rw [if_pos c24] at h
      refine s_eqi c24 ?_
      refine e_tabIn 63 dX9_lodger_20 (by decide) (by decide) rfl (by decide) ?_
      refine e_aload_n 3 dX9_lodger_63 rfl rfl ?_
      refine s_getr dX9_lodger_64 fl_RX9_145 (ka_1 (r_8_1 (w := 0) (ka_1 (r_9_5 (w := 0) h_a0).2)).2) (r_2_3 (ka_1 (r_8_1 (w := 0) (ka_1 (r_9_5 (w := 0) h_a0).2)).2)).1 ?_
      refine e_iload_n 1 dX9_lodger_67 rfl rfl ?_
      obtain ⟨q25, h⟩ := gd_some h
      refine s_iald dX9_lodger_68 (r_2_3 (w := 0) (ka_1 (r_8_1 (w := 0) (ka_1 (r_9_5 (w := 0) h_a0).2)).2)).2 q25 ?_
      obtain rfl := Option.some.inj h
      exact s_ret rfl ⟨_, rfl, rfl⟩ dX9_lodger_69
    rw [if_neg c24] at h
    by_cases c26 : i2 = 2
    · rw [if_pos c26] at h
      refine s_eqi c26 ?_
      refine e_tabIn 70 dX9_lodger_20 (by decide) (by decide) rfl (by decide) ?_
      refine e_aload_n 3 dX9_lodger_70 rfl rfl ?_
      refine e_iload_n 1 dX9_lodger_71 rfl rfl ?_
      obtain ⟨r29, σ28, q27, h⟩ := bd_some h
      refine s_callVi [.int i1] dX9_lodger_72 ml_RX9_148 (ka_1 (r_8_1 (w := 0) (ka_1 (r_9_5 (w := 0) h_a0).2)).2) ⟨_, rfl, by decide⟩ rfl (v_X2_isIn (d + 0) (ka_1 (r_8_1 (w := 0) (ka_1 (r_9_5 (w := 0) h_a0).2)).2) q27) (Nat.le_of_ble_eq_true rfl) ?_
      refine e_if_eq 82 dX9_lodger_75 (by decide) (fun c30 => ?_) (fun c30 => ?_)
      · rw [if_pos c30] at h
        refine e_iconst (v := (0 : Int32)) dX9_lodger_82 (by decide) ?_
        obtain rfl := Option.some.inj h
        exact s_ret rfl ⟨_, rfl, rfl⟩ dX9_lodger_83
      · rw [if_neg c30] at h
        refine e_iconst (v := (1 : Int32)) dX9_lodger_78 (by decide) ?_
        refine e_goto 83 dX9_lodger_79 (by decide) ?_
        obtain rfl := Option.some.inj h
        exact s_ret rfl ⟨_, rfl, rfl⟩ dX9_lodger_83
    rw [if_neg c26] at h
    by_cases c31 : i2 = 3
    · rw [if_pos c31] at h
      refine s_eqi c31 ?_
      refine e_tabIn 84 dX9_lodger_20 (by decide) (by decide) rfl (by decide) ?_
      refine e_aload_n 3 dX9_lodger_84 rfl rfl ?_
      refine s_getr dX9_lodger_85 fl_RX9_151 (ka_1 (r_8_1 (w := 0) (ka_1 (r_9_5 (w := 0) h_a0).2)).2) (r_2_4 (ka_1 (r_8_1 (w := 0) (ka_1 (r_9_5 (w := 0) h_a0).2)).2)).1 ?_
      refine e_iload_n 1 dX9_lodger_88 rfl rfl ?_
      obtain ⟨q32, h⟩ := gd_some h
      refine s_iald dX9_lodger_89 (r_2_4 (w := 0) (ka_1 (r_8_1 (w := 0) (ka_1 (r_9_5 (w := 0) h_a0).2)).2)).2 q32 ?_
      obtain rfl := Option.some.inj h
      exact s_ret rfl ⟨_, rfl, rfl⟩ dX9_lodger_90
    rw [if_neg c31] at h
    by_cases c33 : i2 = 4
    · rw [if_pos c33] at h
      refine s_eqi c33 ?_
      refine e_tabIn 91 dX9_lodger_20 (by decide) (by decide) rfl (by decide) ?_
      refine e_aload_n 3 dX9_lodger_91 rfl rfl ?_
      refine s_getr dX9_lodger_92 fl_RX9_154 (ka_1 (r_8_1 (w := 0) (ka_1 (r_9_5 (w := 0) h_a0).2)).2) (r_2_5 (ka_1 (r_8_1 (w := 0) (ka_1 (r_9_5 (w := 0) h_a0).2)).2)).1 ?_
      refine e_iload_n 1 dX9_lodger_95 rfl rfl ?_
      obtain ⟨q34, h⟩ := gd_some h
      refine s_iald dX9_lodger_96 (r_2_5 (w := 0) (ka_1 (r_8_1 (w := 0) (ka_1 (r_9_5 (w := 0) h_a0).2)).2)).2 q34 ?_
      obtain rfl := Option.some.inj h
      exact s_ret rfl ⟨_, rfl, rfl⟩ dX9_lodger_97
    rw [if_neg c33] at h
    have c22' := lv_neT (a := 0) c22 rfl
    have c24' := lv_neT (a := 1) c24 rfl
    have c26' := lv_neT (a := 2) c26 rfl
    have c31' := lv_neT (a := 3) c31 rfl
    have c33' := lv_neT (a := 4) c33 rfl
    refine e_tabOut 98 dX9_lodger_20 (by omega) (by decide) ?_
    refine e_bipush (v := (-2 : Int32)) dX9_lodger_98 (by decide) ?_
    obtain rfl := Option.some.inj h
    exact s_ret rfl ⟨_, rfl, rfl⟩ dX9_lodger_100
  · rw [if_pos c21] at h
    refine e_bipush (v := (-2 : Int32)) dX9_lodger_8 (by decide) ?_
    obtain rfl := Option.some.inj h
    exact s_ret rfl ⟨_, rfl, rfl⟩ dX9_lodger_10
abbrev yy_X9_areUnlike : mm_Y := (yX9_areUnlike, cX9_areUnlike, 3, (some .boolean))
theorem dX9_areUnlike_0 : decode cX9_areUnlike 0 = .ok (.aload_n 0, 1) := by decide +kernel
theorem dX9_areUnlike_1 : decode cX9_areUnlike 1 = .ok (.iload_n 1, 1) := by decide +kernel
theorem dX9_areUnlike_2 : decode cX9_areUnlike 2 = .ok (.invokevirtual 138, 3) := by decide +kernel
theorem dX9_areUnlike_5 : decode cX9_areUnlike 5 = .ok (.ifCond .eq 20, 3) := by decide +kernel
theorem dX9_areUnlike_8 : decode cX9_areUnlike 8 = .ok (.aload_n 0, 1) := by decide +kernel
theorem dX9_areUnlike_9 : decode cX9_areUnlike 9 = .ok (.iload_n 2, 1) := by decide +kernel
theorem dX9_areUnlike_10 : decode cX9_areUnlike 10 = .ok (.invokevirtual 138, 3) := by decide +kernel
theorem dX9_areUnlike_13 : decode cX9_areUnlike 13 = .ok (.ifCond .eq 12, 3) := by decide +kernel
theorem dX9_areUnlike_16 : decode cX9_areUnlike 16 = .ok (.iload_n 1, 1) := by decide +kernel
theorem dX9_areUnlike_17 : decode cX9_areUnlike 17 = .ok (.iload_n 2, 1) := by decide +kernel
theorem dX9_areUnlike_18 : decode cX9_areUnlike 18 = .ok (.if_icmp .eq 7, 3) := by decide +kernel
theorem dX9_areUnlike_21 : decode cX9_areUnlike 21 = .ok (.iconst 1, 1) := by decide +kernel
theorem dX9_areUnlike_22 : decode cX9_areUnlike 22 = .ok (.goto 4, 3) := by decide +kernel
theorem dX9_areUnlike_25 : decode cX9_areUnlike 25 = .ok (.iconst 0, 1) := by decide +kernel
theorem dX9_areUnlike_26 : decode cX9_areUnlike 26 = .ok (.ireturn, 1) := by decide +kernel
def f_X9_areUnlike (a0 : Nat) (i1 : Int32) (i2 : Int32) (σ : mm_S) : Option (Int32 × mm_S) :=
    bd (f_X9_isLodger a0 i1 σ) fun r12 σ11 =>
    if r12 = 0 then
      some ((0 : Int32), σ11)
    else
      bd (f_X9_isLodger a0 i2 σ11) fun r16 σ15 =>
      if r16 = 0 then
        some ((0 : Int32), σ15)
      else
        if i1 = i2 then
          some ((0 : Int32), σ15)
        else
          some ((1 : Int32), σ15)
theorem v_X9_areUnlike {g : mm_G} (d : Nat) {a0 : Nat} {i1 : Int32} {i2 : Int32} {σ : mm_S} {res : Int32 × mm_S} (h_a0 : (mm_K a0).1 = 9) (h : f_X9_areUnlike a0 i1 i2 σ = some res) : SM g (d + 1) yy_X9_areUnlike [.ref a0, .int i1, .int i2] σ (.int res.1) res.2 := by
  refine s_of (by decide) (Nat.le_of_ble_eq_true rfl) (L := [(0, .ref a0), (1, .int i1), (2, .int i2)]) rfl ?_
  unfold f_X9_areUnlike at h
  refine e_aload_n 0 dX9_areUnlike_0 rfl rfl ?_
  refine e_iload_n 1 dX9_areUnlike_1 rfl rfl ?_
  obtain ⟨r12, σ11, q10, h⟩ := bd_some h
  refine s_callVi [.int i1] dX9_areUnlike_2 ml_RX9_138 h_a0 ⟨_, rfl, by decide⟩ rfl (v_X9_isLodger (d + 0) h_a0 q10) (Nat.le_of_ble_eq_true rfl) ?_
  refine e_if_eq 25 dX9_areUnlike_5 (by decide) (fun c13 => ?_) (fun c13 => ?_)
  · rw [if_pos c13] at h
    refine e_iconst (v := (0 : Int32)) dX9_areUnlike_25 (by decide) ?_
    obtain rfl := Option.some.inj h
    exact s_ret rfl ⟨_, rfl, nb1 (Or.inl rfl)⟩ dX9_areUnlike_26
  · rw [if_neg c13] at h
    refine e_aload_n 0 dX9_areUnlike_8 rfl rfl ?_
    refine e_iload_n 2 dX9_areUnlike_9 rfl rfl ?_
    obtain ⟨r16, σ15, q14, h⟩ := bd_some h
    refine s_callVi [.int i2] dX9_areUnlike_10 ml_RX9_138 h_a0 ⟨_, rfl, by decide⟩ rfl (v_X9_isLodger (d + 0) h_a0 q14) (Nat.le_of_ble_eq_true rfl) ?_
    refine e_if_eq 25 dX9_areUnlike_13 (by decide) (fun c17 => ?_) (fun c17 => ?_)
    · rw [if_pos c17] at h
      refine e_iconst (v := (0 : Int32)) dX9_areUnlike_25 (by decide) ?_
      obtain rfl := Option.some.inj h
      exact s_ret rfl ⟨_, rfl, nb1 (Or.inl rfl)⟩ dX9_areUnlike_26
    · rw [if_neg c17] at h
      refine e_iload_n 1 dX9_areUnlike_16 rfl rfl ?_
      refine e_iload_n 2 dX9_areUnlike_17 rfl rfl ?_
      refine e_icmp_eq 25 dX9_areUnlike_18 (by decide) (fun c18 => ?_) (fun c18 => ?_)
      · rw [if_pos c18] at h
        refine e_iconst (v := (0 : Int32)) dX9_areUnlike_25 (by decide) ?_
        obtain rfl := Option.some.inj h
        exact s_ret rfl ⟨_, rfl, nb1 (Or.inl rfl)⟩ dX9_areUnlike_26
      · rw [if_neg c18] at h
        refine e_iconst (v := (1 : Int32)) dX9_areUnlike_21 (by decide) ?_
        refine e_goto 26 dX9_areUnlike_22 (by decide) ?_
        obtain rfl := Option.some.inj h
        exact s_ret rfl ⟨_, rfl, nb1 (Or.inr rfl)⟩ dX9_areUnlike_26
