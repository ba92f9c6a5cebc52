abbrev yy_X9_walkFromNow : mm_Y := (yX9_walkFromNow, cX9_walkFromNow, 1, none)
theorem dX9_walkFromNow_0 : decode cX9_walkFromNow 0 = .ok (.aload_n 0, 1) := by decide +kernel
theorem dX9_walkFromNow_1 : decode cX9_walkFromNow 1 = .ok (.getfield 77, 3) := by decide +kernel
theorem dX9_walkFromNow_4 : decode cX9_walkFromNow 4 = .ok (.aload_n 0, 1) := by decide +kernel
theorem dX9_walkFromNow_5 : decode cX9_walkFromNow 5 = .ok (.getfield 34, 3) := by decide +kernel
theorem dX9_walkFromNow_8 : decode cX9_walkFromNow 8 = .ok (.aload_n 0, 1) := by decide +kernel
theorem dX9_walkFromNow_9 : decode cX9_walkFromNow 9 = .ok (.getfield 50, 3) := by decide +kernel
theorem dX9_walkFromNow_12 : decode cX9_walkFromNow 12 = .ok (.getfield 135, 3) := by decide +kernel
theorem dX9_walkFromNow_15 : decode cX9_walkFromNow 15 = .ok (.iconst 1, 1) := by decide +kernel
theorem dX9_walkFromNow_16 : decode cX9_walkFromNow 16 = .ok (.iadd, 1) := by decide +kernel
theorem dX9_walkFromNow_17 : decode cX9_walkFromNow 17 = .ok (.aaload, 1) := by decide +kernel
theorem dX9_walkFromNow_18 : decode cX9_walkFromNow 18 = .ok (.aload_n 0, 1) := by decide +kernel
theorem dX9_walkFromNow_19 : decode cX9_walkFromNow 19 = .ok (.getfield 50, 3) := by decide +kernel
theorem dX9_walkFromNow_22 : decode cX9_walkFromNow 22 = .ok (.getfield 107, 3) := by decide +kernel
theorem dX9_walkFromNow_25 : decode cX9_walkFromNow 25 = .ok (.invokevirtual 292, 3) := by decide +kernel
theorem dX9_walkFromNow_28 : decode cX9_walkFromNow 28 = .ok (.return_, 1) := by decide +kernel
def f_X9_walkFromNow (a0 : Nat) (σ : mm_S) : Option (mm_S) :=
    gd ((σ.1 26 3) + (1 : Int32)) 7 <|
    bv (f_X7_begin 200 (12 + 2 * ((σ.1 26 3) + (1 : Int32)).toNatClampNeg) (26 + 5) σ) fun σ6 =>
    some σ6
theorem v_X9_walkFromNow {g : mm_G} (d : Nat) {a0 : Nat} {σ : mm_S} {res : mm_S} (h_a0 : (mm_K a0).1 = 9) (h : f_X9_walkFromNow a0 σ = some res) : SM g (d + 3) yy_X9_walkFromNow [.ref a0] σ .null res := by
  refine s_of (by decide) (Nat.le_of_ble_eq_true rfl) (L := [(0, .ref a0)]) rfl ?_
  unfold f_X9_walkFromNow at h
  refine e_aload_n 0 dX9_walkFromNow_0 rfl rfl ?_
  refine s_getr dX9_walkFromNow_1 fl_RX9_77 h_a0 (r_9_9 h_a0).1 ?_
  refine e_aload_n 0 dX9_walkFromNow_4 rfl rfl ?_
  refine s_getr dX9_walkFromNow_5 fl_RX9_34 h_a0 (r_9_3 h_a0).1 ?_
  refine e_aload_n 0 dX9_walkFromNow_8 rfl rfl ?_
  refine s_getr dX9_walkFromNow_9 fl_RX9_50 h_a0 (r_9_5 h_a0).1 ?_
  refine s_geti dX9_walkFromNow_12 fl_RX9_135 (ka_1 (r_9_5 (w := 0) h_a0).2) ?_
  refine e_iconst (v := (1 : Int32)) dX9_walkFromNow_15 (by decide) ?_
  refine e_iadd dX9_walkFromNow_16 ?_
  obtain ⟨q4, h⟩ := gd_some h
  refine s_aald16 dX9_walkFromNow_17 (ka_1 (r_9_3 (w := 0) h_a0).2) q4 ?_
  refine e_aload_n 0 dX9_walkFromNow_18 rfl rfl ?_
  refine s_getr dX9_walkFromNow_19 fl_RX9_50 h_a0 (r_9_5 h_a0).1 ?_
  refine s_getr dX9_walkFromNow_22 fl_RX9_107 (ka_1 (r_9_5 (w := 0) h_a0).2) (r_8_1 (ka_1 (r_9_5 (w := 0) h_a0).2)).1 ?_
  obtain ⟨σ6, q5, h⟩ := bv_some h
  refine s_callVv [.ref (12 + 2 * ((σ.1 26 3) + (1 : Int32)).toNatClampNeg), .ref (26 + 5)] dX9_walkFromNow_25 ml_RX9_292 (ka_1 (r_9_9 (w := 0) h_a0).2) rfl rfl (v_X7_begin (d + 0) (ka_1 (r_9_9 (w := 0) h_a0).2) (r_a16 (w := 0) (ka_1 (r_9_3 (w := 0) h_a0).2) (vin_lt q4)).2.1 (ka_1 (r_8_1 (w := 0) (ka_1 (r_9_5 (w := 0) h_a0).2)).2) q5) (Nat.le_of_ble_eq_true rfl) ?_
  obtain rfl := Option.some.inj h
  exact s_ret rfl rfl dX9_walkFromNow_28
abbrev yy_X9_hour : mm_Y := (yX9_hour, cX9_hour, 1, (some .int))
theorem dX9_hour_0 : decode cX9_hour 0 = .ok (.aload_n 0, 1) := by decide +kernel
theorem dX9_hour_1 : decode cX9_hour 1 = .ok (.getfield 50, 3) := by decide +kernel
theorem dX9_hour_4 : decode cX9_hour 4 = .ok (.getfield 71, 3) := by decide +kernel
theorem dX9_hour_7 : decode cX9_hour 7 = .ok (.getfield 188, 3) := by decide +kernel
theorem dX9_hour_10 : decode cX9_hour 10 = .ok (.ifCond .eq 19, 3) := by decide +kernel
theorem dX9_hour_13 : decode cX9_hour 13 = .ok (.aload_n 0, 1) := by decide +kernel
theorem dX9_hour_14 : decode cX9_hour 14 = .ok (.getfield 50, 3) := by decide +kernel
theorem dX9_hour_17 : decode cX9_hour 17 = .ok (.getfield 107, 3) := by decide +kernel
theorem dX9_hour_20 : decode cX9_hour 20 = .ok (.getfield 171, 3) := by decide +kernel
theorem dX9_hour_23 : decode cX9_hour 23 = .ok (.sipush 999, 3) := by decide +kernel
theorem dX9_hour_26 : decode cX9_hour 26 = .ok (.if_icmp .lt 5, 3) := by decide +kernel
theorem dX9_hour_29 : decode cX9_hour 29 = .ok (.iconst (-1), 1) := by decide +kernel
theorem dX9_hour_30 : decode cX9_hour 30 = .ok (.ireturn, 1) := by decide +kernel
theorem dX9_hour_31 : decode cX9_hour 31 = .ok (.aload_n 0, 1) := by decide +kernel
theorem dX9_hour_32 : decode cX9_hour 32 = .ok (.getfield 65, 3) := by decide +kernel
theorem dX9_hour_35 : decode cX9_hour 35 = .ok (.aload_n 0, 1) := by decide +kernel
theorem dX9_hour_36 : decode cX9_hour 36 = .ok (.getfield 50, 3) := by decide +kernel
theorem dX9_hour_39 : decode cX9_hour 39 = .ok (.getfield 107, 3) := by decide +kernel
theorem dX9_hour_42 : decode cX9_hour 42 = .ok (.invokevirtual 192, 3) := by decide +kernel
theorem dX9_hour_45 : decode cX9_hour 45 = .ok (.aload_n 0, 1) := by decide +kernel
theorem dX9_hour_46 : decode cX9_hour 46 = .ok (.invokevirtual 196, 3) := by decide +kernel
theorem dX9_hour_49 : decode cX9_hour 49 = .ok (.aload_n 0, 1) := by decide +kernel
theorem dX9_hour_50 : decode cX9_hour 50 = .ok (.getfield 77, 3) := by decide +kernel
theorem dX9_hour_53 : decode cX9_hour 53 = .ok (.iconst 1, 1) := by decide +kernel
theorem dX9_hour_54 : decode cX9_hour 54 = .ok (.invokevirtual 199, 3) := by decide +kernel
theorem dX9_hour_57 : decode cX9_hour 57 = .ok (.aload_n 0, 1) := by decide +kernel
theorem dX9_hour_58 : decode cX9_hour 58 = .ok (.getfield 50, 3) := by decide +kernel
theorem dX9_hour_61 : decode cX9_hour 61 = .ok (.getfield 107, 3) := by decide +kernel
theorem dX9_hour_64 : decode cX9_hour 64 = .ok (.aload_n 0, 1) := by decide +kernel
theorem dX9_hour_65 : decode cX9_hour 65 = .ok (.getfield 77, 3) := by decide +kernel
theorem dX9_hour_68 : decode cX9_hour 68 = .ok (.getfield 202, 3) := by decide +kernel
theorem dX9_hour_71 : decode cX9_hour 71 = .ok (.invokevirtual 203, 3) := by decide +kernel
theorem dX9_hour_74 : decode cX9_hour 74 = .ok (.aload_n 0, 1) := by decide +kernel
theorem dX9_hour_75 : decode cX9_hour 75 = .ok (.getfield 50, 3) := by decide +kernel
theorem dX9_hour_78 : decode cX9_hour 78 = .ok (.getfield 107, 3) := by decide +kernel
theorem dX9_hour_81 : decode cX9_hour 81 = .ok (.getfield 174, 3) := by decide +kernel
theorem dX9_hour_84 : decode cX9_hour 84 = .ok (.ireturn, 1) := by decide +kernel
def f_X9_hour (a0 : Nat) (σ : mm_S) : Option (Int32 × mm_S) :=
    if (σ.1 (26 + 1) 0) = 0 then
      some ((-1 : Int32), σ)
    else
      if (σ.1 (26 + 5) 0) < (999 : Int32) then
        bv (f_X0_keep 98 (26 + 5) σ) fun σ14 =>
        bv (f_X9_walkFromNow a0 σ14) fun σ16 =>
        bv (f_X7_passHours 200 (1 : Int32) σ16) fun σ18 =>
        bv (f_X2_take (26 + 5) 201 σ18) fun σ20 =>
        some ((σ20.1 (26 + 5) 1), σ20)
      else
        some ((-1 : Int32), σ)
theorem v_X9_hour {g : mm_G} (d : Nat) {a0 : Nat} {σ : mm_S} {res : Int32 × mm_S} (h_a0 : (mm_K a0).1 = 9) (h : f_X9_hour a0 σ = some res) : SM g (d + 5) yy_X9_hour [.ref a0] σ (.int res.1) res.2 := by
  refine s_of (by decide) (Nat.le_of_ble_eq_true rfl) (L := [(0, .ref a0)]) rfl ?_
  unfold f_X9_hour at h
  refine e_aload_n 0 dX9_hour_0 rfl rfl ?_
  refine s_getr dX9_hour_1 fl_RX9_50 h_a0 (r_9_5 h_a0).1 ?_
  refine s_getr dX9_hour_4 fl_RX9_71 (ka_1 (r_9_5 (w := 0) h_a0).2) (r_8_0 (ka_1 (r_9_5 (w := 0) h_a0).2)).1 ?_
  refine s_geti dX9_hour_7 fl_RX9_188 (ka_1 (r_8_0 (w := 0) (ka_1 (r_9_5 (w := 0) h_a0).2)).2) ?_
  refine e_if_eq 29 dX9_hour_10 (by decide) (fun c11 => ?_) (fun c11 => ?_)
  · rw [if_pos c11] at h
    refine e_iconst (v := (-1 : Int32)) dX9_hour_29 (by decide) ?_
    obtain rfl := Option.some.inj h
    exact s_ret rfl ⟨_, rfl, rfl⟩ dX9_hour_30
  · rw [if_neg c11] at h
    refine e_aload_n 0 dX9_hour_13 rfl rfl ?_
    refine s_getr dX9_hour_14 fl_RX9_50 h_a0 (r_9_5 h_a0).1 ?_
    refine s_getr dX9_hour_17 fl_RX9_107 (ka_1 (r_9_5 (w := 0) h_a0).2) (r_8_1 (ka_1 (r_9_5 (w := 0) h_a0).2)).1 ?_
    refine s_geti dX9_hour_20 fl_RX9_171 (ka_1 (r_8_1 (w := 0) (ka_1 (r_9_5 (w := 0) h_a0).2)).2) ?_
    refine e_sipush (v := (999 : Int32)) dX9_hour_23 (by decide) ?_
    refine e_icmp_lt 31 dX9_hour_26 (by decide) (fun c12 => ?_) (fun c12 => ?_)
    · rw [if_pos c12] at h
      refine e_aload_n 0 dX9_hour_31 rfl rfl ?_
      refine s_getr dX9_hour_32 fl_RX9_65 h_a0 (r_9_8 h_a0).1 ?_
      refine e_aload_n 0 dX9_hour_35 rfl rfl ?_
      refine s_getr dX9_hour_36 fl_RX9_50 h_a0 (r_9_5 h_a0).1 ?_
      refine s_getr dX9_hour_39 fl_RX9_107 (ka_1 (r_9_5 (w := 0) h_a0).2) (r_8_1 (ka_1 (r_9_5 (w := 0) h_a0).2)).1 ?_
      obtain ⟨σ14, q13, h⟩ := bv_some h
      refine s_callVv [.ref (26 + 5)] dX9_hour_42 ml_RX9_192 (ka_1 (r_9_8 (w := 0) h_a0).2) rfl rfl (v_X0_keep (d + 2) (ka_1 (r_9_8 (w := 0) h_a0).2) (ka_1 (r_8_1 (w := 0) (ka_1 (r_9_5 (w := 0) h_a0).2)).2) q13) (Nat.le_of_ble_eq_true rfl) ?_
      refine e_aload_n 0 dX9_hour_45 rfl rfl ?_
      obtain ⟨σ16, q15, h⟩ := bv_some h
      refine s_callVv [] dX9_hour_46 ml_RX9_196 h_a0 rfl rfl (v_X9_walkFromNow (d + 1) h_a0 q15) (Nat.le_of_ble_eq_true rfl) ?_
      refine e_aload_n 0 dX9_hour_49 rfl rfl ?_
      refine s_getr dX9_hour_50 fl_RX9_77 h_a0 (r_9_9 h_a0).1 ?_
      refine e_iconst (v := (1 : Int32)) dX9_hour_53 (by decide) ?_
      obtain ⟨σ18, q17, h⟩ := bv_some h
      refine s_callVv [.int (1 : Int32)] dX9_hour_54 ml_RX9_199 (ka_1 (r_9_9 (w := 0) h_a0).2) rfl rfl (v_X7_passHours (d + 0) (ka_1 (r_9_9 (w := 0) h_a0).2) q17) (Nat.le_of_ble_eq_true rfl) ?_
      refine e_aload_n 0 dX9_hour_57 rfl rfl ?_
      refine s_getr dX9_hour_58 fl_RX9_50 h_a0 (r_9_5 h_a0).1 ?_
      refine s_getr dX9_hour_61 fl_RX9_107 (ka_1 (r_9_5 (w := 0) h_a0).2) (r_8_1 (ka_1 (r_9_5 (w := 0) h_a0).2)).1 ?_
      refine e_aload_n 0 dX9_hour_64 rfl rfl ?_
      refine s_getr dX9_hour_65 fl_RX9_77 h_a0 (r_9_9 h_a0).1 ?_
      refine s_getr dX9_hour_68 fl_RX9_202 (ka_1 (r_9_9 (w := 0) h_a0).2) (r_7_1 (ka_1 (r_9_9 (w := 0) h_a0).2)).1 ?_
      obtain ⟨σ20, q19, h⟩ := bv_some h
      refine s_callVv [.ref 201] dX9_hour_71 ml_RX9_203 (ka_1 (r_8_1 (w := 0) (ka_1 (r_9_5 (w := 0) h_a0).2)).2) rfl rfl (v_X2_take (d + 3) (ka_1 (r_8_1 (w := 0) (ka_1 (r_9_5 (w := 0) h_a0).2)).2) (ka_1 (r_7_1 (w := 0) (ka_1 (r_9_9 (w := 0) h_a0).2)).2) q19) (Nat.le_of_ble_eq_true rfl) ?_
      refine e_aload_n 0 dX9_hour_74 rfl rfl ?_
      refine s_getr dX9_hour_75 fl_RX9_50 h_a0 (r_9_5 h_a0).1 ?_
      refine s_getr dX9_hour_78 fl_RX9_107 (ka_1 (r_9_5 (w := 0) h_a0).2) (r_8_1 (ka_1 (r_9_5 (w := 0) h_a0).2)).1 ?_
      refine s_geti dX9_hour_81 fl_RX9_174 (ka_1 (r_8_1 (w := 0) (ka_1 (r_9_5 (w := 0) h_a0).2)).2) ?_
      obtain rfl := Option.some.inj h
      exact s_ret rfl ⟨_, rfl, rfl⟩ dX9_hour_84
    · rw [if_neg c12] at h
      refine e_iconst (v := (-1 : Int32)) dX9_hour_29 (by decide) ?_
      obtain rfl := Option.some.inj h
      exact s_ret rfl ⟨_, rfl, rfl⟩ dX9_hour_30
abbrev yy_X9_bid : mm_Y := (yX9_bid, cX9_bid, 4, (some .int))
theorem dX9_bid_0 : decode cX9_bid 0 = .ok (.aload_n 0, 1) := by decide +kernel
theorem dX9_bid_1 : decode cX9_bid 1 = .ok (.iload_n 1, 1) := by decide +kernel
theorem dX9_bid_2 : decode cX9_bid 2 = .ok (.invokevirtual 138, 3) := by decide +kernel
theorem dX9_bid_5 : decode cX9_bid 5 = .ok (.ifCond .eq 21, 3) := by decide +kernel
theorem dX9_bid_8 : decode cX9_bid 8 = .ok (.iload_n 2, 1) := by decide +kernel
theorem dX9_bid_9 : decode cX9_bid 9 = .ok (.iconst (-1), 1) := by decide +kernel
theorem dX9_bid_10 : decode cX9_bid 10 = .ok (.if_icmp .eq 11, 3) := by decide +kernel
theorem dX9_bid_13 : decode cX9_bid 13 = .ok (.aload_n 0, 1) := by decide +kernel
theorem dX9_bid_14 : decode cX9_bid 14 = .ok (.iload_n 2, 1) := by decide +kernel
theorem dX9_bid_15 : decode cX9_bid 15 = .ok (.invokevirtual 138, 3) := by decide +kernel
theorem dX9_bid_18 : decode cX9_bid 18 = .ok (.ifCond .eq 8, 3) := by decide +kernel
theorem dX9_bid_21 : decode cX9_bid 21 = .ok (.iload_n 2, 1) := by decide +kernel
theorem dX9_bid_22 : decode cX9_bid 22 = .ok (.iload_n 1, 1) := by decide +kernel
theorem dX9_bid_23 : decode cX9_bid 23 = .ok (.if_icmp .ne 6, 3) := by decide +kernel
theorem dX9_bid_26 : decode cX9_bid 26 = .ok (.bipush (-2), 2) := by decide +kernel
theorem dX9_bid_28 : decode cX9_bid 28 = .ok (.ireturn, 1) := by decide +kernel
theorem dX9_bid_29 : decode cX9_bid 29 = .ok (.aload_n 0, 1) := by decide +kernel
theorem dX9_bid_30 : decode cX9_bid 30 = .ok (.getfield 50, 3) := by decide +kernel
theorem dX9_bid_33 : decode cX9_bid 33 = .ok (.getfield 107, 3) := by decide +kernel
theorem dX9_bid_36 : decode cX9_bid 36 = .ok (.getfield 151, 3) := by decide +kernel
theorem dX9_bid_39 : decode cX9_bid 39 = .ok (.iload_n 1, 1) := by decide +kernel
theorem dX9_bid_40 : decode cX9_bid 40 = .ok (.iaload, 1) := by decide +kernel
theorem dX9_bid_41 : decode cX9_bid 41 = .ok (.istore_n 3, 1) := by decide +kernel
theorem dX9_bid_42 : decode cX9_bid 42 = .ok (.iload_n 2, 1) := by decide +kernel
theorem dX9_bid_43 : decode cX9_bid 43 = .ok (.iload_n 3, 1) := by decide +kernel
theorem dX9_bid_44 : decode cX9_bid 44 = .ok (.if_icmp .eq 17, 3) := by decide +kernel
theorem dX9_bid_47 : decode cX9_bid 47 = .ok (.aload_n 0, 1) := by decide +kernel
theorem dX9_bid_48 : decode cX9_bid 48 = .ok (.getfield 50, 3) := by decide +kernel
theorem dX9_bid_51 : decode cX9_bid 51 = .ok (.getfield 107, 3) := by decide +kernel
theorem dX9_bid_54 : decode cX9_bid 54 = .ok (.iload_n 1, 1) := by decide +kernel
theorem dX9_bid_55 : decode cX9_bid 55 = .ok (.invokevirtual 148, 3) := by decide +kernel
theorem dX9_bid_58 : decode cX9_bid 58 = .ok (.ifCond .eq 6, 3) := by decide +kernel
theorem dX9_bid_61 : decode cX9_bid 61 = .ok (.bipush (-2), 2) := by decide +kernel
theorem dX9_bid_63 : decode cX9_bid 63 = .ok (.ireturn, 1) := by decide +kernel
theorem dX9_bid_64 : decode cX9_bid 64 = .ok (.aload_n 0, 1) := by decide +kernel
theorem dX9_bid_65 : decode cX9_bid 65 = .ok (.getfield 65, 3) := by decide +kernel
theorem dX9_bid_68 : decode cX9_bid 68 = .ok (.aload_n 0, 1) := by decide +kernel
theorem dX9_bid_69 : decode cX9_bid 69 = .ok (.getfield 50, 3) := by decide +kernel
theorem dX9_bid_72 : decode cX9_bid 72 = .ok (.getfield 107, 3) := by decide +kernel
theorem dX9_bid_75 : decode cX9_bid 75 = .ok (.invokevirtual 192, 3) := by decide +kernel
theorem dX9_bid_78 : decode cX9_bid 78 = .ok (.aload_n 0, 1) := by decide +kernel
theorem dX9_bid_79 : decode cX9_bid 79 = .ok (.getfield 50, 3) := by decide +kernel
theorem dX9_bid_82 : decode cX9_bid 82 = .ok (.getfield 107, 3) := by decide +kernel
theorem dX9_bid_85 : decode cX9_bid 85 = .ok (.getfield 151, 3) := by decide +kernel
theorem dX9_bid_88 : decode cX9_bid 88 = .ok (.iload_n 1, 1) := by decide +kernel
theorem dX9_bid_89 : decode cX9_bid 89 = .ok (.iload_n 2, 1) := by decide +kernel
theorem dX9_bid_90 : decode cX9_bid 90 = .ok (.iastore, 1) := by decide +kernel
theorem dX9_bid_91 : decode cX9_bid 91 = .ok (.iload_n 3, 1) := by decide +kernel
theorem dX9_bid_92 : decode cX9_bid 92 = .ok (.ireturn, 1) := by decide +kernel
def f_X9_bid_21 (a0 : Nat) (i1 : Int32) (i2 : Int32) (σ : mm_S) : Option (Int32 × mm_S) :=
    if i2 = i1 then
      some ((-2 : Int32), σ)
    else
      gd i1 6 <|
      lt ((σ.1 ((26 + 5) + 3) i1.toNatClampNeg)) fun x3 =>
      if i2 = x3 then
        some ((-2 : Int32), σ)
      else
        bd (f_X2_isIn (26 + 5) i1 σ) fun r8 σ7 =>
        if r8 = 0 then
          bv (f_X0_keep 98 (26 + 5) σ7) fun σ11 =>
          gd i1 6 <|
          lt (su_i σ11 ((26 + 5) + 3) i1.toNatClampNeg i2) fun σ13 =>
          some (x3, σ13)
        else
          some ((-2 : Int32), σ7)
theorem v_X9_bid_21 {g : mm_G} (d : Nat) {a0 : Nat} {i1 : Int32} {i2 : Int32} {σ : mm_S} {res : Int32 × mm_S}  (h_a0 : (mm_K a0).1 = 9) (h : f_X9_bid_21 a0 i1 i2 σ = some res) : SV g (d + 3) yy_X9_bid 21 [(0, .ref a0), (1, .int i1), (2, .int i2)] [] σ (.int res.1) res.2 := by
  unfold f_X9_bid_21 at h
  refine e_iload_n 2 dX9_bid_21 rfl rfl ?_
  refine e_iload_n 1 dX9_bid_22 rfl rfl ?_
  refine e_icmp_ne 29 dX9_bid_23 (by decide) (fun c1 => ?_) (fun c1 => ?_)
  · rw [if_neg c1] at h
    refine e_aload_n 0 dX9_bid_29 rfl rfl ?_
    refine s_getr dX9_bid_30 fl_RX9_50 h_a0 (r_9_5 h_a0).1 ?_
    refine s_getr dX9_bid_33 fl_RX9_107 (ka_1 (r_9_5 (w := 0) h_a0).2) (r_8_1 (ka_1 (r_9_5 (w := 0) h_a0).2)).1 ?_
    refine s_getr dX9_bid_36 fl_RX9_151 (ka_1 (r_8_1 (w := 0) (ka_1 (r_9_5 (w := 0) h_a0).2)).2) (r_2_4 (ka_1 (r_8_1 (w := 0) (ka_1 (r_9_5 (w := 0) h_a0).2)).2)).1 ?_
    refine e_iload_n 1 dX9_bid_39 rfl rfl ?_
    obtain ⟨q2, h⟩ := gd_some h
    refine s_iald dX9_bid_40 (r_2_4 (w := 0) (ka_1 (r_8_1 (w := 0) (ka_1 (r_9_5 (w := 0) h_a0).2)).2)).2 q2 ?_
    obtain ⟨x3, q4, h⟩ := lt_some h
    refine s_nmi q4 ?_
    refine e_istore_n (L' := [(0, .ref a0), (1, .int i1), (2, .int i2), (3, .int x3)]) dX9_bid_41 rfl (by decide) rfl ?_
    refine e_iload_n 2 dX9_bid_42 rfl rfl ?_
    refine e_iload_n 3 dX9_bid_43 rfl rfl ?_
    refine e_icmp_eq 61 dX9_bid_44 (by decide) (fun c5 => ?_) (fun c5 => ?_)
    · rw [if_pos c5] at h
      refine e_bipush (v := (-2 : Int32)) dX9_bid_61 (by decide) ?_
      obtain rfl := Option.some.inj h
      exact s_ret rfl ⟨_, rfl, rfl⟩ dX9_bid_63
    · rw [if_neg c5] at h
      refine e_aload_n 0 dX9_bid_47 rfl rfl ?_
      refine s_getr dX9_bid_48 fl_RX9_50 h_a0 (r_9_5 h_a0).1 ?_
      refine s_getr dX9_bid_51 fl_RX9_107 (ka_1 (r_9_5 (w := 0) h_a0).2) (r_8_1 (ka_1 (r_9_5 (w := 0) h_a0).2)).1 ?_
      refine e_iload_n 1 dX9_bid_54 rfl rfl ?_
      obtain ⟨r8, σ7, q6, h⟩ := bd_some h
      refine s_callVi [.int i1] dX9_bid_55 ml_RX9_148 (ka_1 (r_8_1 (w := 0) (ka_1 (r_9_5 (w := 0) h_a0).2)).2) ⟨_, rfl, by decide⟩ rfl (v_X2_isIn (d + 2) (ka_1 (r_8_1 (w := 0) (ka_1 (r_9_5 (w := 0) h_a0).2)).2) q6) (Nat.le_of_ble_eq_true rfl) ?_
      refine e_if_eq 64 dX9_bid_58 (by decide) (fun c9 => ?_) (fun c9 => ?_)
      · rw [if_pos c9] at h
        refine e_aload_n 0 dX9_bid_64 rfl rfl ?_
        refine s_getr dX9_bid_65 fl_RX9_65 h_a0 (r_9_8 h_a0).1 ?_
        refine e_aload_n 0 dX9_bid_68 rfl rfl ?_
        refine s_getr dX9_bid_69 fl_RX9_50 h_a0 (r_9_5 h_a0).1 ?_
        refine s_getr dX9_bid_72 fl_RX9_107 (ka_1 (r_9_5 (w := 0) h_a0).2) (r_8_1 (ka_1 (r_9_5 (w := 0) h_a0).2)).1 ?_
        obtain ⟨σ11, q10, h⟩ := bv_some h
        refine s_callVv [.ref (26 + 5)] dX9_bid_75 ml_RX9_192 (ka_1 (r_9_8 (w := 0) h_a0).2) rfl rfl (v_X0_keep (d + 0) (ka_1 (r_9_8 (w := 0) h_a0).2) (ka_1 (r_8_1 (w := 0) (ka_1 (r_9_5 (w := 0) h_a0).2)).2) q10) (Nat.le_of_ble_eq_true rfl) ?_
        refine e_aload_n 0 dX9_bid_78 rfl rfl ?_
        refine s_getr dX9_bid_79 fl_RX9_50 h_a0 (r_9_5 h_a0).1 ?_
        refine s_getr dX9_bid_82 fl_RX9_107 (ka_1 (r_9_5 (w := 0) h_a0).2) (r_8_1 (ka_1 (r_9_5 (w := 0) h_a0).2)).1 ?_
        refine s_getr dX9_bid_85 fl_RX9_151 (ka_1 (r_8_1 (w := 0) (ka_1 (r_9_5 (w := 0) h_a0).2)).2) (r_2_4 (ka_1 (r_8_1 (w := 0) (ka_1 (r_9_5 (w := 0) h_a0).2)).2)).1 ?_
        refine e_iload_n 1 dX9_bid_88 rfl rfl ?_
        refine e_iload_n 2 dX9_bid_89 rfl rfl ?_
        obtain ⟨q12, h⟩ := gd_some h
        refine s_iast dX9_bid_90 (r_2_4 (w := 0) (ka_1 (r_8_1 (w := 0) (ka_1 (r_9_5 (w := 0) h_a0).2)).2)).2 q12 ?_
        obtain ⟨σ13, q14, h⟩ := lt_some h
        refine s_nms q14 ?_
        refine e_iload_n 3 dX9_bid_91 rfl rfl ?_
        obtain rfl := Option.some.inj h
        exact s_ret rfl ⟨_, rfl, rfl⟩ dX9_bid_92
      · rw [if_neg c9] at h
        refine e_bipush (v := (-2 : Int32)) dX9_bid_61 (by decide) ?_
        obtain rfl := Option.some.inj h
        exact s_ret rfl ⟨_, rfl, rfl⟩ dX9_bid_63
  · rw [if_pos c1] at h
    refine e_bipush (v := (-2 : Int32)) dX9_bid_26 (by decide) ?_
    obtain rfl := Option.some.inj h
    exact s_ret rfl ⟨_, rfl, rfl⟩ dX9_bid_28
def f_X9_bid (a0 : Nat) (i1 : Int32) (i2 : Int32) (σ : mm_S) : Option (Int32 × mm_S) :=
    bd (f_X9_isLodger a0 i1 σ) fun r26 σ25 =>
    if r26 = 0 then
      some ((-2 : Int32), σ25)
    else
      if i2 = (-1 : Int32) then
        f_X9_bid_21 a0 i1 i2 σ25
      else
        bd (f_X9_isLodger a0 i2 σ25) fun r31 σ30 =>
        if r31 = 0 then
          some ((-2 : Int32), σ30)
        else
          f_X9_bid_21 a0 i1 i2 σ30
theorem v_X9_bid {g : mm_G} (d : Nat) {a0 : Nat} {i1 : Int32} {i2 : Int32} {σ : mm_S} {res : Int32 × mm_S} (h_a0 : (mm_K a0).1 = 9) (h : f_X9_bid a0 i1 i2 σ = some res) : SM g (d + 3) yy_X9_bid [.ref a0, .int i1, .int i2] σ (.int res.1) res.2 := by
  refine s_of (by decide) (Nat.le_of_ble_eq_true rfl) (L := [(0, .ref a0), (1, .int i1), (2, .int i2)]) rfl ?_
  unfold f_X9_bid at h
  refine e_aload_n 0 dX9_bid_0 rfl rfl ?_
  refine e_iload_n 1 dX9_bid_1 rfl rfl ?_
  obtain ⟨r26, σ25, q24, h⟩ := bd_some h
  refine s_callVi [.int i1] dX9_bid_2 ml_RX9_138 h_a0 ⟨_, rfl, by decide⟩ rfl (v_X9_isLodger (d + 2) h_a0 q24) (Nat.le_of_ble_eq_true rfl) ?_
  refine e_if_eq 26 dX9_bid_5 (by decide) (fun c27 => ?_) (fun c27 => ?_)
  · rw [if_pos c27] at h
    refine e_bipush (v := (-2 : Int32)) dX9_bid_26 (by decide) ?_
    obtain rfl := Option.some.inj h
    exact s_ret rfl ⟨_, rfl, rfl⟩ dX9_bid_28
  · rw [if_neg c27] at h
    refine e_iload_n 2 dX9_bid_8 rfl rfl ?_
    refine e_iconst (v := (-1 : Int32)) dX9_bid_9 (by decide) ?_
    refine e_icmp_eq 21 dX9_bid_10 (by decide) (fun c28 => ?_) (fun c28 => ?_)
    · rw [if_pos c28] at h
      refine s_pick (L' := [(0, .ref a0), (1, .int i1), (2, .int i2)]) [0, 1, 2] rfl ?_
      exact v_X9_bid_21 d h_a0 h
    · rw [if_neg c28] at h
      refine e_aload_n 0 dX9_bid_13 rfl rfl ?_
      refine e_iload_n 2 dX9_bid_14 rfl rfl ?_
      obtain ⟨r31, σ30, q29, h⟩ := bd_some h
      refine s_callVi [.int i2] dX9_bid_15 ml_RX9_138 h_a0 ⟨_, rfl, by decide⟩ rfl (v_X9_isLodger (d + 2) h_a0 q29) (Nat.le_of_ble_eq_true rfl) ?_
      refine e_if_eq 26 dX9_bid_18 (by decide) (fun c32 => ?_) (fun c32 => ?_)
      · rw [if_pos c32] at h
        refine e_bipush (v := (-2 : Int32)) dX9_bid_26 (by decide) ?_
        obtain rfl := Option.some.inj h
        exact s_ret rfl ⟨_, rfl, rfl⟩ dX9_bid_28
      · rw [if_neg c32] at h
        refine s_pick (L' := [(0, .ref a0), (1, .int i1), (2, .int i2)]) [0, 1, 2] rfl ?_
        exact v_X9_bid_21 d h_a0 h
abbrev yy_X9_call : mm_Y := (yX9_call, cX9_call, 2, (some .int))
theorem dX9_call_0 : decode cX9_call 0 = .ok (.aload_n 0, 1) := by decide +kernel
theorem dX9_call_1 : decode cX9_call 1 = .ok (.iload_n 1, 1) := by decide +kernel
theorem dX9_call_2 : decode cX9_call 2 = .ok (.invokevirtual 138, 3) := by decide +kernel
theorem dX9_call_5 : decode cX9_call 5 = .ok (.ifCond .eq 17, 3) := by decide +kernel
theorem dX9_call_8 : decode cX9_call 8 = .ok (.aload_n 0, 1) := by decide +kernel
theorem dX9_call_9 : decode cX9_call 9 = .ok (.getfield 50, 3) := by decide +kernel
theorem dX9_call_12 : decode cX9_call 12 = .ok (.getfield 107, 3) := by decide +kernel
theorem dX9_call_15 : decode cX9_call 15 = .ok (.iload_n 1, 1) := by decide +kernel
theorem dX9_call_16 : decode cX9_call 16 = .ok (.invokevirtual 148, 3) := by decide +kernel
theorem dX9_call_19 : decode cX9_call 19 = .ok (.ifCond .ne 5, 3) := by decide +kernel
theorem dX9_call_22 : decode cX9_call 22 = .ok (.iconst (-1), 1) := by decide +kernel
theorem dX9_call_23 : decode cX9_call 23 = .ok (.ireturn, 1) := by decide +kernel
theorem dX9_call_24 : decode cX9_call 24 = .ok (.aload_n 0, 1) := by decide +kernel
theorem dX9_call_25 : decode cX9_call 25 = .ok (.getfield 65, 3) := by decide +kernel
theorem dX9_call_28 : decode cX9_call 28 = .ok (.aload_n 0, 1) := by decide +kernel
theorem dX9_call_29 : decode cX9_call 29 = .ok (.getfield 50, 3) := by decide +kernel
theorem dX9_call_32 : decode cX9_call 32 = .ok (.getfield 107, 3) := by decide +kernel
theorem dX9_call_35 : decode cX9_call 35 = .ok (.invokevirtual 192, 3) := by decide +kernel
theorem dX9_call_38 : decode cX9_call 38 = .ok (.aload_n 0, 1) := by decide +kernel
theorem dX9_call_39 : decode cX9_call 39 = .ok (.getfield 50, 3) := by decide +kernel
theorem dX9_call_42 : decode cX9_call 42 = .ok (.getfield 107, 3) := by decide +kernel
theorem dX9_call_45 : decode cX9_call 45 = .ok (.dup, 1) := by decide +kernel
theorem dX9_call_46 : decode cX9_call 46 = .ok (.getfield 174, 3) := by decide +kernel
theorem dX9_call_49 : decode cX9_call 49 = .ok (.iconst 1, 1) := by decide +kernel
theorem dX9_call_50 : decode cX9_call 50 = .ok (.iload_n 1, 1) := by decide +kernel
theorem dX9_call_51 : decode cX9_call 51 = .ok (.ishl, 1) := by decide +kernel
theorem dX9_call_52 : decode cX9_call 52 = .ok (.iconst (-1), 1) := by decide +kernel
theorem dX9_call_53 : decode cX9_call 53 = .ok (.ixor, 1) := by decide +kernel
theorem dX9_call_54 : decode cX9_call 54 = .ok (.iand, 1) := by decide +kernel
theorem dX9_call_55 : decode cX9_call 55 = .ok (.putfield 174, 3) := by decide +kernel
theorem dX9_call_58 : decode cX9_call 58 = .ok (.aload_n 0, 1) := by decide +kernel
theorem dX9_call_59 : decode cX9_call 59 = .ok (.getfield 50, 3) := by decide +kernel
theorem dX9_call_62 : decode cX9_call 62 = .ok (.getfield 107, 3) := by decide +kernel
theorem dX9_call_65 : decode cX9_call 65 = .ok (.getfield 174, 3) := by decide +kernel
theorem dX9_call_68 : decode cX9_call 68 = .ok (.ireturn, 1) := by decide +kernel
def f_X9_call (a0 : Nat) (i1 : Int32) (σ : mm_S) : Option (Int32 × mm_S) :=
    bd (f_X9_isLodger a0 i1 σ) fun r15 σ14 =>
    if r15 = 0 then
      some ((-1 : Int32), σ14)
    else
      bd (f_X2_isIn (26 + 5) i1 σ14) fun r19 σ18 =>
      if r19 = 0 then
        some ((-1 : Int32), σ18)
      else
        bv (f_X0_keep 98 (26 + 5) σ18) fun σ22 =>
        lt (su_i σ22 (26 + 5) 1 ((σ22.1 (26 + 5) 1) &&& (((1 : Int32) <<< (i1 &&& 31)) ^^^ (-1 : Int32)))) fun σ23 =>
        some ((σ23.1 (26 + 5) 1), σ23)
theorem v_X9_call {g : mm_G} (d : Nat) {a0 : Nat} {i1 : Int32} {σ : mm_S} {res : Int32 × mm_S} (h_a0 : (mm_K a0).1 = 9) (h : f_X9_call a0 i1 σ = some res) : SM g (d + 3) yy_X9_call [.ref a0, .int i1] σ (.int res.1) res.2 := by
  refine s_of (by decide) (Nat.le_of_ble_eq_true rfl) (L := [(0, .ref a0), (1, .int i1)]) rfl ?_
  unfold f_X9_call at h
  refine e_aload_n 0 dX9_call_0 rfl rfl ?_
  refine e_iload_n 1 dX9_call_1 rfl rfl ?_
  obtain ⟨r15, σ14, q13, h⟩ := bd_some h
  refine s_callVi [.int i1] dX9_call_2 ml_RX9_138 h_a0 ⟨_, rfl, by decide⟩ rfl (v_X9_isLodger (d + 2) h_a0 q13) (Nat.le_of_ble_eq_true rfl) ?_
  refine e_if_eq 22 dX9_call_5 (by decide) (fun c16 => ?_) (fun c16 => ?_)
  · rw [if_pos c16] at h
    refine e_iconst (v := (-1 : Int32)) dX9_call_22 (by decide) ?_
    obtain rfl := Option.some.inj h
    exact s_ret rfl ⟨_, rfl, rfl⟩ dX9_call_23
  · rw [if_neg c16] at h
    refine e_aload_n 0 dX9_call_8 rfl rfl ?_
    refine s_getr dX9_call_9 fl_RX9_50 h_a0 (r_9_5 h_a0).1 ?_
    refine s_getr dX9_call_12 fl_RX9_107 (ka_1 (r_9_5 (w := 0) h_a0).2) (r_8_1 (ka_1 (r_9_5 (w := 0) h_a0).2)).1 ?_
    refine e_iload_n 1 dX9_call_15 rfl rfl ?_
    obtain ⟨r19, σ18, q17, h⟩ := bd_some h
    refine s_callVi [.int i1] dX9_call_16 ml_RX9_148 (ka_1 (r_8_1 (w := 0) (ka_1 (r_9_5 (w := 0) h_a0).2)).2) ⟨_, rfl, by decide⟩ rfl (v_X2_isIn (d + 2) (ka_1 (r_8_1 (w := 0) (ka_1 (r_9_5 (w := 0) h_a0).2)).2) q17) (Nat.le_of_ble_eq_true rfl) ?_
    refine e_if_ne 24 dX9_call_19 (by decide) (fun c20 => ?_) (fun c20 => ?_)
    · rw [if_neg c20] at h
      refine e_aload_n 0 dX9_call_24 rfl rfl ?_
      refine s_getr dX9_call_25 fl_RX9_65 h_a0 (r_9_8 h_a0).1 ?_
      refine e_aload_n 0 dX9_call_28 rfl rfl ?_
      refine s_getr dX9_call_29 fl_RX9_50 h_a0 (r_9_5 h_a0).1 ?_
      refine s_getr dX9_call_32 fl_RX9_107 (ka_1 (r_9_5 (w := 0) h_a0).2) (r_8_1 (ka_1 (r_9_5 (w := 0) h_a0).2)).1 ?_
      obtain ⟨σ22, q21, h⟩ := bv_some h
      refine s_callVv [.ref (26 + 5)] dX9_call_35 ml_RX9_192 (ka_1 (r_9_8 (w := 0) h_a0).2) rfl rfl (v_X0_keep (d + 0) (ka_1 (r_9_8 (w := 0) h_a0).2) (ka_1 (r_8_1 (w := 0) (ka_1 (r_9_5 (w := 0) h_a0).2)).2) q21) (Nat.le_of_ble_eq_true rfl) ?_
      refine e_aload_n 0 dX9_call_38 rfl rfl ?_
      refine s_getr dX9_call_39 fl_RX9_50 h_a0 (r_9_5 h_a0).1 ?_
      refine s_getr dX9_call_42 fl_RX9_107 (ka_1 (r_9_5 (w := 0) h_a0).2) (r_8_1 (ka_1 (r_9_5 (w := 0) h_a0).2)).1 ?_
      refine e_dup dX9_call_45 rfl ?_
      refine s_geti dX9_call_46 fl_RX9_174 (ka_1 (r_8_1 (w := 0) (ka_1 (r_9_5 (w := 0) h_a0).2)).2) ?_
      refine e_iconst (v := (1 : Int32)) dX9_call_49 (by decide) ?_
      refine e_iload_n 1 dX9_call_50 rfl rfl ?_
      refine e_ishl dX9_call_51 ?_
      refine e_iconst (v := (-1 : Int32)) dX9_call_52 (by decide) ?_
      refine e_ixor dX9_call_53 ?_
      refine e_iand dX9_call_54 ?_
      refine s_puti dX9_call_55 fl_RX9_174 (ka_1 (r_8_1 (w := 0) (ka_1 (r_9_5 (w := 0) h_a0).2)).2) rfl rfl rfl ?_
      obtain ⟨σ23, q24, h⟩ := lt_some h
      refine s_nms q24 ?_
      refine e_aload_n 0 dX9_call_58 rfl rfl ?_
      refine s_getr dX9_call_59 fl_RX9_50 h_a0 (r_9_5 h_a0).1 ?_
      refine s_getr dX9_call_62 fl_RX9_107 (ka_1 (r_9_5 (w := 0) h_a0).2) (r_8_1 (ka_1 (r_9_5 (w := 0) h_a0).2)).1 ?_
      refine s_geti dX9_call_65 fl_RX9_174 (ka_1 (r_8_1 (w := 0) (ka_1 (r_9_5 (w := 0) h_a0).2)).2) ?_
      obtain rfl := Option.some.inj h
      exact s_ret rfl ⟨_, rfl, rfl⟩ dX9_call_68
    · rw [if_pos c20] at h
      refine e_iconst (v := (-1 : Int32)) dX9_call_22 (by decide) ?_
      obtain rfl := Option.some.inj h
      exact s_ret rfl ⟨_, rfl, rfl⟩ dX9_call_23
abbrev yy_X9_pay : mm_Y := (yX9_pay, cX9_pay, 4, (some .int))
theorem dX9_pay_0 : decode cX9_pay 0 = .ok (.aload_n 0, 1) := by decide +kernel
theorem dX9_pay_1 : decode cX9_pay 1 = .ok (.iload_n 1, 1) := by decide +kernel
theorem dX9_pay_2 : decode cX9_pay 2 = .ok (.iload_n 2, 1) := by decide +kernel
theorem dX9_pay_3 : decode cX9_pay 3 = .ok (.invokevirtual 157, 3) := by decide +kernel
theorem dX9_pay_6 : decode cX9_pay 6 = .ok (.ifCond .eq 30, 3) := by decide +kernel
theorem dX9_pay_9 : decode cX9_pay 9 = .ok (.iload_n 3, 1) := by decide +kernel
theorem dX9_pay_10 : decode cX9_pay 10 = .ok (.iconst 1, 1) := by decide +kernel
theorem dX9_pay_11 : decode cX9_pay 11 = .ok (.if_icmp .lt 25, 3) := by decide +kernel
theorem dX9_pay_14 : decode cX9_pay 14 = .ok (.iload_n 3, 1) := by decide +kernel
theorem dX9_pay_15 : decode cX9_pay 15 = .ok (.bipush 99, 2) := by decide +kernel
theorem dX9_pay_17 : decode cX9_pay 17 = .ok (.if_icmp .gt 19, 3) := by decide +kernel
theorem dX9_pay_20 : decode cX9_pay 20 = .ok (.iload_n 3, 1) := by decide +kernel
theorem dX9_pay_21 : decode cX9_pay 21 = .ok (.aload_n 0, 1) := by decide +kernel
theorem dX9_pay_22 : decode cX9_pay 22 = .ok (.getfield 50, 3) := by decide +kernel
theorem dX9_pay_25 : decode cX9_pay 25 = .ok (.getfield 107, 3) := by decide +kernel
theorem dX9_pay_28 : decode cX9_pay 28 = .ok (.getfield 145, 3) := by decide +kernel
theorem dX9_pay_31 : decode cX9_pay 31 = .ok (.iload_n 1, 1) := by decide +kernel
theorem dX9_pay_32 : decode cX9_pay 32 = .ok (.iaload, 1) := by decide +kernel
theorem dX9_pay_33 : decode cX9_pay 33 = .ok (.if_icmp .le 5, 3) := by decide +kernel
theorem dX9_pay_36 : decode cX9_pay 36 = .ok (.iconst (-1), 1) := by decide +kernel
theorem dX9_pay_37 : decode cX9_pay 37 = .ok (.ireturn, 1) := by decide +kernel
theorem dX9_pay_38 : decode cX9_pay 38 = .ok (.aload_n 0, 1) := by decide +kernel
theorem dX9_pay_39 : decode cX9_pay 39 = .ok (.getfield 65, 3) := by decide +kernel
theorem dX9_pay_42 : decode cX9_pay 42 = .ok (.aload_n 0, 1) := by decide +kernel
theorem dX9_pay_43 : decode cX9_pay 43 = .ok (.getfield 50, 3) := by decide +kernel
theorem dX9_pay_46 : decode cX9_pay 46 = .ok (.getfield 107, 3) := by decide +kernel
theorem dX9_pay_49 : decode cX9_pay 49 = .ok (.invokevirtual 192, 3) := by decide +kernel
theorem dX9_pay_52 : decode cX9_pay 52 = .ok (.aload_n 0, 1) := by decide +kernel
theorem dX9_pay_53 : decode cX9_pay 53 = .ok (.getfield 50, 3) := by decide +kernel
theorem dX9_pay_56 : decode cX9_pay 56 = .ok (.getfield 107, 3) := by decide +kernel
theorem dX9_pay_59 : decode cX9_pay 59 = .ok (.iload_n 1, 1) := by decide +kernel
theorem dX9_pay_60 : decode cX9_pay 60 = .ok (.iload_n 2, 1) := by decide +kernel
theorem dX9_pay_61 : decode cX9_pay 61 = .ok (.iload_n 3, 1) := by decide +kernel
theorem dX9_pay_62 : decode cX9_pay 62 = .ok (.invokevirtual 205, 3) := by decide +kernel
theorem dX9_pay_65 : decode cX9_pay 65 = .ok (.aload_n 0, 1) := by decide +kernel
theorem dX9_pay_66 : decode cX9_pay 66 = .ok (.getfield 50, 3) := by decide +kernel
theorem dX9_pay_69 : decode cX9_pay 69 = .ok (.getfield 107, 3) := by decide +kernel
theorem dX9_pay_72 : decode cX9_pay 72 = .ok (.getfield 145, 3) := by decide +kernel
theorem dX9_pay_75 : decode cX9_pay 75 = .ok (.iload_n 1, 1) := by decide +kernel
theorem dX9_pay_76 : decode cX9_pay 76 = .ok (.iaload, 1) := by decide +kernel
theorem dX9_pay_77 : decode cX9_pay 77 = .ok (.ireturn, 1) := by decide +kernel
def f_X9_pay (a0 : Nat) (i1 : Int32) (i2 : Int32) (i3 : Int32) (σ : mm_S) : Option (Int32 × mm_S) :=
    bd (f_X9_areUnlike a0 i1 i2 σ) fun r16 σ15 =>
    if r16 = 0 then
      some ((-1 : Int32), σ15)
    else
      if i3 < (1 : Int32) then
        some ((-1 : Int32), σ15)
      else
        if (99 : Int32) < i3 then
          some ((-1 : Int32), σ15)
        else
          gd i1 6 <|
          if i3 ≤ (σ15.1 ((26 + 5) + 2) i1.toNatClampNeg) then
            bv (f_X0_keep 98 (26 + 5) σ15) fun σ23 =>
            bv (f_X2_give (26 + 5) i1 i2 i3 σ23) fun σ25 =>
            gd i1 6 <|
            some ((σ25.1 ((26 + 5) + 2) i1.toNatClampNeg), σ25)
          else
            some ((-1 : Int32), σ15)
theorem v_X9_pay {g : mm_G} (d : Nat) {a0 : Nat} {i1 : Int32} {i2 : Int32} {i3 : Int32} {σ : mm_S} {res : Int32 × mm_S} (h_a0 : (mm_K a0).1 = 9) (h : f_X9_pay a0 i1 i2 i3 σ = some res) : SM g (d + 3) yy_X9_pay [.ref a0, .int i1, .int i2, .int i3] σ (.int res.1) res.2 := by
  refine s_of (by decide) (Nat.le_of_ble_eq_true rfl) (L := [(0, .ref a0), (1, .int i1), (2, .int i2), (3, .int i3)]) rfl ?_
  unfold f_X9_pay at h
  refine e_aload_n 0 dX9_pay_0 rfl rfl ?_
  refine e_iload_n 1 dX9_pay_1 rfl rfl ?_
  refine e_iload_n 2 dX9_pay_2 rfl rfl ?_
  obtain ⟨r16, σ15, q14, h⟩ := bd_some h
  refine s_callVi [.int i1, .int i2] dX9_pay_3 ml_RX9_157 h_a0 ⟨_, rfl, by decide⟩ rfl (v_X9_areUnlike (d + 1) h_a0 q14) (Nat.le_of_ble_eq_true rfl) ?_
  refine e_if_eq 36 dX9_pay_6 (by decide) (fun c17 => ?_) (fun c17 => ?_)
  · rw [if_pos c17] at h
    refine e_iconst (v := (-1 : Int32)) dX9_pay_36 (by decide) ?_
    obtain rfl := Option.some.inj h
    exact s_ret rfl ⟨_, rfl, rfl⟩ dX9_pay_37
  · rw [if_neg c17] at h
    refine e_iload_n 3 dX9_pay_9 rfl rfl ?_
    refine e_iconst (v := (1 : Int32)) dX9_pay_10 (by decide) ?_
    refine e_icmp_lt 36 dX9_pay_11 (by decide) (fun c18 => ?_) (fun c18 => ?_)
    · rw [if_pos c18] at h
      refine e_iconst (v := (-1 : Int32)) dX9_pay_36 (by decide) ?_
      obtain rfl := Option.some.inj h
      exact s_ret rfl ⟨_, rfl, rfl⟩ dX9_pay_37
    · rw [if_neg c18] at h
      refine e_iload_n 3 dX9_pay_14 rfl rfl ?_
      refine e_bipush (v := (99 : Int32)) dX9_pay_15 (by decide) ?_
      refine e_icmp_gt 36 dX9_pay_17 (by decide) (fun c19 => ?_) (fun c19 => ?_)
      · rw [if_pos c19] at h
        refine e_iconst (v := (-1 : Int32)) dX9_pay_36 (by decide) ?_
        obtain rfl := Option.some.inj h
        exact s_ret rfl ⟨_, rfl, rfl⟩ dX9_pay_37
      · rw [if_neg c19] at h
        refine e_iload_n 3 dX9_pay_20 rfl rfl ?_
        refine e_aload_n 0 dX9_pay_21 rfl rfl ?_
        refine s_getr dX9_pay_22 fl_RX9_50 h_a0 (r_9_5 h_a0).1 ?_
        refine s_getr dX9_pay_25 fl_RX9_107 (ka_1 (r_9_5 (w := 0) h_a0).2) (r_8_1 (ka_1 (r_9_5 (w := 0) h_a0).2)).1 ?_
        refine s_getr dX9_pay_28 fl_RX9_145 (ka_1 (r_8_1 (w := 0) (ka_1 (r_9_5 (w := 0) h_a0).2)).2) (r_2_3 (ka_1 (r_8_1 (w := 0) (ka_1 (r_9_5 (w := 0) h_a0).2)).2)).1 ?_
        refine e_iload_n 1 dX9_pay_31 rfl rfl ?_
        obtain ⟨q20, h⟩ := gd_some h
        refine s_iald dX9_pay_32 (r_2_3 (w := 0) (ka_1 (r_8_1 (w := 0) (ka_1 (r_9_5 (w := 0) h_a0).2)).2)).2 q20 ?_
        refine e_icmp_le 38 dX9_pay_33 (by decide) (fun c21 => ?_) (fun c21 => ?_)
        · rw [if_pos c21] at h
          refine e_aload_n 0 dX9_pay_38 rfl rfl ?_
          refine s_getr dX9_pay_39 fl_RX9_65 h_a0 (r_9_8 h_a0).1 ?_
          refine e_aload_n 0 dX9_pay_42 rfl rfl ?_
          refine s_getr dX9_pay_43 fl_RX9_50 h_a0 (r_9_5 h_a0).1 ?_
          refine s_getr dX9_pay_46 fl_RX9_107 (ka_1 (r_9_5 (w := 0) h_a0).2) (r_8_1 (ka_1 (r_9_5 (w := 0) h_a0).2)).1 ?_
          obtain ⟨σ23, q22, h⟩ := bv_some h
          refine s_callVv [.ref (26 + 5)] dX9_pay_49 ml_RX9_192 (ka_1 (r_9_8 (w := 0) h_a0).2) rfl rfl (v_X0_keep (d + 0) (ka_1 (r_9_8 (w := 0) h_a0).2) (ka_1 (r_8_1 (w := 0) (ka_1 (r_9_5 (w := 0) h_a0).2)).2) q22) (Nat.le_of_ble_eq_true rfl) ?_
          refine e_aload_n 0 dX9_pay_52 rfl rfl ?_
          refine s_getr dX9_pay_53 fl_RX9_50 h_a0 (r_9_5 h_a0).1 ?_
          refine s_getr dX9_pay_56 fl_RX9_107 (ka_1 (r_9_5 (w := 0) h_a0).2) (r_8_1 (ka_1 (r_9_5 (w := 0) h_a0).2)).1 ?_
          refine e_iload_n 1 dX9_pay_59 rfl rfl ?_
          refine e_iload_n 2 dX9_pay_60 rfl rfl ?_
          refine e_iload_n 3 dX9_pay_61 rfl rfl ?_
          obtain ⟨σ25, q24, h⟩ := bv_some h
          refine s_callVv [.int i1, .int i2, .int i3] dX9_pay_62 ml_RX9_205 (ka_1 (r_8_1 (w := 0) (ka_1 (r_9_5 (w := 0) h_a0).2)).2) rfl rfl (v_X2_give (d + 1) (ka_1 (r_8_1 (w := 0) (ka_1 (r_9_5 (w := 0) h_a0).2)).2) q24) (Nat.le_of_ble_eq_true rfl) ?_
          refine e_aload_n 0 dX9_pay_65 rfl rfl ?_
          refine s_getr dX9_pay_66 fl_RX9_50 h_a0 (r_9_5 h_a0).1 ?_
          refine s_getr dX9_pay_69 fl_RX9_107 (ka_1 (r_9_5 (w := 0) h_a0).2) (r_8_1 (ka_1 (r_9_5 (w := 0) h_a0).2)).1 ?_
          refine s_getr dX9_pay_72 fl_RX9_145 (ka_1 (r_8_1 (w := 0) (ka_1 (r_9_5 (w := 0) h_a0).2)).2) (r_2_3 (ka_1 (r_8_1 (w := 0) (ka_1 (r_9_5 (w := 0) h_a0).2)).2)).1 ?_
          refine e_iload_n 1 dX9_pay_75 rfl rfl ?_
          obtain ⟨q26, h⟩ := gd_some h
          refine s_iald dX9_pay_76 (r_2_3 (w := 0) (ka_1 (r_8_1 (w := 0) (ka_1 (r_9_5 (w := 0) h_a0).2)).2)).2 q26 ?_
          obtain rfl := Option.some.inj h
          exact s_ret rfl ⟨_, rfl, rfl⟩ dX9_pay_77
        · rw [if_neg c21] at h
          refine e_iconst (v := (-1 : Int32)) dX9_pay_36 (by decide) ?_
          obtain rfl := Option.some.inj h
          exact s_ret rfl ⟨_, rfl, rfl⟩ dX9_pay_37
abbrev yy_X9_tire : mm_Y := (yX9_tire, cX9_tire, 3, (some .int))
theorem dX9_tire_0 : decode cX9_tire 0 = .ok (.aload_n 0, 1) := by decide +kernel
theorem dX9_tire_1 : decode cX9_tire 1 = .ok (.iload_n 1, 1) := by decide +kernel
theorem dX9_tire_2 : decode cX9_tire 2 = .ok (.invokevirtual 138, 3) := by decide +kernel
theorem dX9_tire_5 : decode cX9_tire 5 = .ok (.ifCond .eq 14, 3) := by decide +kernel
theorem dX9_tire_8 : decode cX9_tire 8 = .ok (.iload_n 2, 1) := by decide +kernel
theorem dX9_tire_9 : decode cX9_tire 9 = .ok (.iconst 1, 1) := by decide +kernel
theorem dX9_tire_10 : decode cX9_tire 10 = .ok (.if_icmp .lt 9, 3) := by decide +kernel
theorem dX9_tire_13 : decode cX9_tire 13 = .ok (.iload_n 2, 1) := by decide +kernel
theorem dX9_tire_14 : decode cX9_tire 14 = .ok (.bipush 20, 2) := by decide +kernel
theorem dX9_tire_16 : decode cX9_tire 16 = .ok (.if_icmp .le 5, 3) := by decide +kernel
theorem dX9_tire_19 : decode cX9_tire 19 = .ok (.iconst (-1), 1) := by decide +kernel
theorem dX9_tire_20 : decode cX9_tire 20 = .ok (.ireturn, 1) := by decide +kernel
theorem dX9_tire_21 : decode cX9_tire 21 = .ok (.aload_n 0, 1) := by decide +kernel
theorem dX9_tire_22 : decode cX9_tire 22 = .ok (.getfield 65, 3) := by decide +kernel
theorem dX9_tire_25 : decode cX9_tire 25 = .ok (.aload_n 0, 1) := by decide +kernel
theorem dX9_tire_26 : decode cX9_tire 26 = .ok (.getfield 50, 3) := by decide +kernel
theorem dX9_tire_29 : decode cX9_tire 29 = .ok (.getfield 107, 3) := by decide +kernel
theorem dX9_tire_32 : decode cX9_tire 32 = .ok (.invokevirtual 192, 3) := by decide +kernel
theorem dX9_tire_35 : decode cX9_tire 35 = .ok (.aload_n 0, 1) := by decide +kernel
theorem dX9_tire_36 : decode cX9_tire 36 = .ok (.getfield 50, 3) := by decide +kernel
theorem dX9_tire_39 : decode cX9_tire 39 = .ok (.getfield 107, 3) := by decide +kernel
theorem dX9_tire_42 : decode cX9_tire 42 = .ok (.iload_n 1, 1) := by decide +kernel
theorem dX9_tire_43 : decode cX9_tire 43 = .ok (.iload_n 2, 1) := by decide +kernel
theorem dX9_tire_44 : decode cX9_tire 44 = .ok (.invokevirtual 209, 3) := by decide +kernel
theorem dX9_tire_47 : decode cX9_tire 47 = .ok (.aload_n 0, 1) := by decide +kernel
theorem dX9_tire_48 : decode cX9_tire 48 = .ok (.getfield 50, 3) := by decide +kernel
theorem dX9_tire_51 : decode cX9_tire 51 = .ok (.getfield 107, 3) := by decide +kernel
theorem dX9_tire_54 : decode cX9_tire 54 = .ok (.getfield 142, 3) := by decide +kernel
theorem dX9_tire_57 : decode cX9_tire 57 = .ok (.iload_n 1, 1) := by decide +kernel
theorem dX9_tire_58 : decode cX9_tire 58 = .ok (.iaload, 1) := by decide +kernel
theorem dX9_tire_59 : decode cX9_tire 59 = .ok (.ireturn, 1) := by decide +kernel
def f_X9_tire (a0 : Nat) (i1 : Int32) (i2 : Int32) (σ : mm_S) : Option (Int32 × mm_S) :=
    bd (f_X9_isLodger a0 i1 σ) fun r14 σ13 =>
    if r14 = 0 then
      some ((-1 : Int32), σ13)
    else
      if i2 < (1 : Int32) then
        some ((-1 : Int32), σ13)
      else
        if i2 ≤ (20 : Int32) then
          bv (f_X0_keep 98 (26 + 5) σ13) fun σ19 =>
          bv (f_X2_tireBy (26 + 5) i1 i2 σ19) fun σ21 =>
          gd i1 6 <|
          some ((σ21.1 ((26 + 5) + 1) i1.toNatClampNeg), σ21)
        else
          some ((-1 : Int32), σ13)
theorem v_X9_tire {g : mm_G} (d : Nat) {a0 : Nat} {i1 : Int32} {i2 : Int32} {σ : mm_S} {res : Int32 × mm_S} (h_a0 : (mm_K a0).1 = 9) (h : f_X9_tire a0 i1 i2 σ = some res) : SM g (d + 3) yy_X9_tire [.ref a0, .int i1, .int i2] σ (.int res.1) res.2 := by
  refine s_of (by decide) (Nat.le_of_ble_eq_true rfl) (L := [(0, .ref a0), (1, .int i1), (2, .int i2)]) rfl ?_
  unfold f_X9_tire at h
  refine e_aload_n 0 dX9_tire_0 rfl rfl ?_
  refine e_iload_n 1 dX9_tire_1 rfl rfl ?_
  obtain ⟨r14, σ13, q12, h⟩ := bd_some h
  refine s_callVi [.int i1] dX9_tire_2 ml_RX9_138 h_a0 ⟨_, rfl, by decide⟩ rfl (v_X9_isLodger (d + 2) h_a0 q12) (Nat.le_of_ble_eq_true rfl) ?_
  refine e_if_eq 19 dX9_tire_5 (by decide) (fun c15 => ?_) (fun c15 => ?_)
  · rw [if_pos c15] at h
    refine e_iconst (v := (-1 : Int32)) dX9_tire_19 (by decide) ?_
    obtain rfl := Option.some.inj h
    exact s_ret rfl ⟨_, rfl, rfl⟩ dX9_tire_20
  · rw [if_neg c15] at h
    refine e_iload_n 2 dX9_tire_8 rfl rfl ?_
    refine e_iconst (v := (1 : Int32)) dX9_tire_9 (by decide) ?_
    refine e_icmp_lt 19 dX9_tire_10 (by decide) (fun c16 => ?_) (fun c16 => ?_)
    · rw [if_pos c16] at h
      refine e_iconst (v := (-1 : Int32)) dX9_tire_19 (by decide) ?_
      obtain rfl := Option.some.inj h
      exact s_ret rfl ⟨_, rfl, rfl⟩ dX9_tire_20
    · rw [if_neg c16] at h
      refine e_iload_n 2 dX9_tire_13 rfl rfl ?_
      refine e_bipush (v := (20 : Int32)) dX9_tire_14 (by decide) ?_
      refine e_icmp_le 21 dX9_tire_16 (by decide) (fun c17 => ?_) (fun c17 => ?_)
      · rw [if_pos c17] at h
        refine e_aload_n 0 dX9_tire_21 rfl rfl ?_
        refine s_getr dX9_tire_22 fl_RX9_65 h_a0 (r_9_8 h_a0).1 ?_
        refine e_aload_n 0 dX9_tire_25 rfl rfl ?_
        refine s_getr dX9_tire_26 fl_RX9_50 h_a0 (r_9_5 h_a0).1 ?_
        refine s_getr dX9_tire_29 fl_RX9_107 (ka_1 (r_9_5 (w := 0) h_a0).2) (r_8_1 (ka_1 (r_9_5 (w := 0) h_a0).2)).1 ?_
        obtain ⟨σ19, q18, h⟩ := bv_some h
        refine s_callVv [.ref (26 + 5)] dX9_tire_32 ml_RX9_192 (ka_1 (r_9_8 (w := 0) h_a0).2) rfl rfl (v_X0_keep (d + 0) (ka_1 (r_9_8 (w := 0) h_a0).2) (ka_1 (r_8_1 (w := 0) (ka_1 (r_9_5 (w := 0) h_a0).2)).2) q18) (Nat.le_of_ble_eq_true rfl) ?_
        refine e_aload_n 0 dX9_tire_35 rfl rfl ?_
        refine s_getr dX9_tire_36 fl_RX9_50 h_a0 (r_9_5 h_a0).1 ?_
        refine s_getr dX9_tire_39 fl_RX9_107 (ka_1 (r_9_5 (w := 0) h_a0).2) (r_8_1 (ka_1 (r_9_5 (w := 0) h_a0).2)).1 ?_
        refine e_iload_n 1 dX9_tire_42 rfl rfl ?_
        refine e_iload_n 2 dX9_tire_43 rfl rfl ?_
        obtain ⟨σ21, q20, h⟩ := bv_some h
        refine s_callVv [.int i1, .int i2] dX9_tire_44 ml_RX9_209 (ka_1 (r_8_1 (w := 0) (ka_1 (r_9_5 (w := 0) h_a0).2)).2) rfl rfl (v_X2_tireBy (d + 1) (ka_1 (r_8_1 (w := 0) (ka_1 (r_9_5 (w := 0) h_a0).2)).2) q20) (Nat.le_of_ble_eq_true rfl) ?_
        refine e_aload_n 0 dX9_tire_47 rfl rfl ?_
        refine s_getr dX9_tire_48 fl_RX9_50 h_a0 (r_9_5 h_a0).1 ?_
        refine s_getr dX9_tire_51 fl_RX9_107 (ka_1 (r_9_5 (w := 0) h_a0).2) (r_8_1 (ka_1 (r_9_5 (w := 0) h_a0).2)).1 ?_
        refine s_getr dX9_tire_54 fl_RX9_142 (ka_1 (r_8_1 (w := 0) (ka_1 (r_9_5 (w := 0) h_a0).2)).2) (r_2_2 (ka_1 (r_8_1 (w := 0) (ka_1 (r_9_5 (w := 0) h_a0).2)).2)).1 ?_
        refine e_iload_n 1 dX9_tire_57 rfl rfl ?_
        obtain ⟨q22, h⟩ := gd_some h
        refine s_iald dX9_tire_58 (r_2_2 (w := 0) (ka_1 (r_8_1 (w := 0) (ka_1 (r_9_5 (w := 0) h_a0).2)).2)).2 q22 ?_
        obtain rfl := Option.some.inj h
        exact s_ret rfl ⟨_, rfl, rfl⟩ dX9_tire_59
      · rw [if_neg c17] at h
        refine e_iconst (v := (-1 : Int32)) dX9_tire_19 (by decide) ?_
        obtain rfl := Option.some.inj h
        exact s_ret rfl ⟨_, rfl, rfl⟩ dX9_tire_20
