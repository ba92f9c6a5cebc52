abbrev yy_X10_hour : mm_Y := (yX10_hour, cX10_hour, 1, (some .int))
theorem dX10_hour_0 : decode cX10_hour 0 = .ok (.aload_n 0, 1) := by decide +kernel
theorem dX10_hour_1 : decode cX10_hour 1 = .ok (.invokevirtual 379, 3) := by decide +kernel
theorem dX10_hour_4 : decode cX10_hour 4 = .ok (.ifCond .eq 16, 3) := by decide +kernel
theorem dX10_hour_7 : decode cX10_hour 7 = .ok (.aload_n 0, 1) := by decide +kernel
theorem dX10_hour_8 : decode cX10_hour 8 = .ok (.getfield 39, 3) := by decide +kernel
theorem dX10_hour_11 : decode cX10_hour 11 = .ok (.bipush 10, 2) := by decide +kernel
theorem dX10_hour_13 : decode cX10_hour 13 = .ok (.iaload, 1) := by decide +kernel
theorem dX10_hour_14 : decode cX10_hour 14 = .ok (.sipush 999, 3) := by decide +kernel
theorem dX10_hour_17 : decode cX10_hour 17 = .ok (.if_icmp .ne 5, 3) := by decide +kernel
theorem dX10_hour_20 : decode cX10_hour 20 = .ok (.iconst (-1), 1) := by decide +kernel
theorem dX10_hour_21 : decode cX10_hour 21 = .ok (.ireturn, 1) := by decide +kernel
theorem dX10_hour_22 : decode cX10_hour 22 = .ok (.aload_n 0, 1) := by decide +kernel
theorem dX10_hour_23 : decode cX10_hour 23 = .ok (.invokevirtual 382, 3) := by decide +kernel
theorem dX10_hour_26 : decode cX10_hour 26 = .ok (.aload_n 0, 1) := by decide +kernel
theorem dX10_hour_27 : decode cX10_hour 27 = .ok (.invokevirtual 376, 3) := by decide +kernel
theorem dX10_hour_30 : decode cX10_hour 30 = .ok (.ireturn, 1) := by decide +kernel
def f_X10_hour (a0 : Nat) (σ : mm_S) : Option (Int32 × mm_S) :=
    bd (f_X10_isHouse a0 σ) fun r14 σ13 =>
    if r14 = 0 then
      some ((-1 : Int32), σ13)
    else
      gd (10 : Int32) 121 <|
      if (σ13.1 224 (10 : Int32).toNatClampNeg) = (999 : Int32) then
        some ((-1 : Int32), σ13)
      else
        bv (f_X10_keepsAct a0 σ13) fun σ19 =>
        bd (f_X10_passes a0 σ19) fun r22 σ21 =>
        some (r22, σ21)
theorem v_X10_hour {g : mm_G} (d : Nat) {a0 : Nat} {σ : mm_S} {res : Int32 × mm_S} (h_a0 : (mm_K a0).1 = 10) (h : f_X10_hour a0 σ = some res) : SM g (d + 7) yy_X10_hour [.ref a0] σ (.int res.1) res.2 := by
  refine s_of (by decide) (Nat.le_of_ble_eq_true rfl) (L := [(0, .ref a0)]) rfl ?_
  unfold f_X10_hour at h
  refine e_aload_n 0 dX10_hour_0 rfl rfl ?_
  obtain ⟨r14, σ13, q12, h⟩ := bd_some h
  refine s_callVi [] dX10_hour_1 ml_RX10_379 h_a0 ⟨_, rfl, by decide⟩ rfl (v_X10_isHouse (d + 6) h_a0 q12) (Nat.le_of_ble_eq_true rfl) ?_
  refine e_if_eq 20 dX10_hour_4 (by decide) (fun c15 => ?_) (fun c15 => ?_)
  · rw [if_pos c15] at h
    refine e_iconst (v := (-1 : Int32)) dX10_hour_20 (by decide) ?_
    obtain rfl := Option.some.inj h
    exact s_ret rfl ⟨_, rfl, rfl⟩ dX10_hour_21
  · rw [if_neg c15] at h
    refine e_aload_n 0 dX10_hour_7 rfl rfl ?_
    refine s_getr dX10_hour_8 fl_RX10_39 h_a0 (r_10_20 h_a0).1 ?_
    refine e_bipush (v := (10 : Int32)) dX10_hour_11 (by decide) ?_
    obtain ⟨q16, h⟩ := gd_some h
    refine s_iald dX10_hour_13 (r_10_20 (w := 0) h_a0).2 q16 ?_
    refine e_sipush (v := (999 : Int32)) dX10_hour_14 (by decide) ?_
    refine e_icmp_ne 22 dX10_hour_17 (by decide) (fun c17 => ?_) (fun c17 => ?_)
    · rw [if_neg c17] at h
      refine e_aload_n 0 dX10_hour_22 rfl rfl ?_
      obtain ⟨σ19, q18, h⟩ := bv_some h
      refine s_callVv [] dX10_hour_23 ml_RX10_382 h_a0 rfl rfl (v_X10_keepsAct (d + 6) h_a0 q18) (Nat.le_of_ble_eq_true rfl) ?_
      refine e_aload_n 0 dX10_hour_26 rfl rfl ?_
      obtain ⟨r22, σ21, q20, h⟩ := bd_some h
      refine s_callVi [] dX10_hour_27 ml_RX10_376 h_a0 ⟨_, rfl, by decide⟩ rfl (v_X10_passes (d + 0) h_a0 q20) (Nat.le_of_ble_eq_true rfl) ?_
      obtain rfl := Option.some.inj h
      exact s_ret rfl ⟨_, rfl, rfl⟩ dX10_hour_30
    · rw [if_pos c17] at h
      refine e_iconst (v := (-1 : Int32)) dX10_hour_20 (by decide) ?_
      obtain rfl := Option.some.inj h
      exact s_ret rfl ⟨_, rfl, rfl⟩ dX10_hour_21
abbrev yy_X10_bid : mm_Y := (yX10_bid, cX10_bid, 4, (some .int))
theorem dX10_bid_0 : decode cX10_bid 0 = .ok (.aload_n 0, 1) := by decide +kernel
theorem dX10_bid_1 : decode cX10_bid 1 = .ok (.iload_n 1, 1) := by decide +kernel
theorem dX10_bid_2 : decode cX10_bid 2 = .ok (.invokevirtual 320, 3) := by decide +kernel
theorem dX10_bid_5 : decode cX10_bid 5 = .ok (.ifCond .eq 34, 3) := by decide +kernel
theorem dX10_bid_8 : decode cX10_bid 8 = .ok (.iload_n 2, 1) := by decide +kernel
theorem dX10_bid_9 : decode cX10_bid 9 = .ok (.iconst (-1), 1) := by decide +kernel
theorem dX10_bid_10 : decode cX10_bid 10 = .ok (.if_icmp .eq 12, 3) := by decide +kernel
theorem dX10_bid_13 : decode cX10_bid 13 = .ok (.aload_n 0, 1) := by decide +kernel
theorem dX10_bid_14 : decode cX10_bid 14 = .ok (.iload_n 1, 1) := by decide +kernel
theorem dX10_bid_15 : decode cX10_bid 15 = .ok (.iload_n 2, 1) := by decide +kernel
theorem dX10_bid_16 : decode cX10_bid 16 = .ok (.invokevirtual 325, 3) := by decide +kernel
theorem dX10_bid_19 : decode cX10_bid 19 = .ok (.ifCond .eq 20, 3) := by decide +kernel
theorem dX10_bid_22 : decode cX10_bid 22 = .ok (.aload_n 0, 1) := by decide +kernel
theorem dX10_bid_23 : decode cX10_bid 23 = .ok (.iload_n 1, 1) := by decide +kernel
theorem dX10_bid_24 : decode cX10_bid 24 = .ok (.invokevirtual 302, 3) := by decide +kernel
theorem dX10_bid_27 : decode cX10_bid 27 = .ok (.ifCond .ne 12, 3) := by decide +kernel
theorem dX10_bid_30 : decode cX10_bid 30 = .ok (.aload_n 0, 1) := by decide +kernel
theorem dX10_bid_31 : decode cX10_bid 31 = .ok (.iload_n 1, 1) := by decide +kernel
theorem dX10_bid_32 : decode cX10_bid 32 = .ok (.invokevirtual 305, 3) := by decide +kernel
theorem dX10_bid_35 : decode cX10_bid 35 = .ok (.iload_n 2, 1) := by decide +kernel
theorem dX10_bid_36 : decode cX10_bid 36 = .ok (.if_icmp .ne 6, 3) := by decide +kernel
theorem dX10_bid_39 : decode cX10_bid 39 = .ok (.bipush (-2), 2) := by decide +kernel
theorem dX10_bid_41 : decode cX10_bid 41 = .ok (.ireturn, 1) := by decide +kernel
theorem dX10_bid_42 : decode cX10_bid 42 = .ok (.aload_n 0, 1) := by decide +kernel
theorem dX10_bid_43 : decode cX10_bid 43 = .ok (.invokevirtual 382, 3) := by decide +kernel
theorem dX10_bid_46 : decode cX10_bid 46 = .ok (.aload_n 0, 1) := by decide +kernel
theorem dX10_bid_47 : decode cX10_bid 47 = .ok (.iload_n 1, 1) := by decide +kernel
theorem dX10_bid_48 : decode cX10_bid 48 = .ok (.invokevirtual 305, 3) := by decide +kernel
theorem dX10_bid_51 : decode cX10_bid 51 = .ok (.istore_n 3, 1) := by decide +kernel
theorem dX10_bid_52 : decode cX10_bid 52 = .ok (.aload_n 0, 1) := by decide +kernel
theorem dX10_bid_53 : decode cX10_bid 53 = .ok (.getfield 39, 3) := by decide +kernel
theorem dX10_bid_56 : decode cX10_bid 56 = .ok (.bipush 11, 2) := by decide +kernel
theorem dX10_bid_58 : decode cX10_bid 58 = .ok (.iconst 5, 1) := by decide +kernel
theorem dX10_bid_59 : decode cX10_bid 59 = .ok (.iload_n 1, 1) := by decide +kernel
theorem dX10_bid_60 : decode cX10_bid 60 = .ok (.imul, 1) := by decide +kernel
theorem dX10_bid_61 : decode cX10_bid 61 = .ok (.iadd, 1) := by decide +kernel
theorem dX10_bid_62 : decode cX10_bid 62 = .ok (.iconst 3, 1) := by decide +kernel
theorem dX10_bid_63 : decode cX10_bid 63 = .ok (.iadd, 1) := by decide +kernel
theorem dX10_bid_64 : decode cX10_bid 64 = .ok (.iload_n 2, 1) := by decide +kernel
theorem dX10_bid_65 : decode cX10_bid 65 = .ok (.iastore, 1) := by decide +kernel
theorem dX10_bid_66 : decode cX10_bid 66 = .ok (.iload_n 3, 1) := by decide +kernel
theorem dX10_bid_67 : decode cX10_bid 67 = .ok (.ireturn, 1) := by decide +kernel
def f_X10_bid_22 (a0 : Nat) (i1 : Int32) (i2 : Int32) (σ : mm_S) : Option (Int32 × mm_S) :=
    bd (f_X10_isIn a0 i1 σ) fun r3 σ2 =>
    if r3 = 0 then
      bd (f_X10_soughtBy a0 i1 σ2) fun r7 σ6 =>
      if r7 = i2 then
        some ((-2 : Int32), σ6)
      else
        bv (f_X10_keepsAct a0 σ6) fun σ10 =>
        bd (f_X10_soughtBy a0 i1 σ10) fun r13 σ12 =>
        gd (((11 : Int32) + ((5 : Int32) * i1)) + (3 : Int32)) 121 <|
        lt (su_i σ12 224 (((11 : Int32) + ((5 : Int32) * i1)) + (3 : Int32)).toNatClampNeg i2) fun σ15 =>
        some (r13, σ15)
    else
      some ((-2 : Int32), σ2)
theorem v_X10_bid_22 {g : mm_G} (d : Nat) {a0 : Nat} {i1 : Int32} {i2 : Int32} {σ : mm_S} {res : Int32 × mm_S}  (h_a0 : (mm_K a0).1 = 10) (h : f_X10_bid_22 a0 i1 i2 σ = some res) : SV g (d + 2) yy_X10_bid 22 [(0, .ref a0), (1, .int i1), (2, .int i2)] [] σ (.int res.1) res.2 := by
  unfold f_X10_bid_22 at h
  refine e_aload_n 0 dX10_bid_22 rfl rfl ?_
  refine e_iload_n 1 dX10_bid_23 rfl rfl ?_
  obtain ⟨r3, σ2, q1, h⟩ := bd_some h
  refine s_callVi [.int i1] dX10_bid_24 ml_RX10_302 h_a0 ⟨_, rfl, by decide⟩ rfl (v_X10_isIn (d + 1) h_a0 q1) (Nat.le_of_ble_eq_true rfl) ?_
  refine e_if_ne 39 dX10_bid_27 (by decide) (fun c4 => ?_) (fun c4 => ?_)
  · rw [if_neg c4] at h
    refine e_bipush (v := (-2 : Int32)) dX10_bid_39 (by decide) ?_
    obtain rfl := Option.some.inj h
    exact s_ret rfl ⟨_, rfl, rfl⟩ dX10_bid_41
  · rw [if_pos c4] at h
    refine e_aload_n 0 dX10_bid_30 rfl rfl ?_
    refine e_iload_n 1 dX10_bid_31 rfl rfl ?_
    obtain ⟨r7, σ6, q5, h⟩ := bd_some h
    refine s_callVi [.int i1] dX10_bid_32 ml_RX10_305 h_a0 ⟨_, rfl, by decide⟩ rfl (v_X10_soughtBy (d + 1) h_a0 q5) (Nat.le_of_ble_eq_true rfl) ?_
    refine e_iload_n 2 dX10_bid_35 rfl rfl ?_
    refine e_icmp_ne 42 dX10_bid_36 (by decide) (fun c8 => ?_) (fun c8 => ?_)
    · rw [if_neg c8] at h
      refine e_aload_n 0 dX10_bid_42 rfl rfl ?_
      obtain ⟨σ10, q9, h⟩ := bv_some h
      refine s_callVv [] dX10_bid_43 ml_RX10_382 h_a0 rfl rfl (v_X10_keepsAct (d + 1) h_a0 q9) (Nat.le_of_ble_eq_true rfl) ?_
      refine e_aload_n 0 dX10_bid_46 rfl rfl ?_
      refine e_iload_n 1 dX10_bid_47 rfl rfl ?_
      obtain ⟨r13, σ12, q11, h⟩ := bd_some h
      refine s_callVi [.int i1] dX10_bid_48 ml_RX10_305 h_a0 ⟨_, rfl, by decide⟩ rfl (v_X10_soughtBy (d + 1) h_a0 q11) (Nat.le_of_ble_eq_true rfl) ?_
      refine e_istore_n (L' := [(0, .ref a0), (1, .int i1), (2, .int i2), (3, .int r13)]) dX10_bid_51 rfl (by decide) rfl ?_
      refine e_aload_n 0 dX10_bid_52 rfl rfl ?_
      refine s_getr dX10_bid_53 fl_RX10_39 h_a0 (r_10_20 h_a0).1 ?_
      refine e_bipush (v := (11 : Int32)) dX10_bid_56 (by decide) ?_
      refine e_iconst (v := (5 : Int32)) dX10_bid_58 (by decide) ?_
      refine e_iload_n 1 dX10_bid_59 rfl rfl ?_
      refine e_imul dX10_bid_60 ?_
      refine e_iadd dX10_bid_61 ?_
      refine e_iconst (v := (3 : Int32)) dX10_bid_62 (by decide) ?_
      refine e_iadd dX10_bid_63 ?_
      refine e_iload_n 2 dX10_bid_64 rfl rfl ?_
      obtain ⟨q14, h⟩ := gd_some h
      refine s_iast dX10_bid_65 (r_10_20 (w := 0) h_a0).2 q14 ?_
      obtain ⟨σ15, q16, h⟩ := lt_some h
      refine s_nms q16 ?_
      refine e_iload_n 3 dX10_bid_66 rfl rfl ?_
      obtain rfl := Option.some.inj h
      exact s_ret rfl ⟨_, rfl, rfl⟩ dX10_bid_67
    · rw [if_pos c8] at h
      refine e_bipush (v := (-2 : Int32)) dX10_bid_39 (by decide) ?_
      obtain rfl := Option.some.inj h
      exact s_ret rfl ⟨_, rfl, rfl⟩ dX10_bid_41
def f_X10_bid (a0 : Nat) (i1 : Int32) (i2 : Int32) (σ : mm_S) : Option (Int32 × mm_S) :=
    bd (f_X10_isLodger a0 i1 σ) fun r28 σ27 =>
    if r28 = 0 then
      some ((-2 : Int32), σ27)
    else
      if i2 = (-1 : Int32) then
        f_X10_bid_22 a0 i1 i2 σ27
      else
        bd (f_X10_areTwo a0 i1 i2 σ27) fun r33 σ32 =>
        if r33 = 0 then
          some ((-2 : Int32), σ32)
        else
          f_X10_bid_22 a0 i1 i2 σ32
theorem v_X10_bid {g : mm_G} (d : Nat) {a0 : Nat} {i1 : Int32} {i2 : Int32} {σ : mm_S} {res : Int32 × mm_S} (h_a0 : (mm_K a0).1 = 10) (h : f_X10_bid a0 i1 i2 σ = some res) : SM g (d + 2) yy_X10_bid [.ref a0, .int i1, .int i2] σ (.int res.1) res.2 := by
  refine s_of (by decide) (Nat.le_of_ble_eq_true rfl) (L := [(0, .ref a0), (1, .int i1), (2, .int i2)]) rfl ?_
  unfold f_X10_bid at h
  refine e_aload_n 0 dX10_bid_0 rfl rfl ?_
  refine e_iload_n 1 dX10_bid_1 rfl rfl ?_
  obtain ⟨r28, σ27, q26, h⟩ := bd_some h
  refine s_callVi [.int i1] dX10_bid_2 ml_RX10_320 h_a0 ⟨_, rfl, by decide⟩ rfl (v_X10_isLodger (d + 1) h_a0 q26) (Nat.le_of_ble_eq_true rfl) ?_
  refine e_if_eq 39 dX10_bid_5 (by decide) (fun c29 => ?_) (fun c29 => ?_)
  · rw [if_pos c29] at h
    refine e_bipush (v := (-2 : Int32)) dX10_bid_39 (by decide) ?_
    obtain rfl := Option.some.inj h
    exact s_ret rfl ⟨_, rfl, rfl⟩ dX10_bid_41
  · rw [if_neg c29] at h
    refine e_iload_n 2 dX10_bid_8 rfl rfl ?_
    refine e_iconst (v := (-1 : Int32)) dX10_bid_9 (by decide) ?_
    refine e_icmp_eq 22 dX10_bid_10 (by decide) (fun c30 => ?_) (fun c30 => ?_)
    · rw [if_pos c30] at h
      refine s_pick (L' := [(0, .ref a0), (1, .int i1), (2, .int i2)]) [0, 1, 2] rfl ?_
      exact v_X10_bid_22 d h_a0 h
    · rw [if_neg c30] at h
      refine e_aload_n 0 dX10_bid_13 rfl rfl ?_
      refine e_iload_n 1 dX10_bid_14 rfl rfl ?_
      refine e_iload_n 2 dX10_bid_15 rfl rfl ?_
      obtain ⟨r33, σ32, q31, h⟩ := bd_some h
      refine s_callVi [.int i1, .int i2] dX10_bid_16 ml_RX10_325 h_a0 ⟨_, rfl, by decide⟩ rfl (v_X10_areTwo (d + 0) h_a0 q31) (Nat.le_of_ble_eq_true rfl) ?_
      refine e_if_eq 39 dX10_bid_19 (by decide) (fun c34 => ?_) (fun c34 => ?_)
      · rw [if_pos c34] at h
        refine e_bipush (v := (-2 : Int32)) dX10_bid_39 (by decide) ?_
        obtain rfl := Option.some.inj h
        exact s_ret rfl ⟨_, rfl, rfl⟩ dX10_bid_41
      · rw [if_neg c34] at h
        refine s_pick (L' := [(0, .ref a0), (1, .int i1), (2, .int i2)]) [0, 1, 2] rfl ?_
        exact v_X10_bid_22 d h_a0 h
abbrev yy_X10_call : mm_Y := (yX10_call, cX10_call, 2, (some .int))
theorem dX10_call_0 : decode cX10_call 0 = .ok (.aload_n 0, 1) := by decide +kernel
theorem dX10_call_1 : decode cX10_call 1 = .ok (.iload_n 1, 1) := by decide +kernel
theorem dX10_call_2 : decode cX10_call 2 = .ok (.invokevirtual 320, 3) := by decide +kernel
theorem dX10_call_5 : decode cX10_call 5 = .ok (.ifCond .eq 11, 3) := by decide +kernel
theorem dX10_call_8 : decode cX10_call 8 = .ok (.aload_n 0, 1) := by decide +kernel
theorem dX10_call_9 : decode cX10_call 9 = .ok (.iload_n 1, 1) := by decide +kernel
theorem dX10_call_10 : decode cX10_call 10 = .ok (.invokevirtual 302, 3) := by decide +kernel
theorem dX10_call_13 : decode cX10_call 13 = .ok (.ifCond .ne 5, 3) := by decide +kernel
theorem dX10_call_16 : decode cX10_call 16 = .ok (.iconst (-1), 1) := by decide +kernel
theorem dX10_call_17 : decode cX10_call 17 = .ok (.ireturn, 1) := by decide +kernel
theorem dX10_call_18 : decode cX10_call 18 = .ok (.aload_n 0, 1) := by decide +kernel
theorem dX10_call_19 : decode cX10_call 19 = .ok (.invokevirtual 382, 3) := by decide +kernel
theorem dX10_call_22 : decode cX10_call 22 = .ok (.aload_n 0, 1) := by decide +kernel
theorem dX10_call_23 : decode cX10_call 23 = .ok (.getfield 39, 3) := by decide +kernel
theorem dX10_call_26 : decode cX10_call 26 = .ok (.bipush 11, 2) := by decide +kernel
theorem dX10_call_28 : decode cX10_call 28 = .ok (.iconst 5, 1) := by decide +kernel
theorem dX10_call_29 : decode cX10_call 29 = .ok (.iload_n 1, 1) := by decide +kernel
theorem dX10_call_30 : decode cX10_call 30 = .ok (.imul, 1) := by decide +kernel
theorem dX10_call_31 : decode cX10_call 31 = .ok (.iadd, 1) := by decide +kernel
theorem dX10_call_32 : decode cX10_call 32 = .ok (.iconst 2, 1) := by decide +kernel
theorem dX10_call_33 : decode cX10_call 33 = .ok (.iadd, 1) := by decide +kernel
theorem dX10_call_34 : decode cX10_call 34 = .ok (.iconst 0, 1) := by decide +kernel
theorem dX10_call_35 : decode cX10_call 35 = .ok (.iastore, 1) := by decide +kernel
theorem dX10_call_36 : decode cX10_call 36 = .ok (.aload_n 0, 1) := by decide +kernel
theorem dX10_call_37 : decode cX10_call 37 = .ok (.invokevirtual 335, 3) := by decide +kernel
theorem dX10_call_40 : decode cX10_call 40 = .ok (.ireturn, 1) := by decide +kernel
def f_X10_call (a0 : Nat) (i1 : Int32) (σ : mm_S) : Option (Int32 × mm_S) :=
    bd (f_X10_isLodger a0 i1 σ) fun r19 σ18 =>
    if r19 = 0 then
      some ((-1 : Int32), σ18)
    else
      bd (f_X10_isIn a0 i1 σ18) fun r23 σ22 =>
      if r23 = 0 then
        some ((-1 : Int32), σ22)
      else
        bv (f_X10_keepsAct a0 σ22) fun σ26 =>
        gd (((11 : Int32) + ((5 : Int32) * i1)) + (2 : Int32)) 121 <|
        lt (su_i σ26 224 (((11 : Int32) + ((5 : Int32) * i1)) + (2 : Int32)).toNatClampNeg (0 : Int32)) fun σ28 =>
        bd (f_X10_inside a0 σ28) fun r32 σ31 =>
        some (r32, σ31)
theorem v_X10_call {g : mm_G} (d : Nat) {a0 : Nat} {i1 : Int32} {σ : mm_S} {res : Int32 × mm_S} (h_a0 : (mm_K a0).1 = 10) (h : f_X10_call a0 i1 σ = some res) : SM g (d + 2) yy_X10_call [.ref a0, .int i1] σ (.int res.1) res.2 := by
  refine s_of (by decide) (Nat.le_of_ble_eq_true rfl) (L := [(0, .ref a0), (1, .int i1)]) rfl ?_
  unfold f_X10_call at h
  refine e_aload_n 0 dX10_call_0 rfl rfl ?_
  refine e_iload_n 1 dX10_call_1 rfl rfl ?_
  obtain ⟨r19, σ18, q17, h⟩ := bd_some h
  refine s_callVi [.int i1] dX10_call_2 ml_RX10_320 h_a0 ⟨_, rfl, by decide⟩ rfl (v_X10_isLodger (d + 1) h_a0 q17) (Nat.le_of_ble_eq_true rfl) ?_
  refine e_if_eq 16 dX10_call_5 (by decide) (fun c20 => ?_) (fun c20 => ?_)
  · rw [if_pos c20] at h
    refine e_iconst (v := (-1 : Int32)) dX10_call_16 (by decide) ?_
    obtain rfl := Option.some.inj h
    exact s_ret rfl ⟨_, rfl, rfl⟩ dX10_call_17
  · rw [if_neg c20] at h
    refine e_aload_n 0 dX10_call_8 rfl rfl ?_
    refine e_iload_n 1 dX10_call_9 rfl rfl ?_
    obtain ⟨r23, σ22, q21, h⟩ := bd_some h
    refine s_callVi [.int i1] dX10_call_10 ml_RX10_302 h_a0 ⟨_, rfl, by decide⟩ rfl (v_X10_isIn (d + 1) h_a0 q21) (Nat.le_of_ble_eq_true rfl) ?_
    refine e_if_ne 18 dX10_call_13 (by decide) (fun c24 => ?_) (fun c24 => ?_)
    · rw [if_neg c24] at h
      refine e_aload_n 0 dX10_call_18 rfl rfl ?_
      obtain ⟨σ26, q25, h⟩ := bv_some h
      refine s_callVv [] dX10_call_19 ml_RX10_382 h_a0 rfl rfl (v_X10_keepsAct (d + 1) h_a0 q25) (Nat.le_of_ble_eq_true rfl) ?_
      refine e_aload_n 0 dX10_call_22 rfl rfl ?_
      refine s_getr dX10_call_23 fl_RX10_39 h_a0 (r_10_20 h_a0).1 ?_
      refine e_bipush (v := (11 : Int32)) dX10_call_26 (by decide) ?_
      refine e_iconst (v := (5 : Int32)) dX10_call_28 (by decide) ?_
      refine e_iload_n 1 dX10_call_29 rfl rfl ?_
      refine e_imul dX10_call_30 ?_
      refine e_iadd dX10_call_31 ?_
      refine e_iconst (v := (2 : Int32)) dX10_call_32 (by decide) ?_
      refine e_iadd dX10_call_33 ?_
      refine e_iconst (v := (0 : Int32)) dX10_call_34 (by decide) ?_
      obtain ⟨q27, h⟩ := gd_some h
      refine s_iast dX10_call_35 (r_10_20 (w := 0) h_a0).2 q27 ?_
      obtain ⟨σ28, q29, h⟩ := lt_some h
      refine s_nms q29 ?_
      refine e_aload_n 0 dX10_call_36 rfl rfl ?_
      obtain ⟨r32, σ31, q30, h⟩ := bd_some h
      refine s_callVi [] dX10_call_37 ml_RX10_335 h_a0 ⟨_, rfl, by decide⟩ rfl (v_X10_inside (d + 0) h_a0 q30) (Nat.le_of_ble_eq_true rfl) ?_
      obtain rfl := Option.some.inj h
      exact s_ret rfl ⟨_, rfl, rfl⟩ dX10_call_40
    · rw [if_pos c24] at h
      refine e_iconst (v := (-1 : Int32)) dX10_call_16 (by decide) ?_
      obtain rfl := Option.some.inj h
      exact s_ret rfl ⟨_, rfl, rfl⟩ dX10_call_17
abbrev yy_X10_pay : mm_Y := (yX10_pay, cX10_pay, 5, (some .int))
theorem dX10_pay_0 : decode cX10_pay 0 = .ok (.aload_n 0, 1) := by decide +kernel
theorem dX10_pay_1 : decode cX10_pay 1 = .ok (.iload_n 1, 1) := by decide +kernel
theorem dX10_pay_2 : decode cX10_pay 2 = .ok (.iload_n 2, 1) := by decide +kernel
theorem dX10_pay_3 : decode cX10_pay 3 = .ok (.invokevirtual 325, 3) := by decide +kernel
theorem dX10_pay_6 : decode cX10_pay 6 = .ok (.ifCond .eq 24, 3) := by decide +kernel
theorem dX10_pay_9 : decode cX10_pay 9 = .ok (.iload_n 3, 1) := by decide +kernel
theorem dX10_pay_10 : decode cX10_pay 10 = .ok (.i2l, 1) := by decide +kernel
theorem dX10_pay_11 : decode cX10_pay 11 = .ok (.lconst 1, 1) := by decide +kernel
theorem dX10_pay_12 : decode cX10_pay 12 = .ok (.ldc2_w 385, 3) := by decide +kernel
theorem dX10_pay_15 : decode cX10_pay 15 = .ok (.invokestatic 136, 3) := by decide +kernel
theorem dX10_pay_18 : decode cX10_pay 18 = .ok (.ifCond .eq 12, 3) := by decide +kernel
theorem dX10_pay_21 : decode cX10_pay 21 = .ok (.aload_n 0, 1) := by decide +kernel
theorem dX10_pay_22 : decode cX10_pay 22 = .ok (.iload_n 1, 1) := by decide +kernel
theorem dX10_pay_23 : decode cX10_pay 23 = .ok (.invokevirtual 332, 3) := by decide +kernel
theorem dX10_pay_26 : decode cX10_pay 26 = .ok (.iload_n 3, 1) := by decide +kernel
theorem dX10_pay_27 : decode cX10_pay 27 = .ok (.if_icmp .ge 5, 3) := by decide +kernel
theorem dX10_pay_30 : decode cX10_pay 30 = .ok (.iconst (-1), 1) := by decide +kernel
theorem dX10_pay_31 : decode cX10_pay 31 = .ok (.ireturn, 1) := by decide +kernel
theorem dX10_pay_32 : decode cX10_pay 32 = .ok (.aload_n 0, 1) := by decide +kernel
theorem dX10_pay_33 : decode cX10_pay 33 = .ok (.invokevirtual 382, 3) := by decide +kernel
theorem dX10_pay_36 : decode cX10_pay 36 = .ok (.aload_n 0, 1) := by decide +kernel
theorem dX10_pay_37 : decode cX10_pay 37 = .ok (.iload_n 2, 1) := by decide +kernel
theorem dX10_pay_38 : decode cX10_pay 38 = .ok (.invokevirtual 332, 3) := by decide +kernel
theorem dX10_pay_41 : decode cX10_pay 41 = .ok (.iload_n 3, 1) := by decide +kernel
theorem dX10_pay_42 : decode cX10_pay 42 = .ok (.iadd, 1) := by decide +kernel
theorem dX10_pay_43 : decode cX10_pay 43 = .ok (.istore 4, 2) := by decide +kernel
theorem dX10_pay_45 : decode cX10_pay 45 = .ok (.aload_n 0, 1) := by decide +kernel
theorem dX10_pay_46 : decode cX10_pay 46 = .ok (.getfield 39, 3) := by decide +kernel
theorem dX10_pay_49 : decode cX10_pay 49 = .ok (.bipush 11, 2) := by decide +kernel
theorem dX10_pay_51 : decode cX10_pay 51 = .ok (.iconst 5, 1) := by decide +kernel
theorem dX10_pay_52 : decode cX10_pay 52 = .ok (.iload_n 1, 1) := by decide +kernel
theorem dX10_pay_53 : decode cX10_pay 53 = .ok (.imul, 1) := by decide +kernel
theorem dX10_pay_54 : decode cX10_pay 54 = .ok (.iadd, 1) := by decide +kernel
theorem dX10_pay_55 : decode cX10_pay 55 = .ok (.iconst 1, 1) := by decide +kernel
theorem dX10_pay_56 : decode cX10_pay 56 = .ok (.iadd, 1) := by decide +kernel
theorem dX10_pay_57 : decode cX10_pay 57 = .ok (.dup2, 1) := by decide +kernel
theorem dX10_pay_58 : decode cX10_pay 58 = .ok (.iaload, 1) := by decide +kernel
theorem dX10_pay_59 : decode cX10_pay 59 = .ok (.iload_n 3, 1) := by decide +kernel
theorem dX10_pay_60 : decode cX10_pay 60 = .ok (.isub, 1) := by decide +kernel
theorem dX10_pay_61 : decode cX10_pay 61 = .ok (.iastore, 1) := by decide +kernel
theorem dX10_pay_62 : decode cX10_pay 62 = .ok (.aload_n 0, 1) := by decide +kernel
theorem dX10_pay_63 : decode cX10_pay 63 = .ok (.getfield 39, 3) := by decide +kernel
theorem dX10_pay_66 : decode cX10_pay 66 = .ok (.bipush 11, 2) := by decide +kernel
theorem dX10_pay_68 : decode cX10_pay 68 = .ok (.iconst 5, 1) := by decide +kernel
theorem dX10_pay_69 : decode cX10_pay 69 = .ok (.iload_n 2, 1) := by decide +kernel
theorem dX10_pay_70 : decode cX10_pay 70 = .ok (.imul, 1) := by decide +kernel
theorem dX10_pay_71 : decode cX10_pay 71 = .ok (.iadd, 1) := by decide +kernel
theorem dX10_pay_72 : decode cX10_pay 72 = .ok (.iconst 1, 1) := by decide +kernel
theorem dX10_pay_73 : decode cX10_pay 73 = .ok (.iadd, 1) := by decide +kernel
theorem dX10_pay_74 : decode cX10_pay 74 = .ok (.iload 4, 2) := by decide +kernel
theorem dX10_pay_76 : decode cX10_pay 76 = .ok (.sipush 999, 3) := by decide +kernel
theorem dX10_pay_79 : decode cX10_pay 79 = .ok (.if_icmp .le 9, 3) := by decide +kernel
theorem dX10_pay_82 : decode cX10_pay 82 = .ok (.sipush 999, 3) := by decide +kernel
theorem dX10_pay_85 : decode cX10_pay 85 = .ok (.goto 5, 3) := by decide +kernel
theorem dX10_pay_88 : decode cX10_pay 88 = .ok (.iload 4, 2) := by decide +kernel
theorem dX10_pay_90 : decode cX10_pay 90 = .ok (.iastore, 1) := by decide +kernel
theorem dX10_pay_91 : decode cX10_pay 91 = .ok (.aload_n 0, 1) := by decide +kernel
theorem dX10_pay_92 : decode cX10_pay 92 = .ok (.iload_n 1, 1) := by decide +kernel
theorem dX10_pay_93 : decode cX10_pay 93 = .ok (.invokevirtual 332, 3) := by decide +kernel
theorem dX10_pay_96 : decode cX10_pay 96 = .ok (.ireturn, 1) := by decide +kernel
def f_X10_pay (a0 : Nat) (i1 : Int32) (i2 : Int32) (i3 : Int32) (σ : mm_S) : Option (Int32 × mm_S) :=
    bd (f_X10_areTwo a0 i1 i2 σ) fun r39 σ38 =>
    if r39 = 0 then
      some ((-1 : Int32), σ38)
    else
      bd (f_X10_in (i3 : Int32).toInt64 (1 : Int64) (99 : Int64) σ38) fun r43 σ42 =>
      if r43 = 0 then
        some ((-1 : Int32), σ42)
      else
        bd (f_X10_penceOf a0 i1 σ42) fun r47 σ46 =>
        if i3 ≤ r47 then
          bv (f_X10_keepsAct a0 σ46) fun σ50 =>
          bd (f_X10_penceOf a0 i2 σ50) fun r53 σ52 =>
          lt ((r53 + i3)) fun x54 =>
          gd (((11 : Int32) + ((5 : Int32) * i1)) + (1 : Int32)) 121 <|
          gd (((11 : Int32) + ((5 : Int32) * i1)) + (1 : Int32)) 121 <|
          lt (su_i σ52 224 (((11 : Int32) + ((5 : Int32) * i1)) + (1 : Int32)).toNatClampNeg ((σ52.1 224 (((11 : Int32) + ((5 : Int32) * i1)) + (1 : Int32)).toNatClampNeg) - i3)) fun σ58 =>
          if x54 ≤ (999 : Int32) then
            gd (((11 : Int32) + ((5 : Int32) * i2)) + (1 : Int32)) 121 <|
            lt (su_i σ58 224 (((11 : Int32) + ((5 : Int32) * i2)) + (1 : Int32)).toNatClampNeg x54) fun σ62 =>
            bd (f_X10_penceOf a0 i1 σ62) fun r66 σ65 =>
            some (r66, σ65)
          else
            gd (((11 : Int32) + ((5 : Int32) * i2)) + (1 : Int32)) 121 <|
            lt (su_i σ58 224 (((11 : Int32) + ((5 : Int32) * i2)) + (1 : Int32)).toNatClampNeg (999 : Int32)) fun σ68 =>
            bd (f_X10_penceOf a0 i1 σ68) fun r72 σ71 =>
            some (r72, σ71)
        else
          some ((-1 : Int32), σ46)
theorem v_X10_pay {g : mm_G} (d : Nat) {a0 : Nat} {i1 : Int32} {i2 : Int32} {i3 : Int32} {σ : mm_S} {res : Int32 × mm_S} (h_a0 : (mm_K a0).1 = 10) (h : f_X10_pay a0 i1 i2 i3 σ = some res) : SM g (d + 2) yy_X10_pay [.ref a0, .int i1, .int i2, .int i3] σ (.int res.1) res.2 := by
  refine s_of (by decide) (Nat.le_of_ble_eq_true rfl) (L := [(0, .ref a0), (1, .int i1), (2, .int i2), (3, .int i3)]) rfl ?_
  unfold f_X10_pay at h
  refine e_aload_n 0 dX10_pay_0 rfl rfl ?_
  refine e_iload_n 1 dX10_pay_1 rfl rfl ?_
  refine e_iload_n 2 dX10_pay_2 rfl rfl ?_
  obtain ⟨r39, σ38, q37, h⟩ := bd_some h
  refine s_callVi [.int i1, .int i2] dX10_pay_3 ml_RX10_325 h_a0 ⟨_, rfl, by decide⟩ rfl (v_X10_areTwo (d + 0) h_a0 q37) (Nat.le_of_ble_eq_true rfl) ?_
  refine e_if_eq 30 dX10_pay_6 (by decide) (fun c40 => ?_) (fun c40 => ?_)
  · rw [if_pos c40] at h
    refine e_iconst (v := (-1 : Int32)) dX10_pay_30 (by decide) ?_
    obtain rfl := Option.some.inj h
    exact s_ret rfl ⟨_, rfl, rfl⟩ dX10_pay_31
  · rw [if_neg c40] at h
    refine e_iload_n 3 dX10_pay_9 rfl rfl ?_
    refine e_i2l dX10_pay_10 ?_
    refine e_lconst (v := (1 : Int64)) dX10_pay_11 (by decide) ?_
    refine e_ldc2 dX10_pay_12 co_RX10_385 ?_
    obtain ⟨r43, σ42, q41, h⟩ := bd_some h
    refine s_callSi [.long (i3 : Int32).toInt64, .long (1 : Int64), .long (99 : Int64)] dX10_pay_15 ml_RX10_136 ⟨_, rfl, by decide⟩ rfl (v_X10_in (d + 1)  q41) (Nat.le_of_ble_eq_true rfl) ?_
    refine e_if_eq 30 dX10_pay_18 (by decide) (fun c44 => ?_) (fun c44 => ?_)
    · rw [if_pos c44] at h
      refine e_iconst (v := (-1 : Int32)) dX10_pay_30 (by decide) ?_
      obtain rfl := Option.some.inj h
      exact s_ret rfl ⟨_, rfl, rfl⟩ dX10_pay_31
    · rw [if_neg c44] at h
      refine e_aload_n 0 dX10_pay_21 rfl rfl ?_
      refine e_iload_n 1 dX10_pay_22 rfl rfl ?_
      obtain ⟨r47, σ46, q45, h⟩ := bd_some h
      refine s_callVi [.int i1] dX10_pay_23 ml_RX10_332 h_a0 ⟨_, rfl, by decide⟩ rfl (v_X10_penceOf (d + 1) h_a0 q45) (Nat.le_of_ble_eq_true rfl) ?_
      refine e_iload_n 3 dX10_pay_26 rfl rfl ?_
      refine e_icmp_ge 32 dX10_pay_27 (by decide) (fun c48 => ?_) (fun c48 => ?_)
      · rw [if_pos c48] at h
        refine e_aload_n 0 dX10_pay_32 rfl rfl ?_
        obtain ⟨σ50, q49, h⟩ := bv_some h
        refine s_callVv [] dX10_pay_33 ml_RX10_382 h_a0 rfl rfl (v_X10_keepsAct (d + 1) h_a0 q49) (Nat.le_of_ble_eq_true rfl) ?_
        refine e_aload_n 0 dX10_pay_36 rfl rfl ?_
        refine e_iload_n 2 dX10_pay_37 rfl rfl ?_
        obtain ⟨r53, σ52, q51, h⟩ := bd_some h
        refine s_callVi [.int i2] dX10_pay_38 ml_RX10_332 h_a0 ⟨_, rfl, by decide⟩ rfl (v_X10_penceOf (d + 1) h_a0 q51) (Nat.le_of_ble_eq_true rfl) ?_
        refine e_iload_n 3 dX10_pay_41 rfl rfl ?_
        refine e_iadd dX10_pay_42 ?_
        obtain ⟨x54, q55, h⟩ := lt_some h
        refine s_nmi q55 ?_
        refine e_istore (L' := [(0, .ref a0), (1, .int i1), (2, .int i2), (3, .int i3), (4, .int x54)]) dX10_pay_43  (by decide) rfl ?_
        refine e_aload_n 0 dX10_pay_45 rfl rfl ?_
        refine s_getr dX10_pay_46 fl_RX10_39 h_a0 (r_10_20 h_a0).1 ?_
        refine e_bipush (v := (11 : Int32)) dX10_pay_49 (by decide) ?_
        refine e_iconst (v := (5 : Int32)) dX10_pay_51 (by decide) ?_
        refine e_iload_n 1 dX10_pay_52 rfl rfl ?_
        refine e_imul dX10_pay_53 ?_
        refine e_iadd dX10_pay_54 ?_
        refine e_iconst (v := (1 : Int32)) dX10_pay_55 (by decide) ?_
        refine e_iadd dX10_pay_56 ?_
        refine e_dup2 dX10_pay_57 rfl rfl ?_
        obtain ⟨q56, h⟩ := gd_some h
        refine s_iald dX10_pay_58 (r_10_20 (w := 0) h_a0).2 q56 ?_
        refine e_iload_n 3 dX10_pay_59 rfl rfl ?_
        refine e_isub dX10_pay_60 ?_
        obtain ⟨q57, h⟩ := gd_some h
        refine s_iast dX10_pay_61 (r_10_20 (w := 0) h_a0).2 q57 ?_
        obtain ⟨σ58, q59, h⟩ := lt_some h
        refine s_nms q59 ?_
        refine e_aload_n 0 dX10_pay_62 rfl rfl ?_
        refine s_getr dX10_pay_63 fl_RX10_39 h_a0 (r_10_20 h_a0).1 ?_
        refine e_bipush (v := (11 : Int32)) dX10_pay_66 (by decide) ?_
        refine e_iconst (v := (5 : Int32)) dX10_pay_68 (by decide) ?_
        refine e_iload_n 2 dX10_pay_69 rfl rfl ?_
        refine e_imul dX10_pay_70 ?_
        refine e_iadd dX10_pay_71 ?_
        refine e_iconst (v := (1 : Int32)) dX10_pay_72 (by decide) ?_
        refine e_iadd dX10_pay_73 ?_
        refine e_iload 4 dX10_pay_74  rfl ?_
        refine e_sipush (v := (999 : Int32)) dX10_pay_76 (by decide) ?_
        refine e_icmp_le 88 dX10_pay_79 (by decide) (fun c60 => ?_) (fun c60 => ?_)
        · rw [if_pos c60] at h
          refine e_iload 4 dX10_pay_88  rfl ?_
          obtain ⟨q61, h⟩ := gd_some h
          refine s_iast dX10_pay_90 (r_10_20 (w := 0) h_a0).2 q61 ?_
          obtain ⟨σ62, q63, h⟩ := lt_some h
          refine s_nms q63 ?_
          refine e_aload_n 0 dX10_pay_91 rfl rfl ?_
          refine e_iload_n 1 dX10_pay_92 rfl rfl ?_
          obtain ⟨r66, σ65, q64, h⟩ := bd_some h
          refine s_callVi [.int i1] dX10_pay_93 ml_RX10_332 h_a0 ⟨_, rfl, by decide⟩ rfl (v_X10_penceOf (d + 1) h_a0 q64) (Nat.le_of_ble_eq_true rfl) ?_
          obtain rfl := Option.some.inj h
          exact s_ret rfl ⟨_, rfl, rfl⟩ dX10_pay_96
        · rw [if_neg c60] at h
          refine e_sipush (v := (999 : Int32)) dX10_pay_82 (by decide) ?_
          refine e_goto 90 dX10_pay_85 (by decide) ?_
          obtain ⟨q67, h⟩ := gd_some h
          refine s_iast dX10_pay_90 (r_10_20 (w := 0) h_a0).2 q67 ?_
          obtain ⟨σ68, q69, h⟩ := lt_some h
          refine s_nms q69 ?_
          refine e_aload_n 0 dX10_pay_91 rfl rfl ?_
          refine e_iload_n 1 dX10_pay_92 rfl rfl ?_
          obtain ⟨r72, σ71, q70, h⟩ := bd_some h
          refine s_callVi [.int i1] dX10_pay_93 ml_RX10_332 h_a0 ⟨_, rfl, by decide⟩ rfl (v_X10_penceOf (d + 1) h_a0 q70) (Nat.le_of_ble_eq_true rfl) ?_
          obtain rfl := Option.some.inj h
          exact s_ret rfl ⟨_, rfl, rfl⟩ dX10_pay_96
      · rw [if_neg c48] at h
        refine e_iconst (v := (-1 : Int32)) dX10_pay_30 (by decide) ?_
        obtain rfl := Option.some.inj h
        exact s_ret rfl ⟨_, rfl, rfl⟩ dX10_pay_31
abbrev yy_X10_tire : mm_Y := (yX10_tire, cX10_tire, 4, (some .int))
theorem dX10_tire_0 : decode cX10_tire 0 = .ok (.aload_n 0, 1) := by decide +kernel
theorem dX10_tire_1 : decode cX10_tire 1 = .ok (.iload_n 1, 1) := by decide +kernel
theorem dX10_tire_2 : decode cX10_tire 2 = .ok (.invokevirtual 320, 3) := by decide +kernel
theorem dX10_tire_5 : decode cX10_tire 5 = .ok (.ifCond .eq 15, 3) := by decide +kernel
theorem dX10_tire_8 : decode cX10_tire 8 = .ok (.iload_n 2, 1) := by decide +kernel
theorem dX10_tire_9 : decode cX10_tire 9 = .ok (.i2l, 1) := by decide +kernel
theorem dX10_tire_10 : decode cX10_tire 10 = .ok (.lconst 1, 1) := by decide +kernel
theorem dX10_tire_11 : decode cX10_tire 11 = .ok (.ldc2_w 387, 3) := by decide +kernel
theorem dX10_tire_14 : decode cX10_tire 14 = .ok (.invokestatic 136, 3) := by decide +kernel
theorem dX10_tire_17 : decode cX10_tire 17 = .ok (.ifCond .ne 5, 3) := by decide +kernel
theorem dX10_tire_20 : decode cX10_tire 20 = .ok (.iconst (-1), 1) := by decide +kernel
theorem dX10_tire_21 : decode cX10_tire 21 = .ok (.ireturn, 1) := by decide +kernel
theorem dX10_tire_22 : decode cX10_tire 22 = .ok (.aload_n 0, 1) := by decide +kernel
theorem dX10_tire_23 : decode cX10_tire 23 = .ok (.invokevirtual 382, 3) := by decide +kernel
theorem dX10_tire_26 : decode cX10_tire 26 = .ok (.aload_n 0, 1) := by decide +kernel
theorem dX10_tire_27 : decode cX10_tire 27 = .ok (.iload_n 1, 1) := by decide +kernel
theorem dX10_tire_28 : decode cX10_tire 28 = .ok (.invokevirtual 308, 3) := by decide +kernel
theorem dX10_tire_31 : decode cX10_tire 31 = .ok (.iload_n 2, 1) := by decide +kernel
theorem dX10_tire_32 : decode cX10_tire 32 = .ok (.iadd, 1) := by decide +kernel
theorem dX10_tire_33 : decode cX10_tire 33 = .ok (.istore_n 3, 1) := by decide +kernel
theorem dX10_tire_34 : decode cX10_tire 34 = .ok (.aload_n 0, 1) := by decide +kernel
theorem dX10_tire_35 : decode cX10_tire 35 = .ok (.getfield 39, 3) := by decide +kernel
theorem dX10_tire_38 : decode cX10_tire 38 = .ok (.bipush 11, 2) := by decide +kernel
theorem dX10_tire_40 : decode cX10_tire 40 = .ok (.iconst 5, 1) := by decide +kernel
theorem dX10_tire_41 : decode cX10_tire 41 = .ok (.iload_n 1, 1) := by decide +kernel
theorem dX10_tire_42 : decode cX10_tire 42 = .ok (.imul, 1) := by decide +kernel
theorem dX10_tire_43 : decode cX10_tire 43 = .ok (.iadd, 1) := by decide +kernel
theorem dX10_tire_44 : decode cX10_tire 44 = .ok (.iload_n 3, 1) := by decide +kernel
theorem dX10_tire_45 : decode cX10_tire 45 = .ok (.bipush 99, 2) := by decide +kernel
theorem dX10_tire_47 : decode cX10_tire 47 = .ok (.if_icmp .le 8, 3) := by decide +kernel
theorem dX10_tire_50 : decode cX10_tire 50 = .ok (.bipush 99, 2) := by decide +kernel
theorem dX10_tire_52 : decode cX10_tire 52 = .ok (.goto 4, 3) := by decide +kernel
theorem dX10_tire_55 : decode cX10_tire 55 = .ok (.iload_n 3, 1) := by decide +kernel
theorem dX10_tire_56 : decode cX10_tire 56 = .ok (.iastore, 1) := by decide +kernel
theorem dX10_tire_57 : decode cX10_tire 57 = .ok (.aload_n 0, 1) := by decide +kernel
theorem dX10_tire_58 : decode cX10_tire 58 = .ok (.iload_n 1, 1) := by decide +kernel
theorem dX10_tire_59 : decode cX10_tire 59 = .ok (.invokevirtual 308, 3) := by decide +kernel
theorem dX10_tire_62 : decode cX10_tire 62 = .ok (.ireturn, 1) := by decide +kernel
def f_X10_tire (a0 : Nat) (i1 : Int32) (i2 : Int32) (σ : mm_S) : Option (Int32 × mm_S) :=
    bd (f_X10_isLodger a0 i1 σ) fun r31 σ30 =>
    if r31 = 0 then
      some ((-1 : Int32), σ30)
    else
      bd (f_X10_in (i2 : Int32).toInt64 (1 : Int64) (20 : Int64) σ30) fun r35 σ34 =>
      if r35 = 0 then
        some ((-1 : Int32), σ34)
      else
        bv (f_X10_keepsAct a0 σ34) fun σ38 =>
        bd (f_X10_tiredOf a0 i1 σ38) fun r41 σ40 =>
        lt ((r41 + i2)) fun x42 =>
        if x42 ≤ (99 : Int32) then
          gd ((11 : Int32) + ((5 : Int32) * i1)) 121 <|
          lt (su_i σ40 224 ((11 : Int32) + ((5 : Int32) * i1)).toNatClampNeg x42) fun σ46 =>
          bd (f_X10_tiredOf a0 i1 σ46) fun r50 σ49 =>
          some (r50, σ49)
        else
          gd ((11 : Int32) + ((5 : Int32) * i1)) 121 <|
          lt (su_i σ40 224 ((11 : Int32) + ((5 : Int32) * i1)).toNatClampNeg (99 : Int32)) fun σ52 =>
          bd (f_X10_tiredOf a0 i1 σ52) fun r56 σ55 =>
          some (r56, σ55)
theorem v_X10_tire {g : mm_G} (d : Nat) {a0 : Nat} {i1 : Int32} {i2 : Int32} {σ : mm_S} {res : Int32 × mm_S} (h_a0 : (mm_K a0).1 = 10) (h : f_X10_tire a0 i1 i2 σ = some res) : SM g (d + 1) yy_X10_tire [.ref a0, .int i1, .int i2] σ (.int res.1) res.2 := by
  refine s_of (by decide) (Nat.le_of_ble_eq_true rfl) (L := [(0, .ref a0), (1, .int i1), (2, .int i2)]) rfl ?_
  unfold f_X10_tire at h
  refine e_aload_n 0 dX10_tire_0 rfl rfl ?_
  refine e_iload_n 1 dX10_tire_1 rfl rfl ?_
  obtain ⟨r31, σ30, q29, h⟩ := bd_some h
  refine s_callVi [.int i1] dX10_tire_2 ml_RX10_320 h_a0 ⟨_, rfl, by decide⟩ rfl (v_X10_isLodger (d + 0) h_a0 q29) (Nat.le_of_ble_eq_true rfl) ?_
  refine e_if_eq 20 dX10_tire_5 (by decide) (fun c32 => ?_) (fun c32 => ?_)
  · rw [if_pos c32] at h
    refine e_iconst (v := (-1 : Int32)) dX10_tire_20 (by decide) ?_
    obtain rfl := Option.some.inj h
    exact s_ret rfl ⟨_, rfl, rfl⟩ dX10_tire_21
  · rw [if_neg c32] at h
    refine e_iload_n 2 dX10_tire_8 rfl rfl ?_
    refine e_i2l dX10_tire_9 ?_
    refine e_lconst (v := (1 : Int64)) dX10_tire_10 (by decide) ?_
    refine e_ldc2 dX10_tire_11 co_RX10_387 ?_
    obtain ⟨r35, σ34, q33, h⟩ := bd_some h
    refine s_callSi [.long (i2 : Int32).toInt64, .long (1 : Int64), .long (20 : Int64)] dX10_tire_14 ml_RX10_136 ⟨_, rfl, by decide⟩ rfl (v_X10_in (d + 0)  q33) (Nat.le_of_ble_eq_true rfl) ?_
    refine e_if_ne 22 dX10_tire_17 (by decide) (fun c36 => ?_) (fun c36 => ?_)
    · rw [if_neg c36] at h
      refine e_aload_n 0 dX10_tire_22 rfl rfl ?_
      obtain ⟨σ38, q37, h⟩ := bv_some h
      refine s_callVv [] dX10_tire_23 ml_RX10_382 h_a0 rfl rfl (v_X10_keepsAct (d + 0) h_a0 q37) (Nat.le_of_ble_eq_true rfl) ?_
      refine e_aload_n 0 dX10_tire_26 rfl rfl ?_
      refine e_iload_n 1 dX10_tire_27 rfl rfl ?_
      obtain ⟨r41, σ40, q39, h⟩ := bd_some h
      refine s_callVi [.int i1] dX10_tire_28 ml_RX10_308 h_a0 ⟨_, rfl, by decide⟩ rfl (v_X10_tiredOf (d + 0) h_a0 q39) (Nat.le_of_ble_eq_true rfl) ?_
      refine e_iload_n 2 dX10_tire_31 rfl rfl ?_
      refine e_iadd dX10_tire_32 ?_
      obtain ⟨x42, q43, h⟩ := lt_some h
      refine s_nmi q43 ?_
      refine e_istore_n (L' := [(0, .ref a0), (1, .int i1), (2, .int i2), (3, .int x42)]) dX10_tire_33 rfl (by decide) rfl ?_
      refine e_aload_n 0 dX10_tire_34 rfl rfl ?_
      refine s_getr dX10_tire_35 fl_RX10_39 h_a0 (r_10_20 h_a0).1 ?_
      refine e_bipush (v := (11 : Int32)) dX10_tire_38 (by decide) ?_
      refine e_iconst (v := (5 : Int32)) dX10_tire_40 (by decide) ?_
      refine e_iload_n 1 dX10_tire_41 rfl rfl ?_
      refine e_imul dX10_tire_42 ?_
      refine e_iadd dX10_tire_43 ?_
      refine e_iload_n 3 dX10_tire_44 rfl rfl ?_
      refine e_bipush (v := (99 : Int32)) dX10_tire_45 (by decide) ?_
      refine e_icmp_le 55 dX10_tire_47 (by decide) (fun c44 => ?_) (fun c44 => ?_)
      · rw [if_pos c44] at h
        refine e_iload_n 3 dX10_tire_55 rfl rfl ?_
        obtain ⟨q45, h⟩ := gd_some h
        refine s_iast dX10_tire_56 (r_10_20 (w := 0) h_a0).2 q45 ?_
        obtain ⟨σ46, q47, h⟩ := lt_some h
        refine s_nms q47 ?_
        refine e_aload_n 0 dX10_tire_57 rfl rfl ?_
        refine e_iload_n 1 dX10_tire_58 rfl rfl ?_
        obtain ⟨r50, σ49, q48, h⟩ := bd_some h
        refine s_callVi [.int i1] dX10_tire_59 ml_RX10_308 h_a0 ⟨_, rfl, by decide⟩ rfl (v_X10_tiredOf (d + 0) h_a0 q48) (Nat.le_of_ble_eq_true rfl) ?_
        obtain rfl := Option.some.inj h
        exact s_ret rfl ⟨_, rfl, rfl⟩ dX10_tire_62
      · rw [if_neg c44] at h
        refine e_bipush (v := (99 : Int32)) dX10_tire_50 (by decide) ?_
        refine e_goto 56 dX10_tire_52 (by decide) ?_
        obtain ⟨q51, h⟩ := gd_some h
        refine s_iast dX10_tire_56 (r_10_20 (w := 0) h_a0).2 q51 ?_
        obtain ⟨σ52, q53, h⟩ := lt_some h
        refine s_nms q53 ?_
        refine e_aload_n 0 dX10_tire_57 rfl rfl ?_
        refine e_iload_n 1 dX10_tire_58 rfl rfl ?_
        obtain ⟨r56, σ55, q54, h⟩ := bd_some h
        refine s_callVi [.int i1] dX10_tire_59 ml_RX10_308 h_a0 ⟨_, rfl, by decide⟩ rfl (v_X10_tiredOf (d + 0) h_a0 q54) (Nat.le_of_ble_eq_true rfl) ?_
        obtain rfl := Option.some.inj h
        exact s_ret rfl ⟨_, rfl, rfl⟩ dX10_tire_62
    · rw [if_pos c36] at h
      refine e_iconst (v := (-1 : Int32)) dX10_tire_20 (by decide) ?_
      obtain rfl := Option.some.inj h
      exact s_ret rfl ⟨_, rfl, rfl⟩ dX10_tire_21
abbrev yy_X10_keeps : mm_Y := (yX10_keeps, cX10_keeps, 2, none)
theorem dX10_keeps_0 : decode cX10_keeps 0 = .ok (.iconst 0, 1) := by decide +kernel
theorem dX10_keeps_1 : decode cX10_keeps 1 = .ok (.istore_n 1, 1) := by decide +kernel
theorem dX10_keeps_2 : decode cX10_keeps 2 = .ok (.iload_n 1, 1) := by decide +kernel
theorem dX10_keeps_3 : decode cX10_keeps 3 = .ok (.bipush 31, 2) := by decide +kernel
theorem dX10_keeps_5 : decode cX10_keeps 5 = .ok (.if_icmp .ge 24, 3) := by decide +kernel
theorem dX10_keeps_8 : decode cX10_keeps 8 = .ok (.aload_n 0, 1) := by decide +kernel
theorem dX10_keeps_9 : decode cX10_keeps 9 = .ok (.getfield 64, 3) := by decide +kernel
theorem dX10_keeps_12 : decode cX10_keeps 12 = .ok (.iload_n 1, 1) := by decide +kernel
theorem dX10_keeps_13 : decode cX10_keeps 13 = .ok (.aload_n 0, 1) := by decide +kernel
theorem dX10_keeps_14 : decode cX10_keeps 14 = .ok (.getfield 39, 3) := by decide +kernel
theorem dX10_keeps_17 : decode cX10_keeps 17 = .ok (.bipush 10, 2) := by decide +kernel
theorem dX10_keeps_19 : decode cX10_keeps 19 = .ok (.iload_n 1, 1) := by decide +kernel
theorem dX10_keeps_20 : decode cX10_keeps 20 = .ok (.iadd, 1) := by decide +kernel
theorem dX10_keeps_21 : decode cX10_keeps 21 = .ok (.iaload, 1) := by decide +kernel
theorem dX10_keeps_22 : decode cX10_keeps 22 = .ok (.iastore, 1) := by decide +kernel
theorem dX10_keeps_23 : decode cX10_keeps 23 = .ok (.iinc 1 1, 3) := by decide +kernel
theorem dX10_keeps_26 : decode cX10_keeps 26 = .ok (.goto (-24), 3) := by decide +kernel
theorem dX10_keeps_29 : decode cX10_keeps 29 = .ok (.return_, 1) := by decide +kernel
def f_X10_keeps_2 (a0 : Nat) (i1 : Int32) (σ : mm_S) : Option (mm_S) :=
  lp lpN (fun (k2 : (Int32) → mm_S → Option (mm_S)) (v : Int32) (σ : mm_S) =>
    if (31 : Int32) ≤ v then
      some σ
    else
      gd ((10 : Int32) + v) 121 <|
      gd v 31 <|
      lt (su_i σ 229 v.toNatClampNeg (σ.1 224 ((10 : Int32) + v).toNatClampNeg)) fun σ4 =>
      lt (v + Int32.ofInt (1)) fun x6 =>
      k2 x6 σ4) i1 σ
theorem v_X10_keeps_2 {g : mm_G} (d : Nat) {a0 : Nat} {i1 : Int32} {σ : mm_S} {res : mm_S}  (h_a0 : (mm_K a0).1 = 10) (h : f_X10_keeps_2 a0 i1 σ = some res) : SV g (d + 0) yy_X10_keeps 2 [(0, .ref a0), (1, .int i1)] [] σ .null res := by
  unfold f_X10_keeps_2 at h
  refine lp_ind (P := fun v σ => SV g (d + 0) yy_X10_keeps 2 [(0, .ref a0), (1, .int v)] [] σ .null res) (fun k2 H2 v σ h => ?_) _ i1 σ h
  refine e_iload_n 1 dX10_keeps_2 rfl rfl ?_
  refine e_bipush (v := (31 : Int32)) dX10_keeps_3 (by decide) ?_
  refine e_icmp_ge 29 dX10_keeps_5 (by decide) (fun c1 => ?_) (fun c1 => ?_)
  · rw [if_pos c1] at h
    obtain rfl := Option.some.inj h
    exact s_ret rfl rfl dX10_keeps_29
  · rw [if_neg c1] at h
    refine e_aload_n 0 dX10_keeps_8 rfl rfl ?_
    refine s_getr dX10_keeps_9 fl_RX10_64 h_a0 (r_10_32 h_a0).1 ?_
    refine e_iload_n 1 dX10_keeps_12 rfl rfl ?_
    refine e_aload_n 0 dX10_keeps_13 rfl rfl ?_
    refine s_getr dX10_keeps_14 fl_RX10_39 h_a0 (r_10_20 h_a0).1 ?_
    refine e_bipush (v := (10 : Int32)) dX10_keeps_17 (by decide) ?_
    refine e_iload_n 1 dX10_keeps_19 rfl rfl ?_
    refine e_iadd dX10_keeps_20 ?_
    obtain ⟨q2, h⟩ := gd_some h
    refine s_iald dX10_keeps_21 (r_10_20 (w := 0) h_a0).2 q2 ?_
    obtain ⟨q3, h⟩ := gd_some h
    refine s_iast dX10_keeps_22 (r_10_32 (w := 0) h_a0).2 q3 ?_
    obtain ⟨σ4, q5, h⟩ := lt_some h
    refine s_nms q5 ?_
    obtain ⟨x6, q7, h⟩ := lt_some h
    refine e_iinc (v := x6) (L' := [(0, .ref a0), (1, .int x6)]) 1 dX10_keeps_23 rfl q7.symm (by decide) rfl ?_
    refine e_goto 2 dX10_keeps_26 (by decide) ?_
    refine s_pick (L' := [(0, .ref a0), (1, .int x6)]) [0, 1] rfl ?_
    exact H2 x6 σ4 h
def f_X10_keeps (a0 : Nat) (σ : mm_S) : Option (mm_S) :=
    f_X10_keeps_2 a0 (0 : Int32) σ
theorem v_X10_keeps {g : mm_G} (d : Nat) {a0 : Nat} {σ : mm_S} {res : mm_S} (h_a0 : (mm_K a0).1 = 10) (h : f_X10_keeps a0 σ = some res) : SM g (d + 0) yy_X10_keeps [.ref a0] σ .null res := by
  refine s_of (by decide) (Nat.le_of_ble_eq_true rfl) (L := [(0, .ref a0)]) rfl ?_
  unfold f_X10_keeps at h
  refine e_iconst (v := (0 : Int32)) dX10_keeps_0 (by decide) ?_
  refine e_istore_n (L' := [(0, .ref a0), (1, .int (0 : Int32))]) dX10_keeps_1 rfl (by decide) rfl ?_
  refine s_pick (L' := [(0, .ref a0), (1, .int (0 : Int32))]) [0, 1] rfl ?_
  exact v_X10_keeps_2 d h_a0 h
