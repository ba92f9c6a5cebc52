abbrev yy_X9_feed : mm_Y := (yX9_feed, cX9_feed, 6, (some .int))
theorem dX9_feed_0 : decode cX9_feed 0 = .ok (.aload_n 0, 1) := by decide +kernel
theorem dX9_feed_1 : decode cX9_feed 1 = .ok (.getfield 12, 3) := by decide +kernel
theorem dX9_feed_4 : decode cX9_feed 4 = .ok (.getfield 91, 3) := by decide +kernel
theorem dX9_feed_7 : decode cX9_feed 7 = .ok (.bipush 20, 2) := by decide +kernel
theorem dX9_feed_9 : decode cX9_feed 9 = .ok (.iadd, 1) := by decide +kernel
theorem dX9_feed_10 : decode cX9_feed 10 = .ok (.sipush 400, 3) := by decide +kernel
theorem dX9_feed_13 : decode cX9_feed 13 = .ok (.if_icmp .le 5, 3) := by decide +kernel
theorem dX9_feed_16 : decode cX9_feed 16 = .ok (.iconst (-1), 1) := by decide +kernel
theorem dX9_feed_17 : decode cX9_feed 17 = .ok (.ireturn, 1) := by decide +kernel
theorem dX9_feed_18 : decode cX9_feed 18 = .ok (.aload_n 0, 1) := by decide +kernel
theorem dX9_feed_19 : decode cX9_feed 19 = .ok (.getfield 12, 3) := by decide +kernel
theorem dX9_feed_22 : decode cX9_feed 22 = .ok (.iload_n 1, 1) := by decide +kernel
theorem dX9_feed_23 : decode cX9_feed 23 = .ok (.invokevirtual 94, 3) := by decide +kernel
theorem dX9_feed_26 : decode cX9_feed 26 = .ok (.aload_n 0, 1) := by decide +kernel
theorem dX9_feed_27 : decode cX9_feed 27 = .ok (.getfield 12, 3) := by decide +kernel
theorem dX9_feed_30 : decode cX9_feed 30 = .ok (.iload_n 2, 1) := by decide +kernel
theorem dX9_feed_31 : decode cX9_feed 31 = .ok (.invokevirtual 94, 3) := by decide +kernel
theorem dX9_feed_34 : decode cX9_feed 34 = .ok (.aload_n 0, 1) := by decide +kernel
theorem dX9_feed_35 : decode cX9_feed 35 = .ok (.getfield 12, 3) := by decide +kernel
theorem dX9_feed_38 : decode cX9_feed 38 = .ok (.iload_n 3, 1) := by decide +kernel
theorem dX9_feed_39 : decode cX9_feed 39 = .ok (.invokevirtual 94, 3) := by decide +kernel
theorem dX9_feed_42 : decode cX9_feed 42 = .ok (.aload_n 0, 1) := by decide +kernel
theorem dX9_feed_43 : decode cX9_feed 43 = .ok (.getfield 12, 3) := by decide +kernel
theorem dX9_feed_46 : decode cX9_feed 46 = .ok (.iload 4, 2) := by decide +kernel
theorem dX9_feed_48 : decode cX9_feed 48 = .ok (.invokevirtual 94, 3) := by decide +kernel
theorem dX9_feed_51 : decode cX9_feed 51 = .ok (.aload_n 0, 1) := by decide +kernel
theorem dX9_feed_52 : decode cX9_feed 52 = .ok (.getfield 12, 3) := by decide +kernel
theorem dX9_feed_55 : decode cX9_feed 55 = .ok (.iload 5, 2) := by decide +kernel
theorem dX9_feed_57 : decode cX9_feed 57 = .ok (.invokevirtual 94, 3) := by decide +kernel
theorem dX9_feed_60 : decode cX9_feed 60 = .ok (.aload_n 0, 1) := by decide +kernel
theorem dX9_feed_61 : decode cX9_feed 61 = .ok (.getfield 12, 3) := by decide +kernel
theorem dX9_feed_64 : decode cX9_feed 64 = .ok (.getfield 91, 3) := by decide +kernel
theorem dX9_feed_67 : decode cX9_feed 67 = .ok (.ireturn, 1) := by decide +kernel
def f_X9_feed (a0 : Nat) (i1 : Int32) (i2 : Int32) (i3 : Int32) (i4 : Int32) (i5 : Int32) (σ : mm_S) : Option (Int32 × mm_S) :=
    if ((σ.1 1 1) + (20 : Int32)) ≤ (400 : Int32) then
      bv (f_X6_addNumber 1 i1 σ) fun σ14 =>
      bv (f_X6_addNumber 1 i2 σ14) fun σ16 =>
      bv (f_X6_addNumber 1 i3 σ16) fun σ18 =>
      bv (f_X6_addNumber 1 i4 σ18) fun σ20 =>
      bv (f_X6_addNumber 1 i5 σ20) fun σ22 =>
      some ((σ22.1 1 1), σ22)
    else
      some ((-1 : Int32), σ)
theorem v_X9_feed {g : mm_G} (d : Nat) {a0 : Nat} {i1 : Int32} {i2 : Int32} {i3 : Int32} {i4 : Int32} {i5 : Int32} {σ : mm_S} {res : Int32 × mm_S} (h_a0 : (mm_K a0).1 = 9) (h : f_X9_feed a0 i1 i2 i3 i4 i5 σ = some res) : SM g (d + 1) yy_X9_feed [.ref a0, .int i1, .int i2, .int i3, .int i4, .int i5] σ (.int res.1) res.2 := by
  refine s_of (by decide) (Nat.le_of_ble_eq_true rfl) (L := [(0, .ref a0), (1, .int i1), (2, .int i2), (3, .int i3), (4, .int i4), (5, .int i5)]) rfl ?_
  unfold f_X9_feed at h
  refine e_aload_n 0 dX9_feed_0 rfl rfl ?_
  refine s_getr dX9_feed_1 fl_RX9_12 h_a0 (r_9_0 h_a0).1 ?_
  refine s_geti dX9_feed_4 fl_RX9_91 (ka_1 (r_9_0 (w := 0) h_a0).2) ?_
  refine e_bipush (v := (20 : Int32)) dX9_feed_7 (by decide) ?_
  refine e_iadd dX9_feed_9 ?_
  refine e_sipush (v := (400 : Int32)) dX9_feed_10 (by decide) ?_
  refine e_icmp_le 18 dX9_feed_13 (by decide) (fun c12 => ?_) (fun c12 => ?_)
  · rw [if_pos c12] at h
    refine e_aload_n 0 dX9_feed_18 rfl rfl ?_
    refine s_getr dX9_feed_19 fl_RX9_12 h_a0 (r_9_0 h_a0).1 ?_
    refine e_iload_n 1 dX9_feed_22 rfl rfl ?_
    obtain ⟨σ14, q13, h⟩ := bv_some h
    refine s_callVv [.int i1] dX9_feed_23 ml_RX9_94 (ka_1 (r_9_0 (w := 0) h_a0).2) rfl rfl (v_X6_addNumber (d + 0) (ka_1 (r_9_0 (w := 0) h_a0).2) q13) (Nat.le_of_ble_eq_true rfl) ?_
    refine e_aload_n 0 dX9_feed_26 rfl rfl ?_
    refine s_getr dX9_feed_27 fl_RX9_12 h_a0 (r_9_0 h_a0).1 ?_
    refine e_iload_n 2 dX9_feed_30 rfl rfl ?_
    obtain ⟨σ16, q15, h⟩ := bv_some h
    refine s_callVv [.int i2] dX9_feed_31 ml_RX9_94 (ka_1 (r_9_0 (w := 0) h_a0).2) rfl rfl (v_X6_addNumber (d + 0) (ka_1 (r_9_0 (w := 0) h_a0).2) q15) (Nat.le_of_ble_eq_true rfl) ?_
    refine e_aload_n 0 dX9_feed_34 rfl rfl ?_
    refine s_getr dX9_feed_35 fl_RX9_12 h_a0 (r_9_0 h_a0).1 ?_
    refine e_iload_n 3 dX9_feed_38 rfl rfl ?_
    obtain ⟨σ18, q17, h⟩ := bv_some h
    refine s_callVv [.int i3] dX9_feed_39 ml_RX9_94 (ka_1 (r_9_0 (w := 0) h_a0).2) rfl rfl (v_X6_addNumber (d + 0) (ka_1 (r_9_0 (w := 0) h_a0).2) q17) (Nat.le_of_ble_eq_true rfl) ?_
    refine e_aload_n 0 dX9_feed_42 rfl rfl ?_
    refine s_getr dX9_feed_43 fl_RX9_12 h_a0 (r_9_0 h_a0).1 ?_
    refine e_iload 4 dX9_feed_46  rfl ?_
    obtain ⟨σ20, q19, h⟩ := bv_some h
    refine s_callVv [.int i4] dX9_feed_48 ml_RX9_94 (ka_1 (r_9_0 (w := 0) h_a0).2) rfl rfl (v_X6_addNumber (d + 0) (ka_1 (r_9_0 (w := 0) h_a0).2) q19) (Nat.le_of_ble_eq_true rfl) ?_
    refine e_aload_n 0 dX9_feed_51 rfl rfl ?_
    refine s_getr dX9_feed_52 fl_RX9_12 h_a0 (r_9_0 h_a0).1 ?_
    refine e_iload 5 dX9_feed_55  rfl ?_
    obtain ⟨σ22, q21, h⟩ := bv_some h
    refine s_callVv [.int i5] dX9_feed_57 ml_RX9_94 (ka_1 (r_9_0 (w := 0) h_a0).2) rfl rfl (v_X6_addNumber (d + 0) (ka_1 (r_9_0 (w := 0) h_a0).2) q21) (Nat.le_of_ble_eq_true rfl) ?_
    refine e_aload_n 0 dX9_feed_60 rfl rfl ?_
    refine s_getr dX9_feed_61 fl_RX9_12 h_a0 (r_9_0 h_a0).1 ?_
    refine s_geti dX9_feed_64 fl_RX9_91 (ka_1 (r_9_0 (w := 0) h_a0).2) ?_
    obtain rfl := Option.some.inj h
    exact s_ret rfl ⟨_, rfl, rfl⟩ dX9_feed_67
  · rw [if_neg c12] at h
    refine e_iconst (v := (-1 : Int32)) dX9_feed_16 (by decide) ?_
    obtain rfl := Option.some.inj h
    exact s_ret rfl ⟨_, rfl, rfl⟩ dX9_feed_17
abbrev yy_X9_end : mm_Y := (yX9_end, cX9_end, 2, (some .int))
theorem dX9_end_0 : decode cX9_end 0 = .ok (.iload_n 1, 1) := by decide +kernel
theorem dX9_end_1 : decode cX9_end 1 = .ok (.ifCond .lt 14, 3) := by decide +kernel
theorem dX9_end_4 : decode cX9_end 4 = .ok (.iload_n 1, 1) := by decide +kernel
theorem dX9_end_5 : decode cX9_end 5 = .ok (.aload_n 0, 1) := by decide +kernel
theorem dX9_end_6 : decode cX9_end 6 = .ok (.getfield 12, 3) := by decide +kernel
theorem dX9_end_9 : decode cX9_end 9 = .ok (.getfield 91, 3) := by decide +kernel
theorem dX9_end_12 : decode cX9_end 12 = .ok (.if_icmp .le 5, 3) := by decide +kernel
theorem dX9_end_15 : decode cX9_end 15 = .ok (.iconst (-1), 1) := by decide +kernel
theorem dX9_end_16 : decode cX9_end 16 = .ok (.ireturn, 1) := by decide +kernel
theorem dX9_end_17 : decode cX9_end 17 = .ok (.aload_n 0, 1) := by decide +kernel
theorem dX9_end_18 : decode cX9_end 18 = .ok (.getfield 12, 3) := by decide +kernel
theorem dX9_end_21 : decode cX9_end 21 = .ok (.iload_n 1, 1) := by decide +kernel
theorem dX9_end_22 : decode cX9_end 22 = .ok (.putfield 91, 3) := by decide +kernel
theorem dX9_end_25 : decode cX9_end 25 = .ok (.iload_n 1, 1) := by decide +kernel
theorem dX9_end_26 : decode cX9_end 26 = .ok (.ireturn, 1) := by decide +kernel
def f_X9_end (a0 : Nat) (i1 : Int32) (σ : mm_S) : Option (Int32 × mm_S) :=
    if i1 < 0 then
      some ((-1 : Int32), σ)
    else
      if i1 ≤ (σ.1 1 1) then
        lt (su_i σ 1 1 i1) fun σ7 =>
        some (i1, σ7)
      else
        some ((-1 : Int32), σ)
theorem v_X9_end {g : mm_G} (d : Nat) {a0 : Nat} {i1 : Int32} {σ : mm_S} {res : Int32 × mm_S} (h_a0 : (mm_K a0).1 = 9) (h : f_X9_end a0 i1 σ = some res) : SM g (d + 0) yy_X9_end [.ref a0, .int i1] σ (.int res.1) res.2 := by
  refine s_of (by decide) (Nat.le_of_ble_eq_true rfl) (L := [(0, .ref a0), (1, .int i1)]) rfl ?_
  unfold f_X9_end at h
  refine e_iload_n 1 dX9_end_0 rfl rfl ?_
  refine e_if_lt 15 dX9_end_1 (by decide) (fun c5 => ?_) (fun c5 => ?_)
  · rw [if_pos c5] at h
    refine e_iconst (v := (-1 : Int32)) dX9_end_15 (by decide) ?_
    obtain rfl := Option.some.inj h
    exact s_ret rfl ⟨_, rfl, rfl⟩ dX9_end_16
  · rw [if_neg c5] at h
    refine e_iload_n 1 dX9_end_4 rfl rfl ?_
    refine e_aload_n 0 dX9_end_5 rfl rfl ?_
    refine s_getr dX9_end_6 fl_RX9_12 h_a0 (r_9_0 h_a0).1 ?_
    refine s_geti dX9_end_9 fl_RX9_91 (ka_1 (r_9_0 (w := 0) h_a0).2) ?_
    refine e_icmp_le 17 dX9_end_12 (by decide) (fun c6 => ?_) (fun c6 => ?_)
    · rw [if_pos c6] at h
      refine e_aload_n 0 dX9_end_17 rfl rfl ?_
      refine s_getr dX9_end_18 fl_RX9_12 h_a0 (r_9_0 h_a0).1 ?_
      refine e_iload_n 1 dX9_end_21 rfl rfl ?_
      refine s_puti dX9_end_22 fl_RX9_91 (ka_1 (r_9_0 (w := 0) h_a0).2) rfl rfl rfl ?_
      obtain ⟨σ7, q8, h⟩ := lt_some h
      refine s_nms q8 ?_
      refine e_iload_n 1 dX9_end_25 rfl rfl ?_
      obtain rfl := Option.some.inj h
      exact s_ret rfl ⟨_, rfl, rfl⟩ dX9_end_26
    · rw [if_neg c6] at h
      refine e_iconst (v := (-1 : Int32)) dX9_end_15 (by decide) ?_
      obtain rfl := Option.some.inj h
      exact s_ret rfl ⟨_, rfl, rfl⟩ dX9_end_16
abbrev yy_X9_force : mm_Y := (yX9_force, cX9_force, 3, (some .int))
theorem dX9_force_0 : decode cX9_force 0 = .ok (.iload_n 1, 1) := by decide +kernel
theorem dX9_force_1 : decode cX9_force 1 = .ok (.iconst (-1), 1) := by decide +kernel
theorem dX9_force_2 : decode cX9_force 2 = .ok (.if_icmp .lt 11, 3) := by decide +kernel
theorem dX9_force_5 : decode cX9_force 5 = .ok (.iload_n 1, 1) := by decide +kernel
theorem dX9_force_6 : decode cX9_force 6 = .ok (.aload_n 0, 1) := by decide +kernel
theorem dX9_force_7 : decode cX9_force 7 = .ok (.getfield 43, 3) := by decide +kernel
theorem dX9_force_10 : decode cX9_force 10 = .ok (.if_icmp .lt 6, 3) := by decide +kernel
theorem dX9_force_13 : decode cX9_force 13 = .ok (.bipush (-2), 2) := by decide +kernel
theorem dX9_force_15 : decode cX9_force 15 = .ok (.ireturn, 1) := by decide +kernel
theorem dX9_force_16 : decode cX9_force 16 = .ok (.aload_n 0, 1) := by decide +kernel
theorem dX9_force_17 : decode cX9_force 17 = .ok (.getfield 50, 3) := by decide +kernel
theorem dX9_force_20 : decode cX9_force 20 = .ok (.getfield 135, 3) := by decide +kernel
theorem dX9_force_23 : decode cX9_force 23 = .ok (.istore_n 2, 1) := by decide +kernel
theorem dX9_force_24 : decode cX9_force 24 = .ok (.aload_n 0, 1) := by decide +kernel
theorem dX9_force_25 : decode cX9_force 25 = .ok (.getfield 50, 3) := by decide +kernel
theorem dX9_force_28 : decode cX9_force 28 = .ok (.iload_n 1, 1) := by decide +kernel
theorem dX9_force_29 : decode cX9_force 29 = .ok (.putfield 135, 3) := by decide +kernel
theorem dX9_force_32 : decode cX9_force 32 = .ok (.iload_n 2, 1) := by decide +kernel
theorem dX9_force_33 : decode cX9_force 33 = .ok (.ireturn, 1) := by decide +kernel
def f_X9_force (a0 : Nat) (i1 : Int32) (σ : mm_S) : Option (Int32 × mm_S) :=
    if i1 < (-1 : Int32) then
      some ((-2 : Int32), σ)
    else
      if i1 < (σ.1 a0 4) then
        lt ((σ.1 26 3)) fun x9 =>
        lt (su_i σ 26 3 i1) fun σ11 =>
        some (x9, σ11)
      else
        some ((-2 : Int32), σ)
theorem v_X9_force {g : mm_G} (d : Nat) {a0 : Nat} {i1 : Int32} {σ : mm_S} {res : Int32 × mm_S} (h_a0 : (mm_K a0).1 = 9) (h : f_X9_force a0 i1 σ = some res) : SM g (d + 0) yy_X9_force [.ref a0, .int i1] σ (.int res.1) res.2 := by
  refine s_of (by decide) (Nat.le_of_ble_eq_true rfl) (L := [(0, .ref a0), (1, .int i1)]) rfl ?_
  unfold f_X9_force at h
  refine e_iload_n 1 dX9_force_0 rfl rfl ?_
  refine e_iconst (v := (-1 : Int32)) dX9_force_1 (by decide) ?_
  refine e_icmp_lt 13 dX9_force_2 (by decide) (fun c7 => ?_) (fun c7 => ?_)
  · rw [if_pos c7] at h
    refine e_bipush (v := (-2 : Int32)) dX9_force_13 (by decide) ?_
    obtain rfl := Option.some.inj h
    exact s_ret rfl ⟨_, rfl, rfl⟩ dX9_force_15
  · rw [if_neg c7] at h
    refine e_iload_n 1 dX9_force_5 rfl rfl ?_
    refine e_aload_n 0 dX9_force_6 rfl rfl ?_
    refine s_geti dX9_force_7 fl_RX9_43 h_a0 ?_
    refine e_icmp_lt 16 dX9_force_10 (by decide) (fun c8 => ?_) (fun c8 => ?_)
    · rw [if_pos c8] at h
      refine e_aload_n 0 dX9_force_16 rfl rfl ?_
      refine s_getr dX9_force_17 fl_RX9_50 h_a0 (r_9_5 h_a0).1 ?_
      refine s_geti dX9_force_20 fl_RX9_135 (ka_1 (r_9_5 (w := 0) h_a0).2) ?_
      obtain ⟨x9, q10, h⟩ := lt_some h
      refine s_nmi q10 ?_
      refine e_istore_n (L' := [(0, .ref a0), (1, .int i1), (2, .int x9)]) dX9_force_23 rfl (by decide) rfl ?_
      refine e_aload_n 0 dX9_force_24 rfl rfl ?_
      refine s_getr dX9_force_25 fl_RX9_50 h_a0 (r_9_5 h_a0).1 ?_
      refine e_iload_n 1 dX9_force_28 rfl rfl ?_
      refine s_puti dX9_force_29 fl_RX9_135 (ka_1 (r_9_5 (w := 0) h_a0).2) rfl rfl rfl ?_
      obtain ⟨σ11, q12, h⟩ := lt_some h
      refine s_nms q12 ?_
      refine e_iload_n 2 dX9_force_32 rfl rfl ?_
      obtain rfl := Option.some.inj h
      exact s_ret rfl ⟨_, rfl, rfl⟩ dX9_force_33
    · rw [if_neg c8] at h
      refine e_bipush (v := (-2 : Int32)) dX9_force_13 (by decide) ?_
      obtain rfl := Option.some.inj h
      exact s_ret rfl ⟨_, rfl, rfl⟩ dX9_force_15
abbrev yy_X9_isLodger : mm_Y := (yX9_isLodger, cX9_isLodger, 2, (some .boolean))
theorem dX9_isLodger_0 : decode cX9_isLodger 0 = .ok (.iload_n 1, 1) := by decide +kernel
theorem dX9_isLodger_1 : decode cX9_isLodger 1 = .ok (.ifCond .lt 21, 3) := by decide +kernel
theorem dX9_isLodger_4 : decode cX9_isLodger 4 = .ok (.iload_n 1, 1) := by decide +kernel
theorem dX9_isLodger_5 : decode cX9_isLodger 5 = .ok (.aload_n 0, 1) := by decide +kernel
theorem dX9_isLodger_6 : decode cX9_isLodger 6 = .ok (.getfield 50, 3) := by decide +kernel
theorem dX9_isLodger_9 : decode cX9_isLodger 9 = .ok (.getfield 71, 3) := by decide +kernel
theorem dX9_isLodger_12 : decode cX9_isLodger 12 = .ok (.getfield 128, 3) := by decide +kernel
theorem dX9_isLodger_15 : decode cX9_isLodger 15 = .ok (.if_icmp .ge 7, 3) := by decide +kernel
theorem dX9_isLodger_18 : decode cX9_isLodger 18 = .ok (.iconst 1, 1) := by decide +kernel
theorem dX9_isLodger_19 : decode cX9_isLodger 19 = .ok (.goto 4, 3) := by decide +kernel
theorem dX9_isLodger_22 : decode cX9_isLodger 22 = .ok (.iconst 0, 1) := by decide +kernel
theorem dX9_isLodger_23 : decode cX9_isLodger 23 = .ok (.ireturn, 1) := by decide +kernel
def f_X9_isLodger (a0 : Nat) (i1 : Int32) (σ : mm_S) : Option (Int32 × mm_S) :=
    if i1 < 0 then
      some ((0 : Int32), σ)
    else
      if (σ.1 (26 + 1) 3) ≤ i1 then
        some ((0 : Int32), σ)
      else
        some ((1 : Int32), σ)
theorem v_X9_isLodger {g : mm_G} (d : Nat) {a0 : Nat} {i1 : Int32} {σ : mm_S} {res : Int32 × mm_S} (h_a0 : (mm_K a0).1 = 9) (h : f_X9_isLodger a0 i1 σ = some res) : SM g (d + 0) yy_X9_isLodger [.ref a0, .int i1] σ (.int res.1) res.2 := by
  refine s_of (by decide) (Nat.le_of_ble_eq_true rfl) (L := [(0, .ref a0), (1, .int i1)]) rfl ?_
  unfold f_X9_isLodger at h
  refine e_iload_n 1 dX9_isLodger_0 rfl rfl ?_
  refine e_if_lt 22 dX9_isLodger_1 (by decide) (fun c3 => ?_) (fun c3 => ?_)
  · rw [if_pos c3] at h
    refine e_iconst (v := (0 : Int32)) dX9_isLodger_22 (by decide) ?_
    obtain rfl := Option.some.inj h
    exact s_ret rfl ⟨_, rfl, nb1 (Or.inl rfl)⟩ dX9_isLodger_23
  · rw [if_neg c3] at h
    refine e_iload_n 1 dX9_isLodger_4 rfl rfl ?_
    refine e_aload_n 0 dX9_isLodger_5 rfl rfl ?_
    refine s_getr dX9_isLodger_6 fl_RX9_50 h_a0 (r_9_5 h_a0).1 ?_
    refine s_getr dX9_isLodger_9 fl_RX9_71 (ka_1 (r_9_5 (w := 0) h_a0).2) (r_8_0 (ka_1 (r_9_5 (w := 0) h_a0).2)).1 ?_
    refine s_geti dX9_isLodger_12 fl_RX9_128 (ka_1 (r_8_0 (w := 0) (ka_1 (r_9_5 (w := 0) h_a0).2)).2) ?_
    refine e_icmp_ge 22 dX9_isLodger_15 (by decide) (fun c4 => ?_) (fun c4 => ?_)
    · rw [if_pos c4] at h
      refine e_iconst (v := (0 : Int32)) dX9_isLodger_22 (by decide) ?_
      obtain rfl := Option.some.inj h
      exact s_ret rfl ⟨_, rfl, nb1 (Or.inl rfl)⟩ dX9_isLodger_23
    · rw [if_neg c4] at h
      refine e_iconst (v := (1 : Int32)) dX9_isLodger_18 (by decide) ?_
      refine e_goto 23 dX9_isLodger_19 (by decide) ?_
      obtain rfl := Option.some.inj h
      exact s_ret rfl ⟨_, rfl, nb1 (Or.inr rfl)⟩ dX9_isLodger_23
abbrev yy_X9_lodger : mm_Y := (yX9_lodger, cX9_lodger, 4, (some .int))
theorem dX9_lodger_0 : decode cX9_lodger 0 = .ok (.aload_n 0, 1) := by decide +kernel
theorem dX9_lodger_1 : decode cX9_lodger 1 = .ok (.iload_n 1, 1) := by decide +kernel
theorem dX9_lodger_2 : decode cX9_lodger 2 = .ok (.invokevirtual 138, 3) := by decide +kernel
theorem dX9_lodger_5 : decode cX9_lodger 5 = .ok (.ifCond .ne 6, 3) := by decide +kernel
theorem dX9_lodger_8 : decode cX9_lodger 8 = .ok (.bipush (-2), 2) := by decide +kernel
theorem dX9_lodger_10 : decode cX9_lodger 10 = .ok (.ireturn, 1) := by decide +kernel
theorem dX9_lodger_11 : decode cX9_lodger 11 = .ok (.aload_n 0, 1) := by decide +kernel
theorem dX9_lodger_12 : decode cX9_lodger 12 = .ok (.getfield 50, 3) := by decide +kernel
theorem dX9_lodger_15 : decode cX9_lodger 15 = .ok (.getfield 107, 3) := by decide +kernel
theorem dX9_lodger_18 : decode cX9_lodger 18 = .ok (.astore_n 3, 1) := by decide +kernel
theorem dX9_lodger_19 : decode cX9_lodger 19 = .ok (.iload_n 2, 1) := by decide +kernel
theorem dX9_lodger_20 : decode cX9_lodger 20 = .ok (.tableswitch 78 0 4 #[36, 43, 50, 64, 71], 36) := by decide +kernel
theorem dX9_lodger_56 : decode cX9_lodger 56 = .ok (.aload_n 3, 1) := by decide +kernel
theorem dX9_lodger_57 : decode cX9_lodger 57 = .ok (.getfield 142, 3) := by decide +kernel
theorem dX9_lodger_60 : decode cX9_lodger 60 = .ok (.iload_n 1, 1) := by decide +kernel
theorem dX9_lodger_61 : decode cX9_lodger 61 = .ok (.iaload, 1) := by decide +kernel
theorem dX9_lodger_62 : decode cX9_lodger 62 = .ok (.ireturn, 1) := by decide +kernel
theorem dX9_lodger_63 : decode cX9_lodger 63 = .ok (.aload_n 3, 1) := by decide +kernel
theorem dX9_lodger_64 : decode cX9_lodger 64 = .ok (.getfield 145, 3) := by decide +kernel
theorem dX9_lodger_67 : decode cX9_lodger 67 = .ok (.iload_n 1, 1) := by decide +kernel
theorem dX9_lodger_68 : decode cX9_lodger 68 = .ok (.iaload, 1) := by decide +kernel
theorem dX9_lodger_69 : decode cX9_lodger 69 = .ok (.ireturn, 1) := by decide +kernel
theorem dX9_lodger_70 : decode cX9_lodger 70 = .ok (.aload_n 3, 1) := by decide +kernel
theorem dX9_lodger_71 : decode cX9_lodger 71 = .ok (.iload_n 1, 1) := by decide +kernel
theorem dX9_lodger_72 : decode cX9_lodger 72 = .ok (.invokevirtual 148, 3) := by decide +kernel
theorem dX9_lodger_75 : decode cX9_lodger 75 = .ok (.ifCond .eq 7, 3) := by decide +kernel
theorem dX9_lodger_78 : decode cX9_lodger 78 = .ok (.iconst 1, 1) := by decide +kernel
theorem dX9_lodger_79 : decode cX9_lodger 79 = .ok (.goto 4, 3) := by decide +kernel
theorem dX9_lodger_82 : decode cX9_lodger 82 = .ok (.iconst 0, 1) := by decide +kernel
theorem dX9_lodger_83 : decode cX9_lodger 83 = .ok (.ireturn, 1) := by decide +kernel
theorem dX9_lodger_84 : decode cX9_lodger 84 = .ok (.aload_n 3, 1) := by decide +kernel
theorem dX9_lodger_85 : decode cX9_lodger 85 = .ok (.getfield 151, 3) := by decide +kernel
theorem dX9_lodger_88 : decode cX9_lodger 88 = .ok (.iload_n 1, 1) := by decide +kernel
theorem dX9_lodger_89 : decode cX9_lodger 89 = .ok (.iaload, 1) := by decide +kernel
theorem dX9_lodger_90 : decode cX9_lodger 90 = .ok (.ireturn, 1) := by decide +kernel
theorem dX9_lodger_91 : decode cX9_lodger 91 = .ok (.aload_n 3, 1) := by decide +kernel
theorem dX9_lodger_92 : decode cX9_lodger 92 = .ok (.getfield 154, 3) := by decide +kernel
theorem dX9_lodger_95 : decode cX9_lodger 95 = .ok (.iload_n 1, 1) := by decide +kernel
theorem dX9_lodger_96 : decode cX9_lodger 96 = .ok (.iaload, 1) := by decide +kernel
theorem dX9_lodger_97 : decode cX9_lodger 97 = .ok (.ireturn, 1) := by decide +kernel
theorem dX9_lodger_98 : decode cX9_lodger 98 = .ok (.bipush (-2), 2) := by decide +kernel
theorem dX9_lodger_100 : decode cX9_lodger 100 = .ok (.ireturn, 1) := by decide +kernel
def f_X9_lodger (a0 : Nat) (i1 : Int32) (i2 : Int32) (σ : mm_S) : Option (Int32 × mm_S) :=
    bd (f_X9_isLodger a0 i1 σ) fun r20 σ19 =>
    if r20 = 0 then
      some ((-2 : Int32), σ19)
    else
      if i2 = 0 then
        gd i1 6 <|
        some ((σ19.1 ((26 + 5) + 1) i1.toNatClampNeg), σ19)
      else
      if i2 = 1 then
        gd i1 6 <|
        some ((σ19.1 ((26 + 5) + 2) i1.toNatClampNeg), σ19)
      else
      if i2 = 2 then
        bd (f_X2_isIn (26 + 5) i1 σ19) fun r29 σ28 =>
        if r29 = 0 then
          some ((0 : Int32), σ28)
        else
          some ((1 : Int32), σ28)
      else
      if i2 = 3 then
        gd i1 6 <|
        some ((σ19.1 ((26 + 5) + 3) i1.toNatClampNeg), σ19)
      else
      if i2 = 4 then
        gd i1 6 <|
        some ((σ19.1 ((26 + 5) + 4) i1.toNatClampNeg), σ19)
      else
      some ((-2 : Int32), σ19)
theorem v_X9_lodger {g : mm_G} (d : Nat) {a0 : Nat} {i1 : Int32} {i2 : Int32} {σ : mm_S} {res : Int32 × mm_S} (h_a0 : (mm_K a0).1 = 9) (h : f_X9_lodger a0 i1 i2 σ = some res) : SM g (d + 1) yy_X9_lodger [.ref a0, .int i1, .int i2] σ (.int res.1) res.2 := by
  refine s_of (by decide) (Nat.le_of_ble_eq_true rfl) (L := [(0, .ref a0), (1, .int i1), (2, .int i2)]) rfl ?_
  unfold f_X9_lodger at h
  refine e_aload_n 0 dX9_lodger_0 rfl rfl ?_
  refine e_iload_n 1 dX9_lodger_1 rfl rfl ?_
  obtain ⟨r20, σ19, q18, h⟩ := bd_some h
  refine s_callVi [.int i1] dX9_lodger_2 ml_RX9_138 h_a0 ⟨_, rfl, by decide⟩ rfl (v_X9_isLodger (d + 0) h_a0 q18) (Nat.le_of_ble_eq_true rfl) ?_
  refine e_if_ne 11 dX9_lodger_5 (by decide) (fun c21 => ?_) (fun c21 => ?_)
  · rw [if_neg c21] at h
    refine e_aload_n 0 dX9_lodger_11 rfl rfl ?_
    refine s_getr dX9_lodger_12 fl_RX9_50 h_a0 (r_9_5 h_a0).1 ?_
    refine s_getr dX9_lodger_15 fl_RX9_107 (ka_1 (r_9_5 (w := 0) h_a0).2) (r_8_1 (ka_1 (r_9_5 (w := 0) h_a0).2)).1 ?_
    refine e_astore_n (L' := [(0, .ref a0), (1, .int i1), (2, .int i2), (3, .ref (26 + 5))]) dX9_lodger_18 rfl (by decide) rfl ?_
    refine e_iload_n 2 dX9_lodger_19 rfl rfl ?_
    by_cases c22 : i2 = 0
    · rw [if_pos c22] at h
      refine s_eqi c22 ?_
      refine e_tabIn 56 dX9_lodger_20 (by decide) (by decide) rfl (by decide) ?_
      refine e_aload_n 3 dX9_lodger_56 rfl rfl ?_
      refine s_getr dX9_lodger_57 fl_RX9_142 (ka_1 (r_8_1 (w := 0) (ka_1 (r_9_5 (w := 0) h_a0).2)).2) (r_2_2 (ka_1 (r_8_1 (w := 0) (ka_1 (r_9_5 (w := 0) h_a0).2)).2)).1 ?_
      refine e_iload_n 1 dX9_lodger_60 rfl rfl ?_
      obtain ⟨q23, h⟩ := gd_some h
      refine s_iald dX9_lodger_61 (r_2_2 (w := 0) (ka_1 (r_8_1 (w := 0) (ka_1 (r_9_5 (w := 0) h_a0).2)).2)).2 q23 ?_
      obtain rfl := Option.some.inj h
      exact s_ret rfl ⟨_, rfl, rfl⟩ dX9_lodger_62
    rw [if_neg c22] at h
    by_cases c24 : i2 = 1
    · rw [if_pos c24] at h
      refine s_eqi c24 ?_
      refine e_tabIn 63 dX9_lodger_20 (by decide) (by decide) rfl (by decide) ?_
      refine e_aload_n 3 dX9_lodger_63 rfl rfl ?_
      refine s_getr dX9_lodger_64 fl_RX9_145 (ka_1 (r_8_1 (w := 0) (ka_1 (r_9_5 (w := 0) h_a0).2)).2) (r_2_3 (ka_1 (r_8_1 (w := 0) (ka_1 (r_9_5 (w := 0) h_a0).2)).2)).1 ?_
      refine e_iload_n 1 dX9_lodger_67 rfl rfl ?_
      obtain ⟨q25, h⟩ := gd_some h
      refine s_iald dX9_lodger_68 (r_2_3 (w := 0) (ka_1 (r_8_1 (w := 0) (ka_1 (r_9_5 (w := 0) h_a0).2)).2)).2 q25 ?_
      obtain rfl := Option.some.inj h
      exact s_ret rfl ⟨_, rfl, rfl⟩ dX9_lodger_69
    rw [if_neg c24] at h
    by_cases c26 : i2 = 2
    · rw [if_pos c26] at h
      refine s_eqi c26 ?_
      refine e_tabIn 70 dX9_lodger_20 (by decide) (by decide) rfl (by decide) ?_
      refine e_aload_n 3 dX9_lodger_70 rfl rfl ?_
      refine e_iload_n 1 dX9_lodger_71 rfl rfl ?_
      obtain ⟨r29, σ28, q27, h⟩ := bd_some h
      refine s_callVi [.int i1] dX9_lodger_72 ml_RX9_148 (ka_1 (r_8_1 (w := 0) (ka_1 (r_9_5 (w := 0) h_a0).2)).2) ⟨_, rfl, by decide⟩ rfl (v_X2_isIn (d + 0) (ka_1 (r_8_1 (w := 0) (ka_1 (r_9_5 (w := 0) h_a0).2)).2) q27) (Nat.le_of_ble_eq_true rfl) ?_
      refine e_if_eq 82 dX9_lodger_75 (by decide) (fun c30 => ?_) (fun c30 => ?_)
      · rw [if_pos c30] at h
        refine e_iconst (v := (0 : Int32)) dX9_lodger_82 (by decide) ?_
        obtain rfl := Option.some.inj h
        exact s_ret rfl ⟨_, rfl, rfl⟩ dX9_lodger_83
      · rw [if_neg c30] at h
        refine e_iconst (v := (1 : Int32)) dX9_lodger_78 (by decide) ?_
        refine e_goto 83 dX9_lodger_79 (by decide) ?_
        obtain rfl := Option.some.inj h
        exact s_ret rfl ⟨_, rfl, rfl⟩ dX9_lodger_83
    rw [if_neg c26] at h
    by_cases c31 : i2 = 3
    · rw [if_pos c31] at h
      refine s_eqi c31 ?_
      refine e_tabIn 84 dX9_lodger_20 (by decide) (by decide) rfl (by decide) ?_
      refine e_aload_n 3 dX9_lodger_84 rfl rfl ?_
      refine s_getr dX9_lodger_85 fl_RX9_151 (ka_1 (r_8_1 (w := 0) (ka_1 (r_9_5 (w := 0) h_a0).2)).2) (r_2_4 (ka_1 (r_8_1 (w := 0) (ka_1 (r_9_5 (w := 0) h_a0).2)).2)).1 ?_
      refine e_iload_n 1 dX9_lodger_88 rfl rfl ?_
      obtain ⟨q32, h⟩ := gd_some h
      refine s_iald dX9_lodger_89 (r_2_4 (w := 0) (ka_1 (r_8_1 (w := 0) (ka_1 (r_9_5 (w := 0) h_a0).2)).2)).2 q32 ?_
      obtain rfl := Option.some.inj h
      exact s_ret rfl ⟨_, rfl, rfl⟩ dX9_lodger_90
    rw [if_neg c31] at h
    by_cases c33 : i2 = 4
    · rw [if_pos c33] at h
      refine s_eqi c33 ?_
      refine e_tabIn 91 dX9_lodger_20 (by decide) (by decide) rfl (by decide) ?_
      refine e_aload_n 3 dX9_lodger_91 rfl rfl ?_
      refine s_getr dX9_lodger_92 fl_RX9_154 (ka_1 (r_8_1 (w := 0) (ka_1 (r_9_5 (w := 0) h_a0).2)).2) (r_2_5 (ka_1 (r_8_1 (w := 0) (ka_1 (r_9_5 (w := 0) h_a0).2)).2)).1 ?_
      refine e_iload_n 1 dX9_lodger_95 rfl rfl ?_
      obtain ⟨q34, h⟩ := gd_some h
      refine s_iald dX9_lodger_96 (r_2_5 (w := 0) (ka_1 (r_8_1 (w := 0) (ka_1 (r_9_5 (w := 0) h_a0).2)).2)).2 q34 ?_
      obtain rfl := Option.some.inj h
      exact s_ret rfl ⟨_, rfl, rfl⟩ dX9_lodger_97
    rw [if_neg c33] at h
    have c22' := lv_neT (a := 0) c22 rfl
    have c24' := lv_neT (a := 1) c24 rfl
    have c26' := lv_neT (a := 2) c26 rfl
    have c31' := lv_neT (a := 3) c31 rfl
    have c33' := lv_neT (a := 4) c33 rfl
    refine e_tabOut 98 dX9_lodger_20 (by omega) (by decide) ?_
    refine e_bipush (v := (-2 : Int32)) dX9_lodger_98 (by decide) ?_
    obtain rfl := Option.some.inj h
    exact s_ret rfl ⟨_, rfl, rfl⟩ dX9_lodger_100
  · rw [if_pos c21] at h
    refine e_bipush (v := (-2 : Int32)) dX9_lodger_8 (by decide) ?_
    obtain rfl := Option.some.inj h
    exact s_ret rfl ⟨_, rfl, rfl⟩ dX9_lodger_10
abbrev yy_X9_areUnlike : mm_Y := (yX9_areUnlike, cX9_areUnlike, 3, (some .boolean))
theorem dX9_areUnlike_0 : decode cX9_areUnlike 0 = .ok (.aload_n 0, 1) := by decide +kernel
theorem dX9_areUnlike_1 : decode cX9_areUnlike 1 = .ok (.iload_n 1, 1) := by decide +kernel
theorem dX9_areUnlike_2 : decode cX9_areUnlike 2 = .ok (.invokevirtual 138, 3) := by decide +kernel
theorem dX9_areUnlike_5 : decode cX9_areUnlike 5 = .ok (.ifCond .eq 20, 3) := by decide +kernel
theorem dX9_areUnlike_8 : decode cX9_areUnlike 8 = .ok (.aload_n 0, 1) := by decide +kernel
theorem dX9_areUnlike_9 : decode cX9_areUnlike 9 = .ok (.iload_n 2, 1) := by decide +kernel
theorem dX9_areUnlike_10 : decode cX9_areUnlike 10 = .ok (.invokevirtual 138, 3) := by decide +kernel
theorem dX9_areUnlike_13 : decode cX9_areUnlike 13 = .ok (.ifCond .eq 12, 3) := by decide +kernel
theorem dX9_areUnlike_16 : decode cX9_areUnlike 16 = .ok (.iload_n 1, 1) := by decide +kernel
theorem dX9_areUnlike_17 : decode cX9_areUnlike 17 = .ok (.iload_n 2, 1) := by decide +kernel
theorem dX9_areUnlike_18 : decode cX9_areUnlike 18 = .ok (.if_icmp .eq 7, 3) := by decide +kernel
theorem dX9_areUnlike_21 : decode cX9_areUnlike 21 = .ok (.iconst 1, 1) := by decide +kernel
theorem dX9_areUnlike_22 : decode cX9_areUnlike 22 = .ok (.goto 4, 3) := by decide +kernel
theorem dX9_areUnlike_25 : decode cX9_areUnlike 25 = .ok (.iconst 0, 1) := by decide +kernel
theorem dX9_areUnlike_26 : decode cX9_areUnlike 26 = .ok (.ireturn, 1) := by decide +kernel
def f_X9_areUnlike (a0 : Nat) (i1 : Int32) (i2 : Int32) (σ : mm_S) : Option (Int32 × mm_S) :=
    bd (f_X9_isLodger a0 i1 σ) fun r12 σ11 =>
    if r12 = 0 then
      some ((0 : Int32), σ11)
    else
      bd (f_X9_isLodger a0 i2 σ11) fun r16 σ15 =>
      if r16 = 0 then
        some ((0 : Int32), σ15)
      else
        if i1 = i2 then
          some ((0 : Int32), σ15)
        else
          some ((1 : Int32), σ15)
theorem v_X9_areUnlike {g : mm_G} (d : Nat) {a0 : Nat} {i1 : Int32} {i2 : Int32} {σ : mm_S} {res : Int32 × mm_S} (h_a0 : (mm_K a0).1 = 9) (h : f_X9_areUnlike a0 i1 i2 σ = some res) : SM g (d + 1) yy_X9_areUnlike [.ref a0, .int i1, .int i2] σ (.int res.1) res.2 := by
  refine s_of (by decide) (Nat.le_of_ble_eq_true rfl) (L := [(0, .ref a0), (1, .int i1), (2, .int i2)]) rfl ?_
  unfold f_X9_areUnlike at h
  refine e_aload_n 0 dX9_areUnlike_0 rfl rfl ?_
  refine e_iload_n 1 dX9_areUnlike_1 rfl rfl ?_
  obtain ⟨r12, σ11, q10, h⟩ := bd_some h
  refine s_callVi [.int i1] dX9_areUnlike_2 ml_RX9_138 h_a0 ⟨_, rfl, by decide⟩ rfl (v_X9_isLodger (d + 0) h_a0 q10) (Nat.le_of_ble_eq_true rfl) ?_
  refine e_if_eq 25 dX9_areUnlike_5 (by decide) (fun c13 => ?_) (fun c13 => ?_)
  · rw [if_pos c13] at h
    refine e_iconst (v := (0 : Int32)) dX9_areUnlike_25 (by decide) ?_
    obtain rfl := Option.some.inj h
    exact s_ret rfl ⟨_, rfl, nb1 (Or.inl rfl)⟩ dX9_areUnlike_26
  · rw [if_neg c13] at h
    refine e_aload_n 0 dX9_areUnlike_8 rfl rfl ?_
    refine e_iload_n 2 dX9_areUnlike_9 rfl rfl ?_
    obtain ⟨r16, σ15, q14, h⟩ := bd_some h
    refine s_callVi [.int i2] dX9_areUnlike_10 ml_RX9_138 h_a0 ⟨_, rfl, by decide⟩ rfl (v_X9_isLodger (d + 0) h_a0 q14) (Nat.le_of_ble_eq_true rfl) ?_
    refine e_if_eq 25 dX9_areUnlike_13 (by decide) (fun c17 => ?_) (fun c17 => ?_)
    · rw [if_pos c17] at h
      refine e_iconst (v := (0 : Int32)) dX9_areUnlike_25 (by decide) ?_
      obtain rfl := Option.some.inj h
      exact s_ret rfl ⟨_, rfl, nb1 (Or.inl rfl)⟩ dX9_areUnlike_26
    · rw [if_neg c17] at h
      refine e_iload_n 1 dX9_areUnlike_16 rfl rfl ?_
      refine e_iload_n 2 dX9_areUnlike_17 rfl rfl ?_
      refine e_icmp_eq 25 dX9_areUnlike_18 (by decide) (fun c18 => ?_) (fun c18 => ?_)
      · rw [if_pos c18] at h
        refine e_iconst (v := (0 : Int32)) dX9_areUnlike_25 (by decide) ?_
        obtain rfl := Option.some.inj h
        exact s_ret rfl ⟨_, rfl, nb1 (Or.inl rfl)⟩ dX9_areUnlike_26
      · rw [if_neg c18] at h
        refine e_iconst (v := (1 : Int32)) dX9_areUnlike_21 (by decide) ?_
        refine e_goto 26 dX9_areUnlike_22 (by decide) ?_
        obtain rfl := Option.some.inj h
        exact s_ret rfl ⟨_, rfl, nb1 (Or.inr rfl)⟩ dX9_areUnlike_26
abbrev yy_X9_dear : mm_Y := (yX9_dear, cX9_dear, 3, (some .int))
theorem dX9_dear_0 : decode cX9_dear 0 = .ok (.aload_n 0, 1) := by decide +kernel
theorem dX9_dear_1 : decode cX9_dear 1 = .ok (.iload_n 1, 1) := by decide +kernel
theorem dX9_dear_2 : decode cX9_dear 2 = .ok (.iload_n 2, 1) := by decide +kernel
theorem dX9_dear_3 : decode cX9_dear 3 = .ok (.invokevirtual 157, 3) := by decide +kernel
theorem dX9_dear_6 : decode cX9_dear 6 = .ok (.ifCond .ne 5, 3) := by decide +kernel
theorem dX9_dear_9 : decode cX9_dear 9 = .ok (.iconst (-1), 1) := by decide +kernel
theorem dX9_dear_10 : decode cX9_dear 10 = .ok (.ireturn, 1) := by decide +kernel
theorem dX9_dear_11 : decode cX9_dear 11 = .ok (.aload_n 0, 1) := by decide +kernel
theorem dX9_dear_12 : decode cX9_dear 12 = .ok (.getfield 50, 3) := by decide +kernel
theorem dX9_dear_15 : decode cX9_dear 15 = .ok (.getfield 71, 3) := by decide +kernel
theorem dX9_dear_18 : decode cX9_dear 18 = .ok (.iload_n 1, 1) := by decide +kernel
theorem dX9_dear_19 : decode cX9_dear 19 = .ok (.iload_n 2, 1) := by decide +kernel
theorem dX9_dear_20 : decode cX9_dear 20 = .ok (.invokevirtual 161, 3) := by decide +kernel
theorem dX9_dear_23 : decode cX9_dear 23 = .ok (.ireturn, 1) := by decide +kernel
def f_X9_dear (a0 : Nat) (i1 : Int32) (i2 : Int32) (σ : mm_S) : Option (Int32 × mm_S) :=
    bd (f_X9_areUnlike a0 i1 i2 σ) fun r10 σ9 =>
    if r10 = 0 then
      some ((-1 : Int32), σ9)
    else
      bd (f_X1_dearness (26 + 1) i1 i2 σ9) fun r14 σ13 =>
      some (r14, σ13)
theorem v_X9_dear {g : mm_G} (d : Nat) {a0 : Nat} {i1 : Int32} {i2 : Int32} {σ : mm_S} {res : Int32 × mm_S} (h_a0 : (mm_K a0).1 = 9) (h : f_X9_dear a0 i1 i2 σ = some res) : SM g (d + 2) yy_X9_dear [.ref a0, .int i1, .int i2] σ (.int res.1) res.2 := by
  refine s_of (by decide) (Nat.le_of_ble_eq_true rfl) (L := [(0, .ref a0), (1, .int i1), (2, .int i2)]) rfl ?_
  unfold f_X9_dear at h
  refine e_aload_n 0 dX9_dear_0 rfl rfl ?_
  refine e_iload_n 1 dX9_dear_1 rfl rfl ?_
  refine e_iload_n 2 dX9_dear_2 rfl rfl ?_
  obtain ⟨r10, σ9, q8, h⟩ := bd_some h
  refine s_callVi [.int i1, .int i2] dX9_dear_3 ml_RX9_157 h_a0 ⟨_, rfl, by decide⟩ rfl (v_X9_areUnlike (d + 0) h_a0 q8) (Nat.le_of_ble_eq_true rfl) ?_
  refine e_if_ne 11 dX9_dear_6 (by decide) (fun c11 => ?_) (fun c11 => ?_)
  · rw [if_neg c11] at h
    refine e_aload_n 0 dX9_dear_11 rfl rfl ?_
    refine s_getr dX9_dear_12 fl_RX9_50 h_a0 (r_9_5 h_a0).1 ?_
    refine s_getr dX9_dear_15 fl_RX9_71 (ka_1 (r_9_5 (w := 0) h_a0).2) (r_8_0 (ka_1 (r_9_5 (w := 0) h_a0).2)).1 ?_
    refine e_iload_n 1 dX9_dear_18 rfl rfl ?_
    refine e_iload_n 2 dX9_dear_19 rfl rfl ?_
    obtain ⟨r14, σ13, q12, h⟩ := bd_some h
    refine s_callVi [.int i1, .int i2] dX9_dear_20 ml_RX9_161 (ka_1 (r_8_0 (w := 0) (ka_1 (r_9_5 (w := 0) h_a0).2)).2) ⟨_, rfl, by decide⟩ rfl (v_X1_dearness (d + 1) (ka_1 (r_8_0 (w := 0) (ka_1 (r_9_5 (w := 0) h_a0).2)).2) q12) (Nat.le_of_ble_eq_true rfl) ?_
    obtain rfl := Option.some.inj h
    exact s_ret rfl ⟨_, rfl, rfl⟩ dX9_dear_23
  · rw [if_pos c11] at h
    refine e_iconst (v := (-1 : Int32)) dX9_dear_9 (by decide) ?_
    obtain rfl := Option.some.inj h
    exact s_ret rfl ⟨_, rfl, rfl⟩ dX9_dear_10
abbrev yy_X9_sum : mm_Y := (yX9_sum, cX9_sum, 3, (some .int))
theorem dX9_sum_0 : decode cX9_sum 0 = .ok (.iconst 0, 1) := by decide +kernel
theorem dX9_sum_1 : decode cX9_sum 1 = .ok (.istore_n 1, 1) := by decide +kernel
theorem dX9_sum_2 : decode cX9_sum 2 = .ok (.iconst 0, 1) := by decide +kernel
theorem dX9_sum_3 : decode cX9_sum 3 = .ok (.istore_n 2, 1) := by decide +kernel
theorem dX9_sum_4 : decode cX9_sum 4 = .ok (.iload_n 2, 1) := by decide +kernel
theorem dX9_sum_5 : decode cX9_sum 5 = .ok (.aload_n 0, 1) := by decide +kernel
theorem dX9_sum_6 : decode cX9_sum 6 = .ok (.arraylength, 1) := by decide +kernel
theorem dX9_sum_7 : decode cX9_sum 7 = .ok (.if_icmp .ge 15, 3) := by decide +kernel
theorem dX9_sum_10 : decode cX9_sum 10 = .ok (.iload_n 1, 1) := by decide +kernel
theorem dX9_sum_11 : decode cX9_sum 11 = .ok (.aload_n 0, 1) := by decide +kernel
theorem dX9_sum_12 : decode cX9_sum 12 = .ok (.iload_n 2, 1) := by decide +kernel
theorem dX9_sum_13 : decode cX9_sum 13 = .ok (.iaload, 1) := by decide +kernel
theorem dX9_sum_14 : decode cX9_sum 14 = .ok (.iadd, 1) := by decide +kernel
theorem dX9_sum_15 : decode cX9_sum 15 = .ok (.istore_n 1, 1) := by decide +kernel
theorem dX9_sum_16 : decode cX9_sum 16 = .ok (.iinc 2 1, 3) := by decide +kernel
theorem dX9_sum_19 : decode cX9_sum 19 = .ok (.goto (-15), 3) := by decide +kernel
theorem dX9_sum_22 : decode cX9_sum 22 = .ok (.iload_n 1, 1) := by decide +kernel
theorem dX9_sum_23 : decode cX9_sum 23 = .ok (.ireturn, 1) := by decide +kernel
def f_X9_sum_4 (a0 : Nat) (i1 : Int32) (i2 : Int32) (σ : mm_S) : Option (Int32 × mm_S) :=
  lp lpN (fun (k4 : (Int32 × Int32) → mm_S → Option (Int32 × mm_S)) (v : Int32 × Int32) (σ : mm_S) =>
    if (Int32.ofNat (mm_K a0).2) ≤ v.2 then
      some (v.1, σ)
    else
      gd v.2 (mm_K a0).2 <|
      lt ((v.1 + (σ.1 a0 v.2.toNatClampNeg))) fun x3 =>
      lt (v.2 + Int32.ofInt (1)) fun x5 =>
      k4 (x3, x5) σ) (i1, i2) σ
theorem v_X9_sum_4 {g : mm_G} (d : Nat) {a0 : Nat} {i1 : Int32} {i2 : Int32} {σ : mm_S} {res : Int32 × mm_S}  (h_a0 : (mm_K a0).1 = 12) (h : f_X9_sum_4 a0 i1 i2 σ = some res) : SV g (d + 0) yy_X9_sum 4 [(0, .ref a0), (1, .int i1), (2, .int i2)] [] σ (.int res.1) res.2 := by
  unfold f_X9_sum_4 at h
  refine lp_ind (P := fun v σ => SV g (d + 0) yy_X9_sum 4 [(0, .ref a0), (1, .int v.1), (2, .int v.2)] [] σ (.int res.1) res.2) (fun k4 H4 v σ h => ?_) _ (i1, i2) σ h
  refine e_iload_n 2 dX9_sum_4 rfl rfl ?_
  refine e_aload_n 0 dX9_sum_5 rfl rfl ?_
  refine s_alen dX9_sum_6 (ka_2 h_a0) ⟨by decide, by decide⟩ rfl ?_
  refine e_icmp_ge 22 dX9_sum_7 (by decide) (fun c1 => ?_) (fun c1 => ?_)
  · rw [if_pos c1] at h
    refine e_iload_n 1 dX9_sum_22 rfl rfl ?_
    obtain rfl := Option.some.inj h
    exact s_ret rfl ⟨_, rfl, rfl⟩ dX9_sum_23
  · rw [if_neg c1] at h
    refine e_iload_n 1 dX9_sum_10 rfl rfl ?_
    refine e_aload_n 0 dX9_sum_11 rfl rfl ?_
    refine e_iload_n 2 dX9_sum_12 rfl rfl ?_
    obtain ⟨q2, h⟩ := gd_some h
    refine s_iald dX9_sum_13 (ka_2 h_a0) q2 ?_
    refine e_iadd dX9_sum_14 ?_
    obtain ⟨x3, q4, h⟩ := lt_some h
    refine s_nmi q4 ?_
    refine e_istore_n (L' := [(0, .ref a0), (1, .int x3), (2, .int v.2)]) dX9_sum_15 rfl (by decide) rfl ?_
    obtain ⟨x5, q6, h⟩ := lt_some h
    refine e_iinc (v := x5) (L' := [(0, .ref a0), (1, .int x3), (2, .int x5)]) 2 dX9_sum_16 rfl q6.symm (by decide) rfl ?_
    refine e_goto 4 dX9_sum_19 (by decide) ?_
    refine s_pick (L' := [(0, .ref a0), (1, .int x3), (2, .int x5)]) [0, 1, 2] rfl ?_
    exact H4 (x3, x5) σ h
def f_X9_sum (a0 : Nat) (σ : mm_S) : Option (Int32 × mm_S) :=
    f_X9_sum_4 a0 (0 : Int32) (0 : Int32) σ
theorem v_X9_sum {g : mm_G} (d : Nat) {a0 : Nat} {σ : mm_S} {res : Int32 × mm_S} (h_a0 : (mm_K a0).1 = 12) (h : f_X9_sum a0 σ = some res) : SM g (d + 0) yy_X9_sum [.ref a0] σ (.int res.1) res.2 := by
  refine s_of (by decide) (Nat.le_of_ble_eq_true rfl) (L := [(0, .ref a0)]) rfl ?_
  unfold f_X9_sum at h
  refine e_iconst (v := (0 : Int32)) dX9_sum_0 (by decide) ?_
  refine e_istore_n (L' := [(0, .ref a0), (1, .int (0 : Int32))]) dX9_sum_1 rfl (by decide) rfl ?_
  refine e_iconst (v := (0 : Int32)) dX9_sum_2 (by decide) ?_
  refine e_istore_n (L' := [(0, .ref a0), (1, .int (0 : Int32)), (2, .int (0 : Int32))]) dX9_sum_3 rfl (by decide) rfl ?_
  refine s_pick (L' := [(0, .ref a0), (1, .int (0 : Int32)), (2, .int (0 : Int32))]) [0, 1, 2] rfl ?_
  exact v_X9_sum_4 d h_a0 h
abbrev yy_X9_count : mm_Y := (yX9_count, cX9_count, 2, (some .int))
theorem dX9_count_0 : decode cX9_count 0 = .ok (.iload_n 1, 1) := by decide +kernel
theorem dX9_count_1 : decode cX9_count 1 = .ok (.tableswitch 231 0 13 #[71, 82, 93, 104, 109, 117, 128, 139, 168, 182, 196, 207, 215, 223], 71) := by decide +kernel
theorem dX9_count_72 : decode cX9_count 72 = .ok (.aload_n 0, 1) := by decide +kernel
theorem dX9_count_73 : decode cX9_count 73 = .ok (.getfield 50, 3) := by decide +kernel
theorem dX9_count_76 : decode cX9_count 76 = .ok (.getfield 71, 3) := by decide +kernel
theorem dX9_count_79 : decode cX9_count 79 = .ok (.getfield 165, 3) := by decide +kernel
theorem dX9_count_82 : decode cX9_count 82 = .ok (.ireturn, 1) := by decide +kernel
theorem dX9_count_83 : decode cX9_count 83 = .ok (.aload_n 0, 1) := by decide +kernel
theorem dX9_count_84 : decode cX9_count 84 = .ok (.getfield 50, 3) := by decide +kernel
theorem dX9_count_87 : decode cX9_count 87 = .ok (.getfield 71, 3) := by decide +kernel
theorem dX9_count_90 : decode cX9_count 90 = .ok (.getfield 168, 3) := by decide +kernel
theorem dX9_count_93 : decode cX9_count 93 = .ok (.ireturn, 1) := by decide +kernel
theorem dX9_count_94 : decode cX9_count 94 = .ok (.aload_n 0, 1) := by decide +kernel
theorem dX9_count_95 : decode cX9_count 95 = .ok (.getfield 50, 3) := by decide +kernel
theorem dX9_count_98 : decode cX9_count 98 = .ok (.getfield 71, 3) := by decide +kernel
theorem dX9_count_101 : decode cX9_count 101 = .ok (.getfield 128, 3) := by decide +kernel
theorem dX9_count_104 : decode cX9_count 104 = .ok (.ireturn, 1) := by decide +kernel
theorem dX9_count_105 : decode cX9_count 105 = .ok (.aload_n 0, 1) := by decide +kernel
theorem dX9_count_106 : decode cX9_count 106 = .ok (.getfield 43, 3) := by decide +kernel
theorem dX9_count_109 : decode cX9_count 109 = .ok (.ireturn, 1) := by decide +kernel
theorem dX9_count_110 : decode cX9_count 110 = .ok (.aload_n 0, 1) := by decide +kernel
theorem dX9_count_111 : decode cX9_count 111 = .ok (.getfield 50, 3) := by decide +kernel
theorem dX9_count_114 : decode cX9_count 114 = .ok (.getfield 135, 3) := by decide +kernel
theorem dX9_count_117 : decode cX9_count 117 = .ok (.ireturn, 1) := by decide +kernel
theorem dX9_count_118 : decode cX9_count 118 = .ok (.aload_n 0, 1) := by decide +kernel
theorem dX9_count_119 : decode cX9_count 119 = .ok (.getfield 50, 3) := by decide +kernel
theorem dX9_count_122 : decode cX9_count 122 = .ok (.getfield 107, 3) := by decide +kernel
theorem dX9_count_125 : decode cX9_count 125 = .ok (.getfield 171, 3) := by decide +kernel
theorem dX9_count_128 : decode cX9_count 128 = .ok (.ireturn, 1) := by decide +kernel
theorem dX9_count_129 : decode cX9_count 129 = .ok (.aload_n 0, 1) := by decide +kernel
theorem dX9_count_130 : decode cX9_count 130 = .ok (.getfield 50, 3) := by decide +kernel
theorem dX9_count_133 : decode cX9_count 133 = .ok (.getfield 107, 3) := by decide +kernel
theorem dX9_count_136 : decode cX9_count 136 = .ok (.getfield 174, 3) := by decide +kernel
theorem dX9_count_139 : decode cX9_count 139 = .ok (.ireturn, 1) := by decide +kernel
theorem dX9_count_140 : decode cX9_count 140 = .ok (.aload_n 0, 1) := by decide +kernel
theorem dX9_count_141 : decode cX9_count 141 = .ok (.getfield 50, 3) := by decide +kernel
theorem dX9_count_144 : decode cX9_count 144 = .ok (.getfield 71, 3) := by decide +kernel
theorem dX9_count_147 : decode cX9_count 147 = .ok (.aload_n 0, 1) := by decide +kernel
theorem dX9_count_148 : decode cX9_count 148 = .ok (.getfield 50, 3) := by decide +kernel
theorem dX9_count_151 : decode cX9_count 151 = .ok (.getfield 107, 3) := by decide +kernel
theorem dX9_count_154 : decode cX9_count 154 = .ok (.getfield 171, 3) := by decide +kernel
theorem dX9_count_157 : decode cX9_count 157 = .ok (.invokevirtual 177, 3) := by decide +kernel
theorem dX9_count_160 : decode cX9_count 160 = .ok (.ifCond .eq 7, 3) := by decide +kernel
theorem dX9_count_163 : decode cX9_count 163 = .ok (.iconst 1, 1) := by decide +kernel
theorem dX9_count_164 : decode cX9_count 164 = .ok (.goto 4, 3) := by decide +kernel
theorem dX9_count_167 : decode cX9_count 167 = .ok (.iconst 0, 1) := by decide +kernel
theorem dX9_count_168 : decode cX9_count 168 = .ok (.ireturn, 1) := by decide +kernel
theorem dX9_count_169 : decode cX9_count 169 = .ok (.aload_n 0, 1) := by decide +kernel
theorem dX9_count_170 : decode cX9_count 170 = .ok (.getfield 50, 3) := by decide +kernel
theorem dX9_count_173 : decode cX9_count 173 = .ok (.getfield 107, 3) := by decide +kernel
theorem dX9_count_176 : decode cX9_count 176 = .ok (.getfield 142, 3) := by decide +kernel
theorem dX9_count_179 : decode cX9_count 179 = .ok (.invokestatic 180, 3) := by decide +kernel
theorem dX9_count_182 : decode cX9_count 182 = .ok (.ireturn, 1) := by decide +kernel
theorem dX9_count_183 : decode cX9_count 183 = .ok (.aload_n 0, 1) := by decide +kernel
theorem dX9_count_184 : decode cX9_count 184 = .ok (.getfield 50, 3) := by decide +kernel
theorem dX9_count_187 : decode cX9_count 187 = .ok (.getfield 107, 3) := by decide +kernel
theorem dX9_count_190 : decode cX9_count 190 = .ok (.getfield 154, 3) := by decide +kernel
theorem dX9_count_193 : decode cX9_count 193 = .ok (.invokestatic 180, 3) := by decide +kernel
theorem dX9_count_196 : decode cX9_count 196 = .ok (.ireturn, 1) := by decide +kernel
theorem dX9_count_197 : decode cX9_count 197 = .ok (.aload_n 0, 1) := by decide +kernel
theorem dX9_count_198 : decode cX9_count 198 = .ok (.getfield 50, 3) := by decide +kernel
theorem dX9_count_201 : decode cX9_count 201 = .ok (.getfield 116, 3) := by decide +kernel
theorem dX9_count_204 : decode cX9_count 204 = .ok (.getfield 120, 3) := by decide +kernel
theorem dX9_count_207 : decode cX9_count 207 = .ok (.ireturn, 1) := by decide +kernel
theorem dX9_count_208 : decode cX9_count 208 = .ok (.aload_n 0, 1) := by decide +kernel
theorem dX9_count_209 : decode cX9_count 209 = .ok (.getfield 65, 3) := by decide +kernel
theorem dX9_count_212 : decode cX9_count 212 = .ok (.getfield 184, 3) := by decide +kernel
theorem dX9_count_215 : decode cX9_count 215 = .ok (.ireturn, 1) := by decide +kernel
theorem dX9_count_216 : decode cX9_count 216 = .ok (.aload_n 0, 1) := by decide +kernel
theorem dX9_count_217 : decode cX9_count 217 = .ok (.getfield 50, 3) := by decide +kernel
theorem dX9_count_220 : decode cX9_count 220 = .ok (.getfield 185, 3) := by decide +kernel
theorem dX9_count_223 : decode cX9_count 223 = .ok (.ireturn, 1) := by decide +kernel
theorem dX9_count_224 : decode cX9_count 224 = .ok (.aload_n 0, 1) := by decide +kernel
theorem dX9_count_225 : decode cX9_count 225 = .ok (.getfield 12, 3) := by decide +kernel
theorem dX9_count_228 : decode cX9_count 228 = .ok (.getfield 91, 3) := by decide +kernel
theorem dX9_count_231 : decode cX9_count 231 = .ok (.ireturn, 1) := by decide +kernel
theorem dX9_count_232 : decode cX9_count 232 = .ok (.iconst (-1), 1) := by decide +kernel
theorem dX9_count_233 : decode cX9_count 233 = .ok (.ireturn, 1) := by decide +kernel
def f_X9_count (a0 : Nat) (i1 : Int32) (σ : mm_S) : Option (Int32 × mm_S) :=
    if i1 = 0 then
      some ((σ.1 (26 + 1) 1), σ)
    else
    if i1 = 1 then
      some ((σ.1 (26 + 1) 2), σ)
    else
    if i1 = 2 then
      some ((σ.1 (26 + 1) 3), σ)
    else
    if i1 = 3 then
      some ((σ.1 a0 4), σ)
    else
    if i1 = 4 then
      some ((σ.1 26 3), σ)
    else
    if i1 = 5 then
      some ((σ.1 (26 + 5) 0), σ)
    else
    if i1 = 6 then
      some ((σ.1 (26 + 5) 1), σ)
    else
    if i1 = 7 then
      bd (f_X1_countsAt (26 + 1) (σ.1 (26 + 5) 0) σ) fun r35 σ34 =>
      if r35 = 0 then
        some ((0 : Int32), σ34)
      else
        some ((1 : Int32), σ34)
    else
    if i1 = 8 then
      bd (f_X9_sum ((26 + 5) + 1) σ) fun r40 σ39 =>
      some (r40, σ39)
    else
    if i1 = 9 then
      bd (f_X9_sum ((26 + 5) + 4) σ) fun r44 σ43 =>
      some (r44, σ43)
    else
    if i1 = 10 then
      some ((σ.1 (26 + 10) 0), σ)
    else
    if i1 = 11 then
      some ((σ.1 98 2), σ)
    else
    if i1 = 12 then
      some ((σ.1 26 4), σ)
    else
    if i1 = 13 then
      some ((σ.1 1 1), σ)
    else
    some ((-1 : Int32), σ)
theorem v_X9_count {g : mm_G} (d : Nat) {a0 : Nat} {i1 : Int32} {σ : mm_S} {res : Int32 × mm_S} (h_a0 : (mm_K a0).1 = 9) (h : f_X9_count a0 i1 σ = some res) : SM g (d + 1) yy_X9_count [.ref a0, .int i1] σ (.int res.1) res.2 := by
  refine s_of (by decide) (Nat.le_of_ble_eq_true rfl) (L := [(0, .ref a0), (1, .int i1)]) rfl ?_
  unfold f_X9_count at h
  refine e_iload_n 1 dX9_count_0 rfl rfl ?_
  by_cases c25 : i1 = 0
  · rw [if_pos c25] at h
    refine s_eqi c25 ?_
    refine e_tabIn 72 dX9_count_1 (by decide) (by decide) rfl (by decide) ?_
    refine e_aload_n 0 dX9_count_72 rfl rfl ?_
    refine s_getr dX9_count_73 fl_RX9_50 h_a0 (r_9_5 h_a0).1 ?_
    refine s_getr dX9_count_76 fl_RX9_71 (ka_1 (r_9_5 (w := 0) h_a0).2) (r_8_0 (ka_1 (r_9_5 (w := 0) h_a0).2)).1 ?_
    refine s_geti dX9_count_79 fl_RX9_165 (ka_1 (r_8_0 (w := 0) (ka_1 (r_9_5 (w := 0) h_a0).2)).2) ?_
    obtain rfl := Option.some.inj h
    exact s_ret rfl ⟨_, rfl, rfl⟩ dX9_count_82
  rw [if_neg c25] at h
  by_cases c26 : i1 = 1
  · rw [if_pos c26] at h
    refine s_eqi c26 ?_
    refine e_tabIn 83 dX9_count_1 (by decide) (by decide) rfl (by decide) ?_
    refine e_aload_n 0 dX9_count_83 rfl rfl ?_
    refine s_getr dX9_count_84 fl_RX9_50 h_a0 (r_9_5 h_a0).1 ?_
    refine s_getr dX9_count_87 fl_RX9_71 (ka_1 (r_9_5 (w := 0) h_a0).2) (r_8_0 (ka_1 (r_9_5 (w := 0) h_a0).2)).1 ?_
    refine s_geti dX9_count_90 fl_RX9_168 (ka_1 (r_8_0 (w := 0) (ka_1 (r_9_5 (w := 0) h_a0).2)).2) ?_
    obtain rfl := Option.some.inj h
    exact s_ret rfl ⟨_, rfl, rfl⟩ dX9_count_93
  rw [if_neg c26] at h
  by_cases c27 : i1 = 2
  · rw [if_pos c27] at h
    refine s_eqi c27 ?_
    refine e_tabIn 94 dX9_count_1 (by decide) (by decide) rfl (by decide) ?_
    refine e_aload_n 0 dX9_count_94 rfl rfl ?_
    refine s_getr dX9_count_95 fl_RX9_50 h_a0 (r_9_5 h_a0).1 ?_
    refine s_getr dX9_count_98 fl_RX9_71 (ka_1 (r_9_5 (w := 0) h_a0).2) (r_8_0 (ka_1 (r_9_5 (w := 0) h_a0).2)).1 ?_
    refine s_geti dX9_count_101 fl_RX9_128 (ka_1 (r_8_0 (w := 0) (ka_1 (r_9_5 (w := 0) h_a0).2)).2) ?_
    obtain rfl := Option.some.inj h
    exact s_ret rfl ⟨_, rfl, rfl⟩ dX9_count_104
  rw [if_neg c27] at h
  by_cases c28 : i1 = 3
  · rw [if_pos c28] at h
    refine s_eqi c28 ?_
    refine e_tabIn 105 dX9_count_1 (by decide) (by decide) rfl (by decide) ?_
    refine e_aload_n 0 dX9_count_105 rfl rfl ?_
    refine s_geti dX9_count_106 fl_RX9_43 h_a0 ?_
    obtain rfl := Option.some.inj h
    exact s_ret rfl ⟨_, rfl, rfl⟩ dX9_count_109
  rw [if_neg c28] at h
  by_cases c29 : i1 = 4
  · rw [if_pos c29] at h
    refine s_eqi c29 ?_
    refine e_tabIn 110 dX9_count_1 (by decide) (by decide) rfl (by decide) ?_
    refine e_aload_n 0 dX9_count_110 rfl rfl ?_
    refine s_getr dX9_count_111 fl_RX9_50 h_a0 (r_9_5 h_a0).1 ?_
    refine s_geti dX9_count_114 fl_RX9_135 (ka_1 (r_9_5 (w := 0) h_a0).2) ?_
    obtain rfl := Option.some.inj h
    exact s_ret rfl ⟨_, rfl, rfl⟩ dX9_count_117
  rw [if_neg c29] at h
  by_cases c30 : i1 = 5
  · rw [if_pos c30] at h
    refine s_eqi c30 ?_
    refine e_tabIn 118 dX9_count_1 (by decide) (by decide) rfl (by decide) ?_
    refine e_aload_n 0 dX9_count_118 rfl rfl ?_
    refine s_getr dX9_count_119 fl_RX9_50 h_a0 (r_9_5 h_a0).1 ?_
    refine s_getr dX9_count_122 fl_RX9_107 (ka_1 (r_9_5 (w := 0) h_a0).2) (r_8_1 (ka_1 (r_9_5 (w := 0) h_a0).2)).1 ?_
    refine s_geti dX9_count_125 fl_RX9_171 (ka_1 (r_8_1 (w := 0) (ka_1 (r_9_5 (w := 0) h_a0).2)).2) ?_
    obtain rfl := Option.some.inj h
    exact s_ret rfl ⟨_, rfl, rfl⟩ dX9_count_128
  rw [if_neg c30] at h
  by_cases c31 : i1 = 6
  · rw [if_pos c31] at h
    refine s_eqi c31 ?_
    refine e_tabIn 129 dX9_count_1 (by decide) (by decide) rfl (by decide) ?_
    refine e_aload_n 0 dX9_count_129 rfl rfl ?_
    refine s_getr dX9_count_130 fl_RX9_50 h_a0 (r_9_5 h_a0).1 ?_
    refine s_getr dX9_count_133 fl_RX9_107 (ka_1 (r_9_5 (w := 0) h_a0).2) (r_8_1 (ka_1 (r_9_5 (w := 0) h_a0).2)).1 ?_
    refine s_geti dX9_count_136 fl_RX9_174 (ka_1 (r_8_1 (w := 0) (ka_1 (r_9_5 (w := 0) h_a0).2)).2) ?_
    obtain rfl := Option.some.inj h
    exact s_ret rfl ⟨_, rfl, rfl⟩ dX9_count_139
  rw [if_neg c31] at h
  by_cases c32 : i1 = 7
  · rw [if_pos c32] at h
    refine s_eqi c32 ?_
    refine e_tabIn 140 dX9_count_1 (by decide) (by decide) rfl (by decide) ?_
    refine e_aload_n 0 dX9_count_140 rfl rfl ?_
    refine s_getr dX9_count_141 fl_RX9_50 h_a0 (r_9_5 h_a0).1 ?_
    refine s_getr dX9_count_144 fl_RX9_71 (ka_1 (r_9_5 (w := 0) h_a0).2) (r_8_0 (ka_1 (r_9_5 (w := 0) h_a0).2)).1 ?_
    refine e_aload_n 0 dX9_count_147 rfl rfl ?_
    refine s_getr dX9_count_148 fl_RX9_50 h_a0 (r_9_5 h_a0).1 ?_
    refine s_getr dX9_count_151 fl_RX9_107 (ka_1 (r_9_5 (w := 0) h_a0).2) (r_8_1 (ka_1 (r_9_5 (w := 0) h_a0).2)).1 ?_
    refine s_geti dX9_count_154 fl_RX9_171 (ka_1 (r_8_1 (w := 0) (ka_1 (r_9_5 (w := 0) h_a0).2)).2) ?_
    obtain ⟨r35, σ34, q33, h⟩ := bd_some h
    refine s_callVi [.int (σ.1 (26 + 5) 0)] dX9_count_157 ml_RX9_177 (ka_1 (r_8_0 (w := 0) (ka_1 (r_9_5 (w := 0) h_a0).2)).2) ⟨_, rfl, by decide⟩ rfl (v_X1_countsAt (d + 0) (ka_1 (r_8_0 (w := 0) (ka_1 (r_9_5 (w := 0) h_a0).2)).2) q33) (Nat.le_of_ble_eq_true rfl) ?_
    refine e_if_eq 167 dX9_count_160 (by decide) (fun c36 => ?_) (fun c36 => ?_)
    · rw [if_pos c36] at h
      refine e_iconst (v := (0 : Int32)) dX9_count_167 (by decide) ?_
      obtain rfl := Option.some.inj h
      exact s_ret rfl ⟨_, rfl, rfl⟩ dX9_count_168
    · rw [if_neg c36] at h
      refine e_iconst (v := (1 : Int32)) dX9_count_163 (by decide) ?_
      refine e_goto 168 dX9_count_164 (by decide) ?_
      obtain rfl := Option.some.inj h
      exact s_ret rfl ⟨_, rfl, rfl⟩ dX9_count_168
  rw [if_neg c32] at h
  by_cases c37 : i1 = 8
  · rw [if_pos c37] at h
    refine s_eqi c37 ?_
    refine e_tabIn 169 dX9_count_1 (by decide) (by decide) rfl (by decide) ?_
    refine e_aload_n 0 dX9_count_169 rfl rfl ?_
    refine s_getr dX9_count_170 fl_RX9_50 h_a0 (r_9_5 h_a0).1 ?_
    refine s_getr dX9_count_173 fl_RX9_107 (ka_1 (r_9_5 (w := 0) h_a0).2) (r_8_1 (ka_1 (r_9_5 (w := 0) h_a0).2)).1 ?_
    refine s_getr dX9_count_176 fl_RX9_142 (ka_1 (r_8_1 (w := 0) (ka_1 (r_9_5 (w := 0) h_a0).2)).2) (r_2_2 (ka_1 (r_8_1 (w := 0) (ka_1 (r_9_5 (w := 0) h_a0).2)).2)).1 ?_
    obtain ⟨r40, σ39, q38, h⟩ := bd_some h
    refine s_callSi [.ref ((26 + 5) + 1)] dX9_count_179 ml_RX9_180 ⟨_, rfl, by decide⟩ rfl (v_X9_sum (d + 0) (ka_1 (r_2_2 (w := 0) (ka_1 (r_8_1 (w := 0) (ka_1 (r_9_5 (w := 0) h_a0).2)).2)).2) q38) (Nat.le_of_ble_eq_true rfl) ?_
    obtain rfl := Option.some.inj h
    exact s_ret rfl ⟨_, rfl, rfl⟩ dX9_count_182
  rw [if_neg c37] at h
  by_cases c41 : i1 = 9
  · rw [if_pos c41] at h
    refine s_eqi c41 ?_
    refine e_tabIn 183 dX9_count_1 (by decide) (by decide) rfl (by decide) ?_
    refine e_aload_n 0 dX9_count_183 rfl rfl ?_
    refine s_getr dX9_count_184 fl_RX9_50 h_a0 (r_9_5 h_a0).1 ?_
    refine s_getr dX9_count_187 fl_RX9_107 (ka_1 (r_9_5 (w := 0) h_a0).2) (r_8_1 (ka_1 (r_9_5 (w := 0) h_a0).2)).1 ?_
    refine s_getr dX9_count_190 fl_RX9_154 (ka_1 (r_8_1 (w := 0) (ka_1 (r_9_5 (w := 0) h_a0).2)).2) (r_2_5 (ka_1 (r_8_1 (w := 0) (ka_1 (r_9_5 (w := 0) h_a0).2)).2)).1 ?_
    obtain ⟨r44, σ43, q42, h⟩ := bd_some h
    refine s_callSi [.ref ((26 + 5) + 4)] dX9_count_193 ml_RX9_180 ⟨_, rfl, by decide⟩ rfl (v_X9_sum (d + 0) (ka_1 (r_2_5 (w := 0) (ka_1 (r_8_1 (w := 0) (ka_1 (r_9_5 (w := 0) h_a0).2)).2)).2) q42) (Nat.le_of_ble_eq_true rfl) ?_
    obtain rfl := Option.some.inj h
    exact s_ret rfl ⟨_, rfl, rfl⟩ dX9_count_196
  rw [if_neg c41] at h
  by_cases c45 : i1 = 10
  · rw [if_pos c45] at h
    refine s_eqi c45 ?_
    refine e_tabIn 197 dX9_count_1 (by decide) (by decide) rfl (by decide) ?_
    refine e_aload_n 0 dX9_count_197 rfl rfl ?_
    refine s_getr dX9_count_198 fl_RX9_50 h_a0 (r_9_5 h_a0).1 ?_
    refine s_getr dX9_count_201 fl_RX9_116 (ka_1 (r_9_5 (w := 0) h_a0).2) (r_8_2 (ka_1 (r_9_5 (w := 0) h_a0).2)).1 ?_
    refine s_geti dX9_count_204 fl_RX9_120 (ka_1 (r_8_2 (w := 0) (ka_1 (r_9_5 (w := 0) h_a0).2)).2) ?_
    obtain rfl := Option.some.inj h
    exact s_ret rfl ⟨_, rfl, rfl⟩ dX9_count_207
  rw [if_neg c45] at h
  by_cases c46 : i1 = 11
  · rw [if_pos c46] at h
    refine s_eqi c46 ?_
    refine e_tabIn 208 dX9_count_1 (by decide) (by decide) rfl (by decide) ?_
    refine e_aload_n 0 dX9_count_208 rfl rfl ?_
    refine s_getr dX9_count_209 fl_RX9_65 h_a0 (r_9_8 h_a0).1 ?_
    refine s_geti dX9_count_212 fl_RX9_184 (ka_1 (r_9_8 (w := 0) h_a0).2) ?_
    obtain rfl := Option.some.inj h
    exact s_ret rfl ⟨_, rfl, rfl⟩ dX9_count_215
  rw [if_neg c46] at h
  by_cases c47 : i1 = 12
  · rw [if_pos c47] at h
    refine s_eqi c47 ?_
    refine e_tabIn 216 dX9_count_1 (by decide) (by decide) rfl (by decide) ?_
    refine e_aload_n 0 dX9_count_216 rfl rfl ?_
    refine s_getr dX9_count_217 fl_RX9_50 h_a0 (r_9_5 h_a0).1 ?_
    refine s_geti dX9_count_220 fl_RX9_185 (ka_1 (r_9_5 (w := 0) h_a0).2) ?_
    obtain rfl := Option.some.inj h
    exact s_ret rfl ⟨_, rfl, rfl⟩ dX9_count_223
  rw [if_neg c47] at h
  by_cases c48 : i1 = 13
  · rw [if_pos c48] at h
    refine s_eqi c48 ?_
    refine e_tabIn 224 dX9_count_1 (by decide) (by decide) rfl (by decide) ?_
    refine e_aload_n 0 dX9_count_224 rfl rfl ?_
    refine s_getr dX9_count_225 fl_RX9_12 h_a0 (r_9_0 h_a0).1 ?_
    refine s_geti dX9_count_228 fl_RX9_91 (ka_1 (r_9_0 (w := 0) h_a0).2) ?_
    obtain rfl := Option.some.inj h
    exact s_ret rfl ⟨_, rfl, rfl⟩ dX9_count_231
  rw [if_neg c48] at h
  have c25' := lv_neT (a := 0) c25 rfl
  have c26' := lv_neT (a := 1) c26 rfl
  have c27' := lv_neT (a := 2) c27 rfl
  have c28' := lv_neT (a := 3) c28 rfl
  have c29' := lv_neT (a := 4) c29 rfl
  have c30' := lv_neT (a := 5) c30 rfl
  have c31' := lv_neT (a := 6) c31 rfl
  have c32' := lv_neT (a := 7) c32 rfl
  have c37' := lv_neT (a := 8) c37 rfl
  have c41' := lv_neT (a := 9) c41 rfl
  have c45' := lv_neT (a := 10) c45 rfl
  have c46' := lv_neT (a := 11) c46 rfl
  have c47' := lv_neT (a := 12) c47 rfl
  have c48' := lv_neT (a := 13) c48 rfl
  refine e_tabOut 232 dX9_count_1 (by omega) (by decide) ?_
  refine e_iconst (v := (-1 : Int32)) dX9_count_232 (by decide) ?_
  obtain rfl := Option.some.inj h
  exact s_ret rfl ⟨_, rfl, rfl⟩ dX9_count_233
