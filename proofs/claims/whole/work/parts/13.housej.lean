abbrev yy_X9_image : mm_Y := (yX9_image, cX9_image, 2, (some .int))
theorem dX9_image_0 : decode cX9_image 0 = .ok (.iload_n 1, 1) := by decide +kernel
theorem dX9_image_1 : decode cX9_image 1 = .ok (.ifCond .lt 8, 3) := by decide +kernel
theorem dX9_image_4 : decode cX9_image 4 = .ok (.iload_n 1, 1) := by decide +kernel
theorem dX9_image_5 : decode cX9_image 5 = .ok (.iconst 4, 1) := by decide +kernel
theorem dX9_image_6 : decode cX9_image 6 = .ok (.if_icmp .lt 5, 3) := by decide +kernel
theorem dX9_image_9 : decode cX9_image 9 = .ok (.iconst (-1), 1) := by decide +kernel
theorem dX9_image_10 : decode cX9_image 10 = .ok (.ireturn, 1) := by decide +kernel
theorem dX9_image_11 : decode cX9_image 11 = .ok (.aload_n 0, 1) := by decide +kernel
theorem dX9_image_12 : decode cX9_image 12 = .ok (.getfield 54, 3) := by decide +kernel
theorem dX9_image_15 : decode cX9_image 15 = .ok (.iload_n 1, 1) := by decide +kernel
theorem dX9_image_16 : decode cX9_image 16 = .ok (.aaload, 1) := by decide +kernel
theorem dX9_image_17 : decode cX9_image 17 = .ok (.aload_n 0, 1) := by decide +kernel
theorem dX9_image_18 : decode cX9_image 18 = .ok (.getfield 50, 3) := by decide +kernel
theorem dX9_image_21 : decode cX9_image 21 = .ok (.invokevirtual 289, 3) := by decide +kernel
theorem dX9_image_24 : decode cX9_image 24 = .ok (.aload_n 0, 1) := by decide +kernel
theorem dX9_image_25 : decode cX9_image 25 = .ok (.getfield 58, 3) := by decide +kernel
theorem dX9_image_28 : decode cX9_image 28 = .ok (.iload_n 1, 1) := by decide +kernel
theorem dX9_image_29 : decode cX9_image 29 = .ok (.iconst 1, 1) := by decide +kernel
theorem dX9_image_30 : decode cX9_image 30 = .ok (.bastore, 1) := by decide +kernel
theorem dX9_image_31 : decode cX9_image 31 = .ok (.aload_n 0, 1) := by decide +kernel
theorem dX9_image_32 : decode cX9_image 32 = .ok (.getfield 50, 3) := by decide +kernel
theorem dX9_image_35 : decode cX9_image 35 = .ok (.getfield 107, 3) := by decide +kernel
theorem dX9_image_38 : decode cX9_image 38 = .ok (.getfield 171, 3) := by decide +kernel
theorem dX9_image_41 : decode cX9_image 41 = .ok (.ireturn, 1) := by decide +kernel
def f_X9_image (a0 : Nat) (i1 : Int32) (σ : mm_S) : Option (Int32 × mm_S) :=
    if i1 < 0 then
      some ((-1 : Int32), σ)
    else
      if i1 < (4 : Int32) then
        gd i1 4 <|
        bv (f_X8_take (41 + 14 * i1.toNatClampNeg) 26 σ) fun σ13 =>
        gd i1 4 <|
        lt (su_i σ13 97 i1.toNatClampNeg (vp_nar .boolean (1 : Int32))) fun σ15 =>
        some ((σ15.1 (26 + 5) 0), σ15)
      else
        some ((-1 : Int32), σ)
theorem v_X9_image {g : mm_G} (d : Nat) {a0 : Nat} {i1 : Int32} {σ : mm_S} {res : Int32 × mm_S} (h_a0 : (mm_K a0).1 = 9) (h : f_X9_image a0 i1 σ = some res) : SM g (d + 3) yy_X9_image [.ref a0, .int i1] σ (.int res.1) res.2 := by
  refine s_of (by decide) (Nat.le_of_ble_eq_true rfl) (L := [(0, .ref a0), (1, .int i1)]) rfl ?_
  unfold f_X9_image at h
  refine e_iload_n 1 dX9_image_0 rfl rfl ?_
  refine e_if_lt 9 dX9_image_1 (by decide) (fun c9 => ?_) (fun c9 => ?_)
  · rw [if_pos c9] at h
    refine e_iconst (v := (-1 : Int32)) dX9_image_9 (by decide) ?_
    obtain rfl := Option.some.inj h
    exact s_ret rfl ⟨_, rfl, rfl⟩ dX9_image_10
  · rw [if_neg c9] at h
    refine e_iload_n 1 dX9_image_4 rfl rfl ?_
    refine e_iconst (v := (4 : Int32)) dX9_image_5 (by decide) ?_
    refine e_icmp_lt 11 dX9_image_6 (by decide) (fun c10 => ?_) (fun c10 => ?_)
    · rw [if_pos c10] at h
      refine e_aload_n 0 dX9_image_11 rfl rfl ?_
      refine s_getr dX9_image_12 fl_RX9_54 h_a0 (r_9_6 h_a0).1 ?_
      refine e_iload_n 1 dX9_image_15 rfl rfl ?_
      obtain ⟨q11, h⟩ := gd_some h
      refine s_aald17 dX9_image_16 (ka_1 (r_9_6 (w := 0) h_a0).2) q11 ?_
      refine e_aload_n 0 dX9_image_17 rfl rfl ?_
      refine s_getr dX9_image_18 fl_RX9_50 h_a0 (r_9_5 h_a0).1 ?_
      obtain ⟨σ13, q12, h⟩ := bv_some h
      refine s_callVv [.ref 26] dX9_image_21 ml_RX9_289 (r_a17 (w := 0) (ka_1 (r_9_6 (w := 0) h_a0).2) (vin_lt q11)).2.1 rfl rfl (v_X8_take (d + 0) (r_a17 (w := 0) (ka_1 (r_9_6 (w := 0) h_a0).2) (vin_lt q11)).2.1 (ka_1 (r_9_5 (w := 0) h_a0).2) q12) (Nat.le_of_ble_eq_true rfl) ?_
      refine e_aload_n 0 dX9_image_24 rfl rfl ?_
      refine s_getr dX9_image_25 fl_RX9_58 h_a0 (r_9_7 h_a0).1 ?_
      refine e_iload_n 1 dX9_image_28 rfl rfl ?_
      refine e_iconst (v := (1 : Int32)) dX9_image_29 (by decide) ?_
      obtain ⟨q14, h⟩ := gd_some h
      refine s_zast dX9_image_30 (r_9_7 (w := 0) h_a0).2 q14 ?_
      obtain ⟨σ15, q16, h⟩ := lt_some h
      refine s_nms q16 ?_
      refine e_aload_n 0 dX9_image_31 rfl rfl ?_
      refine s_getr dX9_image_32 fl_RX9_50 h_a0 (r_9_5 h_a0).1 ?_
      refine s_getr dX9_image_35 fl_RX9_107 (ka_1 (r_9_5 (w := 0) h_a0).2) (r_8_1 (ka_1 (r_9_5 (w := 0) h_a0).2)).1 ?_
      refine s_geti dX9_image_38 fl_RX9_171 (ka_1 (r_8_1 (w := 0) (ka_1 (r_9_5 (w := 0) h_a0).2)).2) ?_
      obtain rfl := Option.some.inj h
      exact s_ret rfl ⟨_, rfl, rfl⟩ dX9_image_41
    · rw [if_neg c10] at h
      refine e_iconst (v := (-1 : Int32)) dX9_image_9 (by decide) ?_
      obtain rfl := Option.some.inj h
      exact s_ret rfl ⟨_, rfl, rfl⟩ dX9_image_10
abbrev yy_X9_back : mm_Y := (yX9_back, cX9_back, 2, (some .int))
theorem dX9_back_0 : decode cX9_back 0 = .ok (.iload_n 1, 1) := by decide +kernel
theorem dX9_back_1 : decode cX9_back 1 = .ok (.ifCond .lt 17, 3) := by decide +kernel
theorem dX9_back_4 : decode cX9_back 4 = .ok (.iload_n 1, 1) := by decide +kernel
theorem dX9_back_5 : decode cX9_back 5 = .ok (.iconst 4, 1) := by decide +kernel
theorem dX9_back_6 : decode cX9_back 6 = .ok (.if_icmp .ge 12, 3) := by decide +kernel
theorem dX9_back_9 : decode cX9_back 9 = .ok (.aload_n 0, 1) := by decide +kernel
theorem dX9_back_10 : decode cX9_back 10 = .ok (.getfield 58, 3) := by decide +kernel
theorem dX9_back_13 : decode cX9_back 13 = .ok (.iload_n 1, 1) := by decide +kernel
theorem dX9_back_14 : decode cX9_back 14 = .ok (.baload, 1) := by decide +kernel
theorem dX9_back_15 : decode cX9_back 15 = .ok (.ifCond .ne 5, 3) := by decide +kernel
theorem dX9_back_18 : decode cX9_back 18 = .ok (.iconst (-1), 1) := by decide +kernel
theorem dX9_back_19 : decode cX9_back 19 = .ok (.ireturn, 1) := by decide +kernel
theorem dX9_back_20 : decode cX9_back 20 = .ok (.aload_n 0, 1) := by decide +kernel
theorem dX9_back_21 : decode cX9_back 21 = .ok (.getfield 50, 3) := by decide +kernel
theorem dX9_back_24 : decode cX9_back 24 = .ok (.aload_n 0, 1) := by decide +kernel
theorem dX9_back_25 : decode cX9_back 25 = .ok (.getfield 54, 3) := by decide +kernel
theorem dX9_back_28 : decode cX9_back 28 = .ok (.iload_n 1, 1) := by decide +kernel
theorem dX9_back_29 : decode cX9_back 29 = .ok (.aaload, 1) := by decide +kernel
theorem dX9_back_30 : decode cX9_back 30 = .ok (.invokevirtual 289, 3) := by decide +kernel
theorem dX9_back_33 : decode cX9_back 33 = .ok (.aload_n 0, 1) := by decide +kernel
theorem dX9_back_34 : decode cX9_back 34 = .ok (.getfield 65, 3) := by decide +kernel
theorem dX9_back_37 : decode cX9_back 37 = .ok (.invokevirtual 125, 3) := by decide +kernel
theorem dX9_back_40 : decode cX9_back 40 = .ok (.aload_n 0, 1) := by decide +kernel
theorem dX9_back_41 : decode cX9_back 41 = .ok (.getfield 50, 3) := by decide +kernel
theorem dX9_back_44 : decode cX9_back 44 = .ok (.getfield 107, 3) := by decide +kernel
theorem dX9_back_47 : decode cX9_back 47 = .ok (.getfield 171, 3) := by decide +kernel
theorem dX9_back_50 : decode cX9_back 50 = .ok (.ireturn, 1) := by decide +kernel
def f_X9_back (a0 : Nat) (i1 : Int32) (σ : mm_S) : Option (Int32 × mm_S) :=
    if i1 < 0 then
      some ((-1 : Int32), σ)
    else
      if (4 : Int32) ≤ i1 then
        some ((-1 : Int32), σ)
      else
        gd i1 4 <|
        if (σ.1 97 i1.toNatClampNeg) = 0 then
          some ((-1 : Int32), σ)
        else
          gd i1 4 <|
          bv (f_X8_take 26 (41 + 14 * i1.toNatClampNeg) σ) fun σ16 =>
          bv (f_X0_forget 98 σ16) fun σ18 =>
          some ((σ18.1 (26 + 5) 0), σ18)
theorem v_X9_back {g : mm_G} (d : Nat) {a0 : Nat} {i1 : Int32} {σ : mm_S} {res : Int32 × mm_S} (h_a0 : (mm_K a0).1 = 9) (h : f_X9_back a0 i1 σ = some res) : SM g (d + 3) yy_X9_back [.ref a0, .int i1] σ (.int res.1) res.2 := by
  refine s_of (by decide) (Nat.le_of_ble_eq_true rfl) (L := [(0, .ref a0), (1, .int i1)]) rfl ?_
  unfold f_X9_back at h
  refine e_iload_n 1 dX9_back_0 rfl rfl ?_
  refine e_if_lt 18 dX9_back_1 (by decide) (fun c10 => ?_) (fun c10 => ?_)
  · rw [if_pos c10] at h
    refine e_iconst (v := (-1 : Int32)) dX9_back_18 (by decide) ?_
    obtain rfl := Option.some.inj h
    exact s_ret rfl ⟨_, rfl, rfl⟩ dX9_back_19
  · rw [if_neg c10] at h
    refine e_iload_n 1 dX9_back_4 rfl rfl ?_
    refine e_iconst (v := (4 : Int32)) dX9_back_5 (by decide) ?_
    refine e_icmp_ge 18 dX9_back_6 (by decide) (fun c11 => ?_) (fun c11 => ?_)
    · rw [if_pos c11] at h
      refine e_iconst (v := (-1 : Int32)) dX9_back_18 (by decide) ?_
      obtain rfl := Option.some.inj h
      exact s_ret rfl ⟨_, rfl, rfl⟩ dX9_back_19
    · rw [if_neg c11] at h
      refine e_aload_n 0 dX9_back_9 rfl rfl ?_
      refine s_getr dX9_back_10 fl_RX9_58 h_a0 (r_9_7 h_a0).1 ?_
      refine e_iload_n 1 dX9_back_13 rfl rfl ?_
      obtain ⟨q12, h⟩ := gd_some h
      refine s_zald dX9_back_14 (r_9_7 (w := 0) h_a0).2 q12 ?_
      refine e_if_ne 20 dX9_back_15 (by decide) (fun c13 => ?_) (fun c13 => ?_)
      · rw [if_neg c13] at h
        refine e_aload_n 0 dX9_back_20 rfl rfl ?_
        refine s_getr dX9_back_21 fl_RX9_50 h_a0 (r_9_5 h_a0).1 ?_
        refine e_aload_n 0 dX9_back_24 rfl rfl ?_
        refine s_getr dX9_back_25 fl_RX9_54 h_a0 (r_9_6 h_a0).1 ?_
        refine e_iload_n 1 dX9_back_28 rfl rfl ?_
        obtain ⟨q14, h⟩ := gd_some h
        refine s_aald17 dX9_back_29 (ka_1 (r_9_6 (w := 0) h_a0).2) q14 ?_
        obtain ⟨σ16, q15, h⟩ := bv_some h
        refine s_callVv [.ref (41 + 14 * i1.toNatClampNeg)] dX9_back_30 ml_RX9_289 (ka_1 (r_9_5 (w := 0) h_a0).2) rfl rfl (v_X8_take (d + 0) (ka_1 (r_9_5 (w := 0) h_a0).2) (r_a17 (w := 0) (ka_1 (r_9_6 (w := 0) h_a0).2) (vin_lt q14)).2.1 q15) (Nat.le_of_ble_eq_true rfl) ?_
        refine e_aload_n 0 dX9_back_33 rfl rfl ?_
        refine s_getr dX9_back_34 fl_RX9_65 h_a0 (r_9_8 h_a0).1 ?_
        obtain ⟨σ18, q17, h⟩ := bv_some h
        refine s_callVv [] dX9_back_37 ml_RX9_125 (ka_1 (r_9_8 (w := 0) h_a0).2) rfl rfl (v_X0_forget (d + 2) (ka_1 (r_9_8 (w := 0) h_a0).2) q17) (Nat.le_of_ble_eq_true rfl) ?_
        refine e_aload_n 0 dX9_back_40 rfl rfl ?_
        refine s_getr dX9_back_41 fl_RX9_50 h_a0 (r_9_5 h_a0).1 ?_
        refine s_getr dX9_back_44 fl_RX9_107 (ka_1 (r_9_5 (w := 0) h_a0).2) (r_8_1 (ka_1 (r_9_5 (w := 0) h_a0).2)).1 ?_
        refine s_geti dX9_back_47 fl_RX9_171 (ka_1 (r_8_1 (w := 0) (ka_1 (r_9_5 (w := 0) h_a0).2)).2) ?_
        obtain rfl := Option.some.inj h
        exact s_ret rfl ⟨_, rfl, rfl⟩ dX9_back_50
      · rw [if_pos c13] at h
        refine e_iconst (v := (-1 : Int32)) dX9_back_18 (by decide) ?_
        obtain rfl := Option.some.inj h
        exact s_ret rfl ⟨_, rfl, rfl⟩ dX9_back_19
