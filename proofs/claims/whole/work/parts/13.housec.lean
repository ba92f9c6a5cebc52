abbrev yy_X9_call : mm_Y := (yX9_call, cX9_call, 2, (some .int))
theorem dX9_call_0 : decode cX9_call 0 = .ok (.aload_n 0, 1) := by decide +kernel
theorem dX9_call_1 : decode cX9_call 1 = .ok (.iload_n 1, 1) := by decide +kernel
theorem dX9_call_2 : decode cX9_call 2 = .ok (.invokevirtual 138, 3) := by decide +kernel
theorem dX9_call_5 : decode cX9_call 5 = .ok (.ifCond .eq 17, 3) := by decide +kernel
theorem dX9_call_8 : decode cX9_call 8 = .ok (.aload_n 0, 1) := by decide +kernel
theorem dX9_call_9 : decode cX9_call 9 = .ok (.getfield 50, 3) := by decide +kernel
theorem dX9_call_12 : decode cX9_call 12 = .ok (.getfield 107, 3) := by decide +kernel
theorem dX9_call_15 : decode cX9_call 15 = .ok (.iload_n 1, 1) := by decide +kernel
theorem dX9_call_16 : decode cX9_call 16 = .ok (.invokevirtual 148, 3) := by decide +kernel
theorem dX9_call_19 : decode cX9_call 19 = .ok (.ifCond .ne 5, 3) := by decide +kernel
theorem dX9_call_22 : decode cX9_call 22 = .ok (.iconst (-1), 1) := by decide +kernel
theorem dX9_call_23 : decode cX9_call 23 = .ok (.ireturn, 1) := by decide +kernel
theorem dX9_call_24 : decode cX9_call 24 = .ok (.aload_n 0, 1) := by decide +kernel
theorem dX9_call_25 : decode cX9_call 25 = .ok (.getfield 65, 3) := by decide +kernel
theorem dX9_call_28 : decode cX9_call 28 = .ok (.aload_n 0, 1) := by decide +kernel
theorem dX9_call_29 : decode cX9_call 29 = .ok (.getfield 50, 3) := by decide +kernel
theorem dX9_call_32 : decode cX9_call 32 = .ok (.getfield 107, 3) := by decide +kernel
theorem dX9_call_35 : decode cX9_call 35 = .ok (.invokevirtual 192, 3) := by decide +kernel
theorem dX9_call_38 : decode cX9_call 38 = .ok (.aload_n 0, 1) := by decide +kernel
theorem dX9_call_39 : decode cX9_call 39 = .ok (.getfield 50, 3) := by decide +kernel
theorem dX9_call_42 : decode cX9_call 42 = .ok (.getfield 107, 3) := by decide +kernel
theorem dX9_call_45 : decode cX9_call 45 = .ok (.dup, 1) := by decide +kernel
theorem dX9_call_46 : decode cX9_call 46 = .ok (.getfield 174, 3) := by decide +kernel
theorem dX9_call_49 : decode cX9_call 49 = .ok (.iconst 1, 1) := by decide +kernel
theorem dX9_call_50 : decode cX9_call 50 = .ok (.iload_n 1, 1) := by decide +kernel
theorem dX9_call_51 : decode cX9_call 51 = .ok (.ishl, 1) := by decide +kernel
theorem dX9_call_52 : decode cX9_call 52 = .ok (.iconst (-1), 1) := by decide +kernel
theorem dX9_call_53 : decode cX9_call 53 = .ok (.ixor, 1) := by decide +kernel
theorem dX9_call_54 : decode cX9_call 54 = .ok (.iand, 1) := by decide +kernel
theorem dX9_call_55 : decode cX9_call 55 = .ok (.putfield 174, 3) := by decide +kernel
theorem dX9_call_58 : decode cX9_call 58 = .ok (.aload_n 0, 1) := by decide +kernel
theorem dX9_call_59 : decode cX9_call 59 = .ok (.getfield 50, 3) := by decide +kernel
theorem dX9_call_62 : decode cX9_call 62 = .ok (.getfield 107, 3) := by decide +kernel
theorem dX9_call_65 : decode cX9_call 65 = .ok (.getfield 174, 3) := by decide +kernel
theorem dX9_call_68 : decode cX9_call 68 = .ok (.ireturn, 1) := by decide +kernel
def f_X9_call (a0 : Nat) (i1 : Int32) (σ : mm_S) : Option (Int32 × mm_S) :=
    bd (f_X9_isLodger a0 i1 σ) fun r15 σ14 =>
    if r15 = 0 then
      some ((-1 : Int32), σ14)
    else
      bd (f_X2_isIn (26 + 5) i1 σ14) fun r19 σ18 =>
      if r19 = 0 then
        some ((-1 : Int32), σ18)
      else
        bv (f_X0_keep 98 (26 + 5) σ18) fun σ22 =>
        lt (su_i σ22 (26 + 5) 1 ((σ22.1 (26 + 5) 1) &&& (((1 : Int32) <<< (i1 &&& 31)) ^^^ (-1 : Int32)))) fun σ23 =>
        some ((σ23.1 (26 + 5) 1), σ23)
theorem v_X9_call {g : mm_G} (d : Nat) {a0 : Nat} {i1 : Int32} {σ : mm_S} {res : Int32 × mm_S} (h_a0 : (mm_K a0).1 = 9) (h : f_X9_call a0 i1 σ = some res) : SM g (d + 3) yy_X9_call [.ref a0, .int i1] σ (.int res.1) res.2 := by
  refine s_of (by decide) (Nat.le_of_ble_eq_true rfl) (L := [(0, .ref a0), (1, .int i1)]) rfl ?_
  unfold f_X9_call at h
  refine e_aload_n 0 dX9_call_0 rfl rfl ?_
  refine e_iload_n 1 dX9_call_1 rfl rfl ?_
  obtain ⟨r15, σ14, q13, h⟩ := bd_some h
  refine s_callVi [.int i1] dX9_call_2 ml_RX9_138 h_a0 ⟨_, rfl, by decide⟩ rfl (v_X9_isLodger (d + 2) h_a0 q13) (Nat.le_of_ble_eq_true rfl) ?_
  refine e_if_eq 22 dX9_call_5 (by decide) (fun c16 => ?_) (fun c16 => ?_)
  · rw [if_pos c16] at h
    refine e_iconst (v := (-1 : Int32)) dX9_call_22 (by decide) ?_
    obtain rfl := Option.some.inj h
    exact s_ret rfl ⟨_, rfl, rfl⟩ dX9_call_23
  · rw [if_neg c16] at h
    refine e_aload_n 0 dX9_call_8 rfl rfl ?_
    refine s_getr dX9_call_9 fl_RX9_50 h_a0 (r_9_5 h_a0).1 ?_
    refine s_getr dX9_call_12 fl_RX9_107 (ka_1 (r_9_5 (w := 0) h_a0).2) (r_8_1 (ka_1 (r_9_5 (w := 0) h_a0).2)).1 ?_
    refine e_iload_n 1 dX9_call_15 rfl rfl ?_
    obtain ⟨r19, σ18, q17, h⟩ := bd_some h
    refine s_callVi [.int i1] dX9_call_16 ml_RX9_148 (ka_1 (r_8_1 (w := 0) (ka_1 (r_9_5 (w := 0) h_a0).2)).2) ⟨_, rfl, by decide⟩ rfl (v_X2_isIn (d + 2) (ka_1 (r_8_1 (w := 0) (ka_1 (r_9_5 (w := 0) h_a0).2)).2) q17) (Nat.le_of_ble_eq_true rfl) ?_
    refine e_if_ne 24 dX9_call_19 (by decide) (fun c20 => ?_) (fun c20 => ?_)
    · rw [if_neg c20] at h
      refine e_aload_n 0 dX9_call_24 rfl rfl ?_
      refine s_getr dX9_call_25 fl_RX9_65 h_a0 (r_9_8 h_a0).1 ?_
      refine e_aload_n 0 dX9_call_28 rfl rfl ?_
      refine s_getr dX9_call_29 fl_RX9_50 h_a0 (r_9_5 h_a0).1 ?_
      refine s_getr dX9_call_32 fl_RX9_107 (ka_1 (r_9_5 (w := 0) h_a0).2) (r_8_1 (ka_1 (r_9_5 (w := 0) h_a0).2)).1 ?_
      obtain ⟨σ22, q21, h⟩ := bv_some h
      refine s_callVv [.ref (26 + 5)] dX9_call_35 ml_RX9_192 (ka_1 (r_9_8 (w := 0) h_a0).2) rfl rfl (v_X0_keep (d + 0) (ka_1 (r_9_8 (w := 0) h_a0).2) (ka_1 (r_8_1 (w := 0) (ka_1 (r_9_5 (w := 0) h_a0).2)).2) q21) (Nat.le_of_ble_eq_true rfl) ?_
      refine e_aload_n 0 dX9_call_38 rfl rfl ?_
      refine s_getr dX9_call_39 fl_RX9_50 h_a0 (r_9_5 h_a0).1 ?_
      refine s_getr dX9_call_42 fl_RX9_107 (ka_1 (r_9_5 (w := 0) h_a0).2) (r_8_1 (ka_1 (r_9_5 (w := 0) h_a0).2)).1 ?_
      refine e_dup dX9_call_45 rfl ?_
      refine s_geti dX9_call_46 fl_RX9_174 (ka_1 (r_8_1 (w := 0) (ka_1 (r_9_5 (w := 0) h_a0).2)).2) ?_
      refine e_iconst (v := (1 : Int32)) dX9_call_49 (by decide) ?_
      refine e_iload_n 1 dX9_call_50 rfl rfl ?_
      refine e_ishl dX9_call_51 ?_
      refine e_iconst (v := (-1 : Int32)) dX9_call_52 (by decide) ?_
      refine e_ixor dX9_call_53 ?_
      refine e_iand dX9_call_54 ?_
      refine s_puti dX9_call_55 fl_RX9_174 (ka_1 (r_8_1 (w := 0) (ka_1 (r_9_5 (w := 0) h_a0).2)).2) rfl rfl rfl ?_
      obtain ⟨σ23, q24, h⟩ := lt_some h
      refine s_nms q24 ?_
      refine e_aload_n 0 dX9_call_58 rfl rfl ?_
      refine s_getr dX9_call_59 fl_RX9_50 h_a0 (r_9_5 h_a0).1 ?_
      refine s_getr dX9_call_62 fl_RX9_107 (ka_1 (r_9_5 (w := 0) h_a0).2) (r_8_1 (ka_1 (r_9_5 (w := 0) h_a0).2)).1 ?_
      refine s_geti dX9_call_65 fl_RX9_174 (ka_1 (r_8_1 (w := 0) (ka_1 (r_9_5 (w := 0) h_a0).2)).2) ?_
      obtain rfl := Option.some.inj h
      exact s_ret rfl ⟨_, rfl, rfl⟩ dX9_call_68
    · rw [if_pos c20] at h
      refine e_iconst (v := (-1 : Int32)) dX9_call_22 (by decide) ?_
      obtain rfl := Option.some.inj h
      exact s_ret rfl ⟨_, rfl, rfl⟩ dX9_call_23
abbrev yy_X9_pay : mm_Y := (yX9_pay, cX9_pay, 4, (some .int))
theorem dX9_pay_0 : decode cX9_pay 0 = .ok (.aload_n 0, 1) := by decide +kernel
theorem dX9_pay_1 : decode cX9_pay 1 = .ok (.iload_n 1, 1) := by decide +kernel
theorem dX9_pay_2 : decode cX9_pay 2 = .ok (.iload_n 2, 1) := by decide +kernel
theorem dX9_pay_3 : decode cX9_pay 3 = .ok (.invokevirtual 157, 3) := by decide +kernel
theorem dX9_pay_6 : decode cX9_pay 6 = .ok (.ifCond .eq 30, 3) := by decide +kernel
theorem dX9_pay_9 : decode cX9_pay 9 = .ok (.iload_n 3, 1) := by decide +kernel
theorem dX9_pay_10 : decode cX9_pay 10 = .ok (.iconst 1, 1) := by decide +kernel
theorem dX9_pay_11 : decode cX9_pay 11 = .ok (.if_icmp .lt 25, 3) := by decide +kernel
theorem dX9_pay_14 : decode cX9_pay 14 = .ok (.iload_n 3, 1) := by decide +kernel
theorem dX9_pay_15 : decode cX9_pay 15 = .ok (.bipush 99, 2) := by decide +kernel
theorem dX9_pay_17 : decode cX9_pay 17 = .ok (.if_icmp .gt 19, 3) := by decide +kernel
theorem dX9_pay_20 : decode cX9_pay 20 = .ok (.iload_n 3, 1) := by decide +kernel
theorem dX9_pay_21 : decode cX9_pay 21 = .ok (.aload_n 0, 1) := by decide +kernel
theorem dX9_pay_22 : decode cX9_pay 22 = .ok (.getfield 50, 3) := by decide +kernel
theorem dX9_pay_25 : decode cX9_pay 25 = .ok (.getfield 107, 3) := by decide +kernel
theorem dX9_pay_28 : decode cX9_pay 28 = .ok (.getfield 145, 3) := by decide +kernel
theorem dX9_pay_31 : decode cX9_pay 31 = .ok (.iload_n 1, 1) := by decide +kernel
theorem dX9_pay_32 : decode cX9_pay 32 = .ok (.iaload, 1) := by decide +kernel
theorem dX9_pay_33 : decode cX9_pay 33 = .ok (.if_icmp .le 5, 3) := by decide +kernel
theorem dX9_pay_36 : decode cX9_pay 36 = .ok (.iconst (-1), 1) := by decide +kernel
theorem dX9_pay_37 : decode cX9_pay 37 = .ok (.ireturn, 1) := by decide +kernel
theorem dX9_pay_38 : decode cX9_pay 38 = .ok (.aload_n 0, 1) := by decide +kernel
theorem dX9_pay_39 : decode cX9_pay 39 = .ok (.getfield 65, 3) := by decide +kernel
theorem dX9_pay_42 : decode cX9_pay 42 = .ok (.aload_n 0, 1) := by decide +kernel
theorem dX9_pay_43 : decode cX9_pay 43 = .ok (.getfield 50, 3) := by decide +kernel
theorem dX9_pay_46 : decode cX9_pay 46 = .ok (.getfield 107, 3) := by decide +kernel
theorem dX9_pay_49 : decode cX9_pay 49 = .ok (.invokevirtual 192, 3) := by decide +kernel
theorem dX9_pay_52 : decode cX9_pay 52 = .ok (.aload_n 0, 1) := by decide +kernel
theorem dX9_pay_53 : decode cX9_pay 53 = .ok (.getfield 50, 3) := by decide +kernel
theorem dX9_pay_56 : decode cX9_pay 56 = .ok (.getfield 107, 3) := by decide +kernel
theorem dX9_pay_59 : decode cX9_pay 59 = .ok (.iload_n 1, 1) := by decide +kernel
theorem dX9_pay_60 : decode cX9_pay 60 = .ok (.iload_n 2, 1) := by decide +kernel
theorem dX9_pay_61 : decode cX9_pay 61 = .ok (.iload_n 3, 1) := by decide +kernel
theorem dX9_pay_62 : decode cX9_pay 62 = .ok (.invokevirtual 205, 3) := by decide +kernel
theorem dX9_pay_65 : decode cX9_pay 65 = .ok (.aload_n 0, 1) := by decide +kernel
theorem dX9_pay_66 : decode cX9_pay 66 = .ok (.getfield 50, 3) := by decide +kernel
theorem dX9_pay_69 : decode cX9_pay 69 = .ok (.getfield 107, 3) := by decide +kernel
theorem dX9_pay_72 : decode cX9_pay 72 = .ok (.getfield 145, 3) := by decide +kernel
theorem dX9_pay_75 : decode cX9_pay 75 = .ok (.iload_n 1, 1) := by decide +kernel
theorem dX9_pay_76 : decode cX9_pay 76 = .ok (.iaload, 1) := by decide +kernel
theorem dX9_pay_77 : decode cX9_pay 77 = .ok (.ireturn, 1) := by decide +kernel
def f_X9_pay (a0 : Nat) (i1 : Int32) (i2 : Int32) (i3 : Int32) (σ : mm_S) : Option (Int32 × mm_S) :=
    bd (f_X9_areUnlike a0 i1 i2 σ) fun r16 σ15 =>
    if r16 = 0 then
      some ((-1 : Int32), σ15)
    else
      if i3 < (1 : Int32) then
        some ((-1 : Int32), σ15)
      else
        if (99 : Int32) < i3 then
          some ((-1 : Int32), σ15)
        else
          gd i1 6 <|
          if i3 ≤ (σ15.1 ((26 + 5) + 2) i1.toNatClampNeg) then
            bv (f_X0_keep 98 (26 + 5) σ15) fun σ23 =>
            bv (f_X2_give (26 + 5) i1 i2 i3 σ23) fun σ25 =>
            gd i1 6 <|
            some ((σ25.1 ((26 + 5) + 2) i1.toNatClampNeg), σ25)
          else
            some ((-1 : Int32), σ15)
theorem v_X9_pay {g : mm_G} (d : Nat) {a0 : Nat} {i1 : Int32} {i2 : Int32} {i3 : Int32} {σ : mm_S} {res : Int32 × mm_S} (h_a0 : (mm_K a0).1 = 9) (h : f_X9_pay a0 i1 i2 i3 σ = some res) : SM g (d + 3) yy_X9_pay [.ref a0, .int i1, .int i2, .int i3] σ (.int res.1) res.2 := by
  refine s_of (by decide) (Nat.le_of_ble_eq_true rfl) (L := [(0, .ref a0), (1, .int i1), (2, .int i2), (3, .int i3)]) rfl ?_
  unfold f_X9_pay at h
  refine e_aload_n 0 dX9_pay_0 rfl rfl ?_
  refine e_iload_n 1 dX9_pay_1 rfl rfl ?_
  refine e_iload_n 2 dX9_pay_2 rfl rfl ?_
  obtain ⟨r16, σ15, q14, h⟩ := bd_some h
  refine s_callVi [.int i1, .int i2] dX9_pay_3 ml_RX9_157 h_a0 ⟨_, rfl, by decide⟩ rfl (v_X9_areUnlike (d + 1) h_a0 q14) (Nat.le_of_ble_eq_true rfl) ?_
  refine e_if_eq 36 dX9_pay_6 (by decide) (fun c17 => ?_) (fun c17 => ?_)
  · rw [if_pos c17] at h
    refine e_iconst (v := (-1 : Int32)) dX9_pay_36 (by decide) ?_
    obtain rfl := Option.some.inj h
    exact s_ret rfl ⟨_, rfl, rfl⟩ dX9_pay_37
  · rw [if_neg c17] at h
    refine e_iload_n 3 dX9_pay_9 rfl rfl ?_
    refine e_iconst (v := (1 : Int32)) dX9_pay_10 (by decide) ?_
    refine e_icmp_lt 36 dX9_pay_11 (by decide) (fun c18 => ?_) (fun c18 => ?_)
    · rw [if_pos c18] at h
      refine e_iconst (v := (-1 : Int32)) dX9_pay_36 (by decide) ?_
      obtain rfl := Option.some.inj h
      exact s_ret rfl ⟨_, rfl, rfl⟩ dX9_pay_37
    · rw [if_neg c18] at h
      refine e_iload_n 3 dX9_pay_14 rfl rfl ?_
      refine e_bipush (v := (99 : Int32)) dX9_pay_15 (by decide) ?_
      refine e_icmp_gt 36 dX9_pay_17 (by decide) (fun c19 => ?_) (fun c19 => ?_)
      · rw [if_pos c19] at h
        refine e_iconst (v := (-1 : Int32)) dX9_pay_36 (by decide) ?_
        obtain rfl := Option.some.inj h
        exact s_ret rfl ⟨_, rfl, rfl⟩ dX9_pay_37
      · rw [if_neg c19] at h
        refine e_iload_n 3 dX9_pay_20 rfl rfl ?_
        refine e_aload_n 0 dX9_pay_21 rfl rfl ?_
        refine s_getr dX9_pay_22 fl_RX9_50 h_a0 (r_9_5 h_a0).1 ?_
        refine s_getr dX9_pay_25 fl_RX9_107 (ka_1 (r_9_5 (w := 0) h_a0).2) (r_8_1 (ka_1 (r_9_5 (w := 0) h_a0).2)).1 ?_
        refine s_getr dX9_pay_28 fl_RX9_145 (ka_1 (r_8_1 (w := 0) (ka_1 (r_9_5 (w := 0) h_a0).2)).2) (r_2_3 (ka_1 (r_8_1 (w := 0) (ka_1 (r_9_5 (w := 0) h_a0).2)).2)).1 ?_
        refine e_iload_n 1 dX9_pay_31 rfl rfl ?_
        obtain ⟨q20, h⟩ := gd_some h
        refine s_iald dX9_pay_32 (r_2_3 (w := 0) (ka_1 (r_8_1 (w := 0) (ka_1 (r_9_5 (w := 0) h_a0).2)).2)).2 q20 ?_
        refine e_icmp_le 38 dX9_pay_33 (by decide) (fun c21 => ?_) (fun c21 => ?_)
        · rw [if_pos c21] at h
          refine e_aload_n 0 dX9_pay_38 rfl rfl ?_
          refine s_getr dX9_pay_39 fl_RX9_65 h_a0 (r_9_8 h_a0).1 ?_
          refine e_aload_n 0 dX9_pay_42 rfl rfl ?_
          refine s_getr dX9_pay_43 fl_RX9_50 h_a0 (r_9_5 h_a0).1 ?_
          refine s_getr dX9_pay_46 fl_RX9_107 (ka_1 (r_9_5 (w := 0) h_a0).2) (r_8_1 (ka_1 (r_9_5 (w := 0) h_a0).2)).1 ?_
          obtain ⟨σ23, q22, h⟩ := bv_some h
          refine s_callVv [.ref (26 + 5)] dX9_pay_49 ml_RX9_192 (ka_1 (r_9_8 (w := 0) h_a0).2) rfl rfl (v_X0_keep (d + 0) (ka_1 (r_9_8 (w := 0) h_a0).2) (ka_1 (r_8_1 (w := 0) (ka_1 (r_9_5 (w := 0) h_a0).2)).2) q22) (Nat.le_of_ble_eq_true rfl) ?_
          refine e_aload_n 0 dX9_pay_52 rfl rfl ?_
          refine s_getr dX9_pay_53 fl_RX9_50 h_a0 (r_9_5 h_a0).1 ?_
          refine s_getr dX9_pay_56 fl_RX9_107 (ka_1 (r_9_5 (w := 0) h_a0).2) (r_8_1 (ka_1 (r_9_5 (w := 0) h_a0).2)).1 ?_
          refine e_iload_n 1 dX9_pay_59 rfl rfl ?_
          refine e_iload_n 2 dX9_pay_60 rfl rfl ?_
          refine e_iload_n 3 dX9_pay_61 rfl rfl ?_
          obtain ⟨σ25, q24, h⟩ := bv_some h
          refine s_callVv [.int i1, .int i2, .int i3] dX9_pay_62 ml_RX9_205 (ka_1 (r_8_1 (w := 0) (ka_1 (r_9_5 (w := 0) h_a0).2)).2) rfl rfl (v_X2_give (d + 1) (ka_1 (r_8_1 (w := 0) (ka_1 (r_9_5 (w := 0) h_a0).2)).2) q24) (Nat.le_of_ble_eq_true rfl) ?_
          refine e_aload_n 0 dX9_pay_65 rfl rfl ?_
          refine s_getr dX9_pay_66 fl_RX9_50 h_a0 (r_9_5 h_a0).1 ?_
          refine s_getr dX9_pay_69 fl_RX9_107 (ka_1 (r_9_5 (w := 0) h_a0).2) (r_8_1 (ka_1 (r_9_5 (w := 0) h_a0).2)).1 ?_
          refine s_getr dX9_pay_72 fl_RX9_145 (ka_1 (r_8_1 (w := 0) (ka_1 (r_9_5 (w := 0) h_a0).2)).2) (r_2_3 (ka_1 (r_8_1 (w := 0) (ka_1 (r_9_5 (w := 0) h_a0).2)).2)).1 ?_
          refine e_iload_n 1 dX9_pay_75 rfl rfl ?_
          obtain ⟨q26, h⟩ := gd_some h
          refine s_iald dX9_pay_76 (r_2_3 (w := 0) (ka_1 (r_8_1 (w := 0) (ka_1 (r_9_5 (w := 0) h_a0).2)).2)).2 q26 ?_
          obtain rfl := Option.some.inj h
          exact s_ret rfl ⟨_, rfl, rfl⟩ dX9_pay_77
        · rw [if_neg c21] at h
          refine e_iconst (v := (-1 : Int32)) dX9_pay_36 (by decide) ?_
          obtain rfl := Option.some.inj h
          exact s_ret rfl ⟨_, rfl, rfl⟩ dX9_pay_37
abbrev yy_X9_tire : mm_Y := (yX9_tire, cX9_tire, 3, (some .int))
theorem dX9_tire_0 : decode cX9_tire 0 = .ok (.aload_n 0, 1) := by decide +kernel
theorem dX9_tire_1 : decode cX9_tire 1 = .ok (.iload_n 1, 1) := by decide +kernel
theorem dX9_tire_2 : decode cX9_tire 2 = .ok (.invokevirtual 138, 3) := by decide +kernel
theorem dX9_tire_5 : decode cX9_tire 5 = .ok (.ifCond .eq 14, 3) := by decide +kernel
theorem dX9_tire_8 : decode cX9_tire 8 = .ok (.iload_n 2, 1) := by decide +kernel
theorem dX9_tire_9 : decode cX9_tire 9 = .ok (.iconst 1, 1) := by decide +kernel
theorem dX9_tire_10 : decode cX9_tire 10 = .ok (.if_icmp .lt 9, 3) := by decide +kernel
theorem dX9_tire_13 : decode cX9_tire 13 = .ok (.iload_n 2, 1) := by decide +kernel
theorem dX9_tire_14 : decode cX9_tire 14 = .ok (.bipush 20, 2) := by decide +kernel
theorem dX9_tire_16 : decode cX9_tire 16 = .ok (.if_icmp .le 5, 3) := by decide +kernel
theorem dX9_tire_19 : decode cX9_tire 19 = .ok (.iconst (-1), 1) := by decide +kernel
theorem dX9_tire_20 : decode cX9_tire 20 = .ok (.ireturn, 1) := by decide +kernel
theorem dX9_tire_21 : decode cX9_tire 21 = .ok (.aload_n 0, 1) := by decide +kernel
theorem dX9_tire_22 : decode cX9_tire 22 = .ok (.getfield 65, 3) := by decide +kernel
theorem dX9_tire_25 : decode cX9_tire 25 = .ok (.aload_n 0, 1) := by decide +kernel
theorem dX9_tire_26 : decode cX9_tire 26 = .ok (.getfield 50, 3) := by decide +kernel
theorem dX9_tire_29 : decode cX9_tire 29 = .ok (.getfield 107, 3) := by decide +kernel
theorem dX9_tire_32 : decode cX9_tire 32 = .ok (.invokevirtual 192, 3) := by decide +kernel
theorem dX9_tire_35 : decode cX9_tire 35 = .ok (.aload_n 0, 1) := by decide +kernel
theorem dX9_tire_36 : decode cX9_tire 36 = .ok (.getfield 50, 3) := by decide +kernel
theorem dX9_tire_39 : decode cX9_tire 39 = .ok (.getfield 107, 3) := by decide +kernel
theorem dX9_tire_42 : decode cX9_tire 42 = .ok (.iload_n 1, 1) := by decide +kernel
theorem dX9_tire_43 : decode cX9_tire 43 = .ok (.iload_n 2, 1) := by decide +kernel
theorem dX9_tire_44 : decode cX9_tire 44 = .ok (.invokevirtual 209, 3) := by decide +kernel
theorem dX9_tire_47 : decode cX9_tire 47 = .ok (.aload_n 0, 1) := by decide +kernel
theorem dX9_tire_48 : decode cX9_tire 48 = .ok (.getfield 50, 3) := by decide +kernel
theorem dX9_tire_51 : decode cX9_tire 51 = .ok (.getfield 107, 3) := by decide +kernel
theorem dX9_tire_54 : decode cX9_tire 54 = .ok (.getfield 142, 3) := by decide +kernel
theorem dX9_tire_57 : decode cX9_tire 57 = .ok (.iload_n 1, 1) := by decide +kernel
theorem dX9_tire_58 : decode cX9_tire 58 = .ok (.iaload, 1) := by decide +kernel
theorem dX9_tire_59 : decode cX9_tire 59 = .ok (.ireturn, 1) := by decide +kernel
def f_X9_tire (a0 : Nat) (i1 : Int32) (i2 : Int32) (σ : mm_S) : Option (Int32 × mm_S) :=
    bd (f_X9_isLodger a0 i1 σ) fun r14 σ13 =>
    if r14 = 0 then
      some ((-1 : Int32), σ13)
    else
      if i2 < (1 : Int32) then
        some ((-1 : Int32), σ13)
      else
        if i2 ≤ (20 : Int32) then
          bv (f_X0_keep 98 (26 + 5) σ13) fun σ19 =>
          bv (f_X2_tireBy (26 + 5) i1 i2 σ19) fun σ21 =>
          gd i1 6 <|
          some ((σ21.1 ((26 + 5) + 1) i1.toNatClampNeg), σ21)
        else
          some ((-1 : Int32), σ13)
theorem v_X9_tire {g : mm_G} (d : Nat) {a0 : Nat} {i1 : Int32} {i2 : Int32} {σ : mm_S} {res : Int32 × mm_S} (h_a0 : (mm_K a0).1 = 9) (h : f_X9_tire a0 i1 i2 σ = some res) : SM g (d + 3) yy_X9_tire [.ref a0, .int i1, .int i2] σ (.int res.1) res.2 := by
  refine s_of (by decide) (Nat.le_of_ble_eq_true rfl) (L := [(0, .ref a0), (1, .int i1), (2, .int i2)]) rfl ?_
  unfold f_X9_tire at h
  refine e_aload_n 0 dX9_tire_0 rfl rfl ?_
  refine e_iload_n 1 dX9_tire_1 rfl rfl ?_
  obtain ⟨r14, σ13, q12, h⟩ := bd_some h
  refine s_callVi [.int i1] dX9_tire_2 ml_RX9_138 h_a0 ⟨_, rfl, by decide⟩ rfl (v_X9_isLodger (d + 2) h_a0 q12) (Nat.le_of_ble_eq_true rfl) ?_
  refine e_if_eq 19 dX9_tire_5 (by decide) (fun c15 => ?_) (fun c15 => ?_)
  · rw [if_pos c15] at h
    refine e_iconst (v := (-1 : Int32)) dX9_tire_19 (by decide) ?_
    obtain rfl := Option.some.inj h
    exact s_ret rfl ⟨_, rfl, rfl⟩ dX9_tire_20
  · rw [if_neg c15] at h
    refine e_iload_n 2 dX9_tire_8 rfl rfl ?_
    refine e_iconst (v := (1 : Int32)) dX9_tire_9 (by decide) ?_
    refine e_icmp_lt 19 dX9_tire_10 (by decide) (fun c16 => ?_) (fun c16 => ?_)
    · rw [if_pos c16] at h
      refine e_iconst (v := (-1 : Int32)) dX9_tire_19 (by decide) ?_
      obtain rfl := Option.some.inj h
      exact s_ret rfl ⟨_, rfl, rfl⟩ dX9_tire_20
    · rw [if_neg c16] at h
      refine e_iload_n 2 dX9_tire_13 rfl rfl ?_
      refine e_bipush (v := (20 : Int32)) dX9_tire_14 (by decide) ?_
      refine e_icmp_le 21 dX9_tire_16 (by decide) (fun c17 => ?_) (fun c17 => ?_)
      · rw [if_pos c17] at h
        refine e_aload_n 0 dX9_tire_21 rfl rfl ?_
        refine s_getr dX9_tire_22 fl_RX9_65 h_a0 (r_9_8 h_a0).1 ?_
        refine e_aload_n 0 dX9_tire_25 rfl rfl ?_
        refine s_getr dX9_tire_26 fl_RX9_50 h_a0 (r_9_5 h_a0).1 ?_
        refine s_getr dX9_tire_29 fl_RX9_107 (ka_1 (r_9_5 (w := 0) h_a0).2) (r_8_1 (ka_1 (r_9_5 (w := 0) h_a0).2)).1 ?_
        obtain ⟨σ19, q18, h⟩ := bv_some h
        refine s_callVv [.ref (26 + 5)] dX9_tire_32 ml_RX9_192 (ka_1 (r_9_8 (w := 0) h_a0).2) rfl rfl (v_X0_keep (d + 0) (ka_1 (r_9_8 (w := 0) h_a0).2) (ka_1 (r_8_1 (w := 0) (ka_1 (r_9_5 (w := 0) h_a0).2)).2) q18) (Nat.le_of_ble_eq_true rfl) ?_
        refine e_aload_n 0 dX9_tire_35 rfl rfl ?_
        refine s_getr dX9_tire_36 fl_RX9_50 h_a0 (r_9_5 h_a0).1 ?_
        refine s_getr dX9_tire_39 fl_RX9_107 (ka_1 (r_9_5 (w := 0) h_a0).2) (r_8_1 (ka_1 (r_9_5 (w := 0) h_a0).2)).1 ?_
        refine e_iload_n 1 dX9_tire_42 rfl rfl ?_
        refine e_iload_n 2 dX9_tire_43 rfl rfl ?_
        obtain ⟨σ21, q20, h⟩ := bv_some h
        refine s_callVv [.int i1, .int i2] dX9_tire_44 ml_RX9_209 (ka_1 (r_8_1 (w := 0) (ka_1 (r_9_5 (w := 0) h_a0).2)).2) rfl rfl (v_X2_tireBy (d + 1) (ka_1 (r_8_1 (w := 0) (ka_1 (r_9_5 (w := 0) h_a0).2)).2) q20) (Nat.le_of_ble_eq_true rfl) ?_
        refine e_aload_n 0 dX9_tire_47 rfl rfl ?_
        refine s_getr dX9_tire_48 fl_RX9_50 h_a0 (r_9_5 h_a0).1 ?_
        refine s_getr dX9_tire_51 fl_RX9_107 (ka_1 (r_9_5 (w := 0) h_a0).2) (r_8_1 (ka_1 (r_9_5 (w := 0) h_a0).2)).1 ?_
        refine s_getr dX9_tire_54 fl_RX9_142 (ka_1 (r_8_1 (w := 0) (ka_1 (r_9_5 (w := 0) h_a0).2)).2) (r_2_2 (ka_1 (r_8_1 (w := 0) (ka_1 (r_9_5 (w := 0) h_a0).2)).2)).1 ?_
        refine e_iload_n 1 dX9_tire_57 rfl rfl ?_
        obtain ⟨q22, h⟩ := gd_some h
        refine s_iald dX9_tire_58 (r_2_2 (w := 0) (ka_1 (r_8_1 (w := 0) (ka_1 (r_9_5 (w := 0) h_a0).2)).2)).2 q22 ?_
        obtain rfl := Option.some.inj h
        exact s_ret rfl ⟨_, rfl, rfl⟩ dX9_tire_59
      · rw [if_neg c17] at h
        refine e_iconst (v := (-1 : Int32)) dX9_tire_19 (by decide) ?_
        obtain rfl := Option.some.inj h
        exact s_ret rfl ⟨_, rfl, rfl⟩ dX9_tire_20
abbrev yy_X9_undo : mm_Y := (yX9_undo, cX9_undo, 1, (some .int))
theorem dX9_undo_0 : decode cX9_undo 0 = .ok (.aload_n 0, 1) := by decide +kernel
theorem dX9_undo_1 : decode cX9_undo 1 = .ok (.getfield 65, 3) := by decide +kernel
theorem dX9_undo_4 : decode cX9_undo 4 = .ok (.getfield 184, 3) := by decide +kernel
theorem dX9_undo_7 : decode cX9_undo 7 = .ok (.ifCond .gt 5, 3) := by decide +kernel
theorem dX9_undo_10 : decode cX9_undo 10 = .ok (.iconst (-1), 1) := by decide +kernel
theorem dX9_undo_11 : decode cX9_undo 11 = .ok (.ireturn, 1) := by decide +kernel
theorem dX9_undo_12 : decode cX9_undo 12 = .ok (.aload_n 0, 1) := by decide +kernel
theorem dX9_undo_13 : decode cX9_undo 13 = .ok (.getfield 65, 3) := by decide +kernel
theorem dX9_undo_16 : decode cX9_undo 16 = .ok (.aload_n 0, 1) := by decide +kernel
theorem dX9_undo_17 : decode cX9_undo 17 = .ok (.getfield 50, 3) := by decide +kernel
theorem dX9_undo_20 : decode cX9_undo 20 = .ok (.getfield 107, 3) := by decide +kernel
theorem dX9_undo_23 : decode cX9_undo 23 = .ok (.invokevirtual 213, 3) := by decide +kernel
theorem dX9_undo_26 : decode cX9_undo 26 = .ok (.aload_n 0, 1) := by decide +kernel
theorem dX9_undo_27 : decode cX9_undo 27 = .ok (.getfield 65, 3) := by decide +kernel
theorem dX9_undo_30 : decode cX9_undo 30 = .ok (.getfield 184, 3) := by decide +kernel
theorem dX9_undo_33 : decode cX9_undo 33 = .ok (.ireturn, 1) := by decide +kernel
def f_X9_undo (a0 : Nat) (σ : mm_S) : Option (Int32 × mm_S) :=
    if 0 < (σ.1 98 2) then
      bv (f_X0_putBack 98 (26 + 5) σ) fun σ6 =>
      some ((σ6.1 98 2), σ6)
    else
      some ((-1 : Int32), σ)
theorem v_X9_undo {g : mm_G} (d : Nat) {a0 : Nat} {σ : mm_S} {res : Int32 × mm_S} (h_a0 : (mm_K a0).1 = 9) (h : f_X9_undo a0 σ = some res) : SM g (d + 3) yy_X9_undo [.ref a0] σ (.int res.1) res.2 := by
  refine s_of (by decide) (Nat.le_of_ble_eq_true rfl) (L := [(0, .ref a0)]) rfl ?_
  unfold f_X9_undo at h
  refine e_aload_n 0 dX9_undo_0 rfl rfl ?_
  refine s_getr dX9_undo_1 fl_RX9_65 h_a0 (r_9_8 h_a0).1 ?_
  refine s_geti dX9_undo_4 fl_RX9_184 (ka_1 (r_9_8 (w := 0) h_a0).2) ?_
  refine e_if_gt 12 dX9_undo_7 (by decide) (fun c4 => ?_) (fun c4 => ?_)
  · rw [if_pos c4] at h
    refine e_aload_n 0 dX9_undo_12 rfl rfl ?_
    refine s_getr dX9_undo_13 fl_RX9_65 h_a0 (r_9_8 h_a0).1 ?_
    refine e_aload_n 0 dX9_undo_16 rfl rfl ?_
    refine s_getr dX9_undo_17 fl_RX9_50 h_a0 (r_9_5 h_a0).1 ?_
    refine s_getr dX9_undo_20 fl_RX9_107 (ka_1 (r_9_5 (w := 0) h_a0).2) (r_8_1 (ka_1 (r_9_5 (w := 0) h_a0).2)).1 ?_
    obtain ⟨σ6, q5, h⟩ := bv_some h
    refine s_callVv [.ref (26 + 5)] dX9_undo_23 ml_RX9_213 (ka_1 (r_9_8 (w := 0) h_a0).2) rfl rfl (v_X0_putBack (d + 0) (ka_1 (r_9_8 (w := 0) h_a0).2) (ka_1 (r_8_1 (w := 0) (ka_1 (r_9_5 (w := 0) h_a0).2)).2) q5) (Nat.le_of_ble_eq_true rfl) ?_
    refine e_aload_n 0 dX9_undo_26 rfl rfl ?_
    refine s_getr dX9_undo_27 fl_RX9_65 h_a0 (r_9_8 h_a0).1 ?_
    refine s_geti dX9_undo_30 fl_RX9_184 (ka_1 (r_9_8 (w := 0) h_a0).2) ?_
    obtain rfl := Option.some.inj h
    exact s_ret rfl ⟨_, rfl, rfl⟩ dX9_undo_33
  · rw [if_neg c4] at h
    refine e_iconst (v := (-1 : Int32)) dX9_undo_10 (by decide) ?_
    obtain rfl := Option.some.inj h
    exact s_ret rfl ⟨_, rfl, rfl⟩ dX9_undo_11
abbrev yy_X9_ahead : mm_Y := (yX9_ahead, cX9_ahead, 4, (some .int))
theorem dX9_ahead_0 : decode cX9_ahead 0 = .ok (.aload_n 0, 1) := by decide +kernel
theorem dX9_ahead_1 : decode cX9_ahead 1 = .ok (.iload_n 1, 1) := by decide +kernel
theorem dX9_ahead_2 : decode cX9_ahead 2 = .ok (.invokevirtual 138, 3) := by decide +kernel
theorem dX9_ahead_5 : decode cX9_ahead 5 = .ok (.ifCond .eq 22, 3) := by decide +kernel
theorem dX9_ahead_8 : decode cX9_ahead 8 = .ok (.iload_n 2, 1) := by decide +kernel
theorem dX9_ahead_9 : decode cX9_ahead 9 = .ok (.ifCond .lt 18, 3) := by decide +kernel
theorem dX9_ahead_12 : decode cX9_ahead 12 = .ok (.iload_n 2, 1) := by decide +kernel
theorem dX9_ahead_13 : decode cX9_ahead 13 = .ok (.bipush 100, 2) := by decide +kernel
theorem dX9_ahead_15 : decode cX9_ahead 15 = .ok (.if_icmp .gt 12, 3) := by decide +kernel
theorem dX9_ahead_18 : decode cX9_ahead 18 = .ok (.iload_n 3, 1) := by decide +kernel
theorem dX9_ahead_19 : decode cX9_ahead 19 = .ok (.ifCond .lt 8, 3) := by decide +kernel
theorem dX9_ahead_22 : decode cX9_ahead 22 = .ok (.iload_n 3, 1) := by decide +kernel
theorem dX9_ahead_23 : decode cX9_ahead 23 = .ok (.iconst 2, 1) := by decide +kernel
theorem dX9_ahead_24 : decode cX9_ahead 24 = .ok (.if_icmp .le 5, 3) := by decide +kernel
theorem dX9_ahead_27 : decode cX9_ahead 27 = .ok (.iconst (-1), 1) := by decide +kernel
theorem dX9_ahead_28 : decode cX9_ahead 28 = .ok (.ireturn, 1) := by decide +kernel
theorem dX9_ahead_29 : decode cX9_ahead 29 = .ok (.aload_n 0, 1) := by decide +kernel
theorem dX9_ahead_30 : decode cX9_ahead 30 = .ok (.invokevirtual 196, 3) := by decide +kernel
theorem dX9_ahead_33 : decode cX9_ahead 33 = .ok (.aload_n 0, 1) := by decide +kernel
theorem dX9_ahead_34 : decode cX9_ahead 34 = .ok (.getfield 77, 3) := by decide +kernel
theorem dX9_ahead_37 : decode cX9_ahead 37 = .ok (.iload_n 2, 1) := by decide +kernel
theorem dX9_ahead_38 : decode cX9_ahead 38 = .ok (.invokevirtual 199, 3) := by decide +kernel
theorem dX9_ahead_41 : decode cX9_ahead 41 = .ok (.iload_n 3, 1) := by decide +kernel
theorem dX9_ahead_42 : decode cX9_ahead 42 = .ok (.ifCond .ne 16, 3) := by decide +kernel
theorem dX9_ahead_45 : decode cX9_ahead 45 = .ok (.aload_n 0, 1) := by decide +kernel
theorem dX9_ahead_46 : decode cX9_ahead 46 = .ok (.getfield 77, 3) := by decide +kernel
theorem dX9_ahead_49 : decode cX9_ahead 49 = .ok (.getfield 202, 3) := by decide +kernel
theorem dX9_ahead_52 : decode cX9_ahead 52 = .ok (.getfield 142, 3) := by decide +kernel
theorem dX9_ahead_55 : decode cX9_ahead 55 = .ok (.iload_n 1, 1) := by decide +kernel
theorem dX9_ahead_56 : decode cX9_ahead 56 = .ok (.iaload, 1) := by decide +kernel
theorem dX9_ahead_57 : decode cX9_ahead 57 = .ok (.ireturn, 1) := by decide +kernel
theorem dX9_ahead_58 : decode cX9_ahead 58 = .ok (.iload_n 3, 1) := by decide +kernel
theorem dX9_ahead_59 : decode cX9_ahead 59 = .ok (.iconst 1, 1) := by decide +kernel
theorem dX9_ahead_60 : decode cX9_ahead 60 = .ok (.if_icmp .ne 18, 3) := by decide +kernel
theorem dX9_ahead_63 : decode cX9_ahead 63 = .ok (.aload_n 0, 1) := by decide +kernel
theorem dX9_ahead_64 : decode cX9_ahead 64 = .ok (.getfield 77, 3) := by decide +kernel
theorem dX9_ahead_67 : decode cX9_ahead 67 = .ok (.getfield 202, 3) := by decide +kernel
theorem dX9_ahead_70 : decode cX9_ahead 70 = .ok (.getfield 145, 3) := by decide +kernel
theorem dX9_ahead_73 : decode cX9_ahead 73 = .ok (.iload_n 1, 1) := by decide +kernel
theorem dX9_ahead_74 : decode cX9_ahead 74 = .ok (.iaload, 1) := by decide +kernel
theorem dX9_ahead_75 : decode cX9_ahead 75 = .ok (.goto 15, 3) := by decide +kernel
theorem dX9_ahead_78 : decode cX9_ahead 78 = .ok (.aload_n 0, 1) := by decide +kernel
theorem dX9_ahead_79 : decode cX9_ahead 79 = .ok (.getfield 77, 3) := by decide +kernel
theorem dX9_ahead_82 : decode cX9_ahead 82 = .ok (.getfield 202, 3) := by decide +kernel
theorem dX9_ahead_85 : decode cX9_ahead 85 = .ok (.getfield 154, 3) := by decide +kernel
theorem dX9_ahead_88 : decode cX9_ahead 88 = .ok (.iload_n 1, 1) := by decide +kernel
theorem dX9_ahead_89 : decode cX9_ahead 89 = .ok (.iaload, 1) := by decide +kernel
theorem dX9_ahead_90 : decode cX9_ahead 90 = .ok (.ireturn, 1) := by decide +kernel
def f_X9_ahead (a0 : Nat) (i1 : Int32) (i2 : Int32) (i3 : Int32) (σ : mm_S) : Option (Int32 × mm_S) :=
    bd (f_X9_isLodger a0 i1 σ) fun r20 σ19 =>
    if r20 = 0 then
      some ((-1 : Int32), σ19)
    else
      if i2 < 0 then
        some ((-1 : Int32), σ19)
      else
        if (100 : Int32) < i2 then
          some ((-1 : Int32), σ19)
        else
          if i3 < 0 then
            some ((-1 : Int32), σ19)
          else
            if i3 ≤ (2 : Int32) then
              bv (f_X9_walkFromNow a0 σ19) fun σ27 =>
              bv (f_X7_passHours 200 i2 σ27) fun σ29 =>
              if i3 = 0 then
                gd i1 6 <|
                some ((σ29.1 (201 + 1) i1.toNatClampNeg), σ29)
              else
                if i3 = (1 : Int32) then
                  gd i1 6 <|
                  some ((σ29.1 (201 + 2) i1.toNatClampNeg), σ29)
                else
                  gd i1 6 <|
                  some ((σ29.1 (201 + 4) i1.toNatClampNeg), σ29)
            else
              some ((-1 : Int32), σ19)
theorem v_X9_ahead {g : mm_G} (d : Nat) {a0 : Nat} {i1 : Int32} {i2 : Int32} {i3 : Int32} {σ : mm_S} {res : Int32 × mm_S} (h_a0 : (mm_K a0).1 = 9) (h : f_X9_ahead a0 i1 i2 i3 σ = some res) : SM g (d + 5) yy_X9_ahead [.ref a0, .int i1, .int i2, .int i3] σ (.int res.1) res.2 := by
  refine s_of (by decide) (Nat.le_of_ble_eq_true rfl) (L := [(0, .ref a0), (1, .int i1), (2, .int i2), (3, .int i3)]) rfl ?_
  unfold f_X9_ahead at h
  refine e_aload_n 0 dX9_ahead_0 rfl rfl ?_
  refine e_iload_n 1 dX9_ahead_1 rfl rfl ?_
  obtain ⟨r20, σ19, q18, h⟩ := bd_some h
  refine s_callVi [.int i1] dX9_ahead_2 ml_RX9_138 h_a0 ⟨_, rfl, by decide⟩ rfl (v_X9_isLodger (d + 4) h_a0 q18) (Nat.le_of_ble_eq_true rfl) ?_
  refine e_if_eq 27 dX9_ahead_5 (by decide) (fun c21 => ?_) (fun c21 => ?_)
  · rw [if_pos c21] at h
    refine e_iconst (v := (-1 : Int32)) dX9_ahead_27 (by decide) ?_
    obtain rfl := Option.some.inj h
    exact s_ret rfl ⟨_, rfl, rfl⟩ dX9_ahead_28
  · rw [if_neg c21] at h
    refine e_iload_n 2 dX9_ahead_8 rfl rfl ?_
    refine e_if_lt 27 dX9_ahead_9 (by decide) (fun c22 => ?_) (fun c22 => ?_)
    · rw [if_pos c22] at h
      refine e_iconst (v := (-1 : Int32)) dX9_ahead_27 (by decide) ?_
      obtain rfl := Option.some.inj h
      exact s_ret rfl ⟨_, rfl, rfl⟩ dX9_ahead_28
    · rw [if_neg c22] at h
      refine e_iload_n 2 dX9_ahead_12 rfl rfl ?_
      refine e_bipush (v := (100 : Int32)) dX9_ahead_13 (by decide) ?_
      refine e_icmp_gt 27 dX9_ahead_15 (by decide) (fun c23 => ?_) (fun c23 => ?_)
      · rw [if_pos c23] at h
        refine e_iconst (v := (-1 : Int32)) dX9_ahead_27 (by decide) ?_
        obtain rfl := Option.some.inj h
        exact s_ret rfl ⟨_, rfl, rfl⟩ dX9_ahead_28
      · rw [if_neg c23] at h
        refine e_iload_n 3 dX9_ahead_18 rfl rfl ?_
        refine e_if_lt 27 dX9_ahead_19 (by decide) (fun c24 => ?_) (fun c24 => ?_)
        · rw [if_pos c24] at h
          refine e_iconst (v := (-1 : Int32)) dX9_ahead_27 (by decide) ?_
          obtain rfl := Option.some.inj h
          exact s_ret rfl ⟨_, rfl, rfl⟩ dX9_ahead_28
        · rw [if_neg c24] at h
          refine e_iload_n 3 dX9_ahead_22 rfl rfl ?_
          refine e_iconst (v := (2 : Int32)) dX9_ahead_23 (by decide) ?_
          refine e_icmp_le 29 dX9_ahead_24 (by decide) (fun c25 => ?_) (fun c25 => ?_)
          · rw [if_pos c25] at h
            refine e_aload_n 0 dX9_ahead_29 rfl rfl ?_
            obtain ⟨σ27, q26, h⟩ := bv_some h
            refine s_callVv [] dX9_ahead_30 ml_RX9_196 h_a0 rfl rfl (v_X9_walkFromNow (d + 1) h_a0 q26) (Nat.le_of_ble_eq_true rfl) ?_
            refine e_aload_n 0 dX9_ahead_33 rfl rfl ?_
            refine s_getr dX9_ahead_34 fl_RX9_77 h_a0 (r_9_9 h_a0).1 ?_
            refine e_iload_n 2 dX9_ahead_37 rfl rfl ?_
            obtain ⟨σ29, q28, h⟩ := bv_some h
            refine s_callVv [.int i2] dX9_ahead_38 ml_RX9_199 (ka_1 (r_9_9 (w := 0) h_a0).2) rfl rfl (v_X7_passHours (d + 0) (ka_1 (r_9_9 (w := 0) h_a0).2) q28) (Nat.le_of_ble_eq_true rfl) ?_
            refine e_iload_n 3 dX9_ahead_41 rfl rfl ?_
            refine e_if_ne 58 dX9_ahead_42 (by decide) (fun c30 => ?_) (fun c30 => ?_)
            · rw [if_neg c30] at h
              refine e_iload_n 3 dX9_ahead_58 rfl rfl ?_
              refine e_iconst (v := (1 : Int32)) dX9_ahead_59 (by decide) ?_
              refine e_icmp_ne 78 dX9_ahead_60 (by decide) (fun c31 => ?_) (fun c31 => ?_)
              · rw [if_neg c31] at h
                refine e_aload_n 0 dX9_ahead_78 rfl rfl ?_
                refine s_getr dX9_ahead_79 fl_RX9_77 h_a0 (r_9_9 h_a0).1 ?_
                refine s_getr dX9_ahead_82 fl_RX9_202 (ka_1 (r_9_9 (w := 0) h_a0).2) (r_7_1 (ka_1 (r_9_9 (w := 0) h_a0).2)).1 ?_
                refine s_getr dX9_ahead_85 fl_RX9_154 (ka_1 (r_7_1 (w := 0) (ka_1 (r_9_9 (w := 0) h_a0).2)).2) (r_2_5 (ka_1 (r_7_1 (w := 0) (ka_1 (r_9_9 (w := 0) h_a0).2)).2)).1 ?_
                refine e_iload_n 1 dX9_ahead_88 rfl rfl ?_
                obtain ⟨q32, h⟩ := gd_some h
                refine s_iald dX9_ahead_89 (r_2_5 (w := 0) (ka_1 (r_7_1 (w := 0) (ka_1 (r_9_9 (w := 0) h_a0).2)).2)).2 q32 ?_
                obtain rfl := Option.some.inj h
                exact s_ret rfl ⟨_, rfl, rfl⟩ dX9_ahead_90
              · rw [if_pos c31] at h
                refine e_aload_n 0 dX9_ahead_63 rfl rfl ?_
                refine s_getr dX9_ahead_64 fl_RX9_77 h_a0 (r_9_9 h_a0).1 ?_
                refine s_getr dX9_ahead_67 fl_RX9_202 (ka_1 (r_9_9 (w := 0) h_a0).2) (r_7_1 (ka_1 (r_9_9 (w := 0) h_a0).2)).1 ?_
                refine s_getr dX9_ahead_70 fl_RX9_145 (ka_1 (r_7_1 (w := 0) (ka_1 (r_9_9 (w := 0) h_a0).2)).2) (r_2_3 (ka_1 (r_7_1 (w := 0) (ka_1 (r_9_9 (w := 0) h_a0).2)).2)).1 ?_
                refine e_iload_n 1 dX9_ahead_73 rfl rfl ?_
                obtain ⟨q33, h⟩ := gd_some h
                refine s_iald dX9_ahead_74 (r_2_3 (w := 0) (ka_1 (r_7_1 (w := 0) (ka_1 (r_9_9 (w := 0) h_a0).2)).2)).2 q33 ?_
                refine e_goto 90 dX9_ahead_75 (by decide) ?_
                obtain rfl := Option.some.inj h
                exact s_ret rfl ⟨_, rfl, rfl⟩ dX9_ahead_90
            · rw [if_pos c30] at h
              refine e_aload_n 0 dX9_ahead_45 rfl rfl ?_
              refine s_getr dX9_ahead_46 fl_RX9_77 h_a0 (r_9_9 h_a0).1 ?_
              refine s_getr dX9_ahead_49 fl_RX9_202 (ka_1 (r_9_9 (w := 0) h_a0).2) (r_7_1 (ka_1 (r_9_9 (w := 0) h_a0).2)).1 ?_
              refine s_getr dX9_ahead_52 fl_RX9_142 (ka_1 (r_7_1 (w := 0) (ka_1 (r_9_9 (w := 0) h_a0).2)).2) (r_2_2 (ka_1 (r_7_1 (w := 0) (ka_1 (r_9_9 (w := 0) h_a0).2)).2)).1 ?_
              refine e_iload_n 1 dX9_ahead_55 rfl rfl ?_
              obtain ⟨q34, h⟩ := gd_some h
              refine s_iald dX9_ahead_56 (r_2_2 (w := 0) (ka_1 (r_7_1 (w := 0) (ka_1 (r_9_9 (w := 0) h_a0).2)).2)).2 q34 ?_
              obtain rfl := Option.some.inj h
              exact s_ret rfl ⟨_, rfl, rfl⟩ dX9_ahead_57
          · rw [if_neg c25] at h
            refine e_iconst (v := (-1 : Int32)) dX9_ahead_27 (by decide) ?_
            obtain rfl := Option.some.inj h
            exact s_ret rfl ⟨_, rfl, rfl⟩ dX9_ahead_28
abbrev yy_X9_rested : mm_Y := (yX9_rested, cX9_rested, 3, (some .int))
theorem dX9_rested_0 : decode cX9_rested 0 = .ok (.aload_n 0, 1) := by decide +kernel
theorem dX9_rested_1 : decode cX9_rested 1 = .ok (.iload_n 1, 1) := by decide +kernel
theorem dX9_rested_2 : decode cX9_rested 2 = .ok (.invokevirtual 138, 3) := by decide +kernel
theorem dX9_rested_5 : decode cX9_rested 5 = .ok (.ifCond .ne 5, 3) := by decide +kernel
theorem dX9_rested_8 : decode cX9_rested 8 = .ok (.iconst (-1), 1) := by decide +kernel
theorem dX9_rested_9 : decode cX9_rested 9 = .ok (.ireturn, 1) := by decide +kernel
theorem dX9_rested_10 : decode cX9_rested 10 = .ok (.aload_n 0, 1) := by decide +kernel
theorem dX9_rested_11 : decode cX9_rested 11 = .ok (.invokevirtual 196, 3) := by decide +kernel
theorem dX9_rested_14 : decode cX9_rested 14 = .ok (.iconst 0, 1) := by decide +kernel
theorem dX9_rested_15 : decode cX9_rested 15 = .ok (.istore_n 2, 1) := by decide +kernel
theorem dX9_rested_16 : decode cX9_rested 16 = .ok (.iload_n 2, 1) := by decide +kernel
theorem dX9_rested_17 : decode cX9_rested 17 = .ok (.sipush 200, 3) := by decide +kernel
theorem dX9_rested_20 : decode cX9_rested 20 = .ok (.if_icmp .ge 43, 3) := by decide +kernel
theorem dX9_rested_23 : decode cX9_rested 23 = .ok (.aload_n 0, 1) := by decide +kernel
theorem dX9_rested_24 : decode cX9_rested 24 = .ok (.getfield 77, 3) := by decide +kernel
theorem dX9_rested_27 : decode cX9_rested 27 = .ok (.getfield 202, 3) := by decide +kernel
theorem dX9_rested_30 : decode cX9_rested 30 = .ok (.getfield 142, 3) := by decide +kernel
theorem dX9_rested_33 : decode cX9_rested 33 = .ok (.iload_n 1, 1) := by decide +kernel
theorem dX9_rested_34 : decode cX9_rested 34 = .ok (.iaload, 1) := by decide +kernel
theorem dX9_rested_35 : decode cX9_rested 35 = .ok (.ifCond .ne 14, 3) := by decide +kernel
theorem dX9_rested_38 : decode cX9_rested 38 = .ok (.aload_n 0, 1) := by decide +kernel
theorem dX9_rested_39 : decode cX9_rested 39 = .ok (.getfield 77, 3) := by decide +kernel
theorem dX9_rested_42 : decode cX9_rested 42 = .ok (.getfield 202, 3) := by decide +kernel
theorem dX9_rested_45 : decode cX9_rested 45 = .ok (.getfield 171, 3) := by decide +kernel
theorem dX9_rested_48 : decode cX9_rested 48 = .ok (.ireturn, 1) := by decide +kernel
theorem dX9_rested_49 : decode cX9_rested 49 = .ok (.aload_n 0, 1) := by decide +kernel
theorem dX9_rested_50 : decode cX9_rested 50 = .ok (.getfield 77, 3) := by decide +kernel
theorem dX9_rested_53 : decode cX9_rested 53 = .ok (.iconst 1, 1) := by decide +kernel
theorem dX9_rested_54 : decode cX9_rested 54 = .ok (.invokevirtual 199, 3) := by decide +kernel
theorem dX9_rested_57 : decode cX9_rested 57 = .ok (.iinc 2 1, 3) := by decide +kernel
theorem dX9_rested_60 : decode cX9_rested 60 = .ok (.goto (-44), 3) := by decide +kernel
theorem dX9_rested_63 : decode cX9_rested 63 = .ok (.bipush (-2), 2) := by decide +kernel
theorem dX9_rested_65 : decode cX9_rested 65 = .ok (.ireturn, 1) := by decide +kernel
def f_X9_rested_16 (a0 : Nat) (i1 : Int32) (i2 : Int32) (σ : mm_S) : Option (Int32 × mm_S) :=
  lp lpN (fun (k16 : (Int32) → mm_S → Option (Int32 × mm_S)) (v : Int32) (σ : mm_S) =>
    if (200 : Int32) ≤ v then
      some ((-2 : Int32), σ)
    else
      gd i1 6 <|
      if (σ.1 (201 + 1) i1.toNatClampNeg) = 0 then
        some ((σ.1 201 0), σ)
      else
        bv (f_X7_passHours 200 (1 : Int32) σ) fun σ5 =>
        lt (v + Int32.ofInt (1)) fun x6 =>
        k16 x6 σ5) i2 σ
theorem v_X9_rested_16 {g : mm_G} (d : Nat) {a0 : Nat} {i1 : Int32} {i2 : Int32} {σ : mm_S} {res : Int32 × mm_S}  (h_a0 : (mm_K a0).1 = 9) (h : f_X9_rested_16 a0 i1 i2 σ = some res) : SV g (d + 5) yy_X9_rested 16 [(0, .ref a0), (1, .int i1), (2, .int i2)] [] σ (.int res.1) res.2 := by
  unfold f_X9_rested_16 at h
  refine lp_ind (P := fun v σ => SV g (d + 5) yy_X9_rested 16 [(0, .ref a0), (1, .int i1), (2, .int v)] [] σ (.int res.1) res.2) (fun k16 H16 v σ h => ?_) _ i2 σ h
  refine e_iload_n 2 dX9_rested_16 rfl rfl ?_
  refine e_sipush (v := (200 : Int32)) dX9_rested_17 (by decide) ?_
  refine e_icmp_ge 63 dX9_rested_20 (by decide) (fun c1 => ?_) (fun c1 => ?_)
  · rw [if_pos c1] at h
    refine e_bipush (v := (-2 : Int32)) dX9_rested_63 (by decide) ?_
    obtain rfl := Option.some.inj h
    exact s_ret rfl ⟨_, rfl, rfl⟩ dX9_rested_65
  · rw [if_neg c1] at h
    refine e_aload_n 0 dX9_rested_23 rfl rfl ?_
    refine s_getr dX9_rested_24 fl_RX9_77 h_a0 (r_9_9 h_a0).1 ?_
    refine s_getr dX9_rested_27 fl_RX9_202 (ka_1 (r_9_9 (w := 0) h_a0).2) (r_7_1 (ka_1 (r_9_9 (w := 0) h_a0).2)).1 ?_
    refine s_getr dX9_rested_30 fl_RX9_142 (ka_1 (r_7_1 (w := 0) (ka_1 (r_9_9 (w := 0) h_a0).2)).2) (r_2_2 (ka_1 (r_7_1 (w := 0) (ka_1 (r_9_9 (w := 0) h_a0).2)).2)).1 ?_
    refine e_iload_n 1 dX9_rested_33 rfl rfl ?_
    obtain ⟨q2, h⟩ := gd_some h
    refine s_iald dX9_rested_34 (r_2_2 (w := 0) (ka_1 (r_7_1 (w := 0) (ka_1 (r_9_9 (w := 0) h_a0).2)).2)).2 q2 ?_
    refine e_if_ne 49 dX9_rested_35 (by decide) (fun c3 => ?_) (fun c3 => ?_)
    · rw [if_neg c3] at h
      refine e_aload_n 0 dX9_rested_49 rfl rfl ?_
      refine s_getr dX9_rested_50 fl_RX9_77 h_a0 (r_9_9 h_a0).1 ?_
      refine e_iconst (v := (1 : Int32)) dX9_rested_53 (by decide) ?_
      obtain ⟨σ5, q4, h⟩ := bv_some h
      refine s_callVv [.int (1 : Int32)] dX9_rested_54 ml_RX9_199 (ka_1 (r_9_9 (w := 0) h_a0).2) rfl rfl (v_X7_passHours (d + 0) (ka_1 (r_9_9 (w := 0) h_a0).2) q4) (Nat.le_of_ble_eq_true rfl) ?_
      obtain ⟨x6, q7, h⟩ := lt_some h
      refine e_iinc (v := x6) (L' := [(0, .ref a0), (1, .int i1), (2, .int x6)]) 2 dX9_rested_57 rfl q7.symm (by decide) rfl ?_
      refine e_goto 16 dX9_rested_60 (by decide) ?_
      refine s_pick (L' := [(0, .ref a0), (1, .int i1), (2, .int x6)]) [0, 1, 2] rfl ?_
      exact H16 x6 σ5 h
    · rw [if_pos c3] at h
      refine e_aload_n 0 dX9_rested_38 rfl rfl ?_
      refine s_getr dX9_rested_39 fl_RX9_77 h_a0 (r_9_9 h_a0).1 ?_
      refine s_getr dX9_rested_42 fl_RX9_202 (ka_1 (r_9_9 (w := 0) h_a0).2) (r_7_1 (ka_1 (r_9_9 (w := 0) h_a0).2)).1 ?_
      refine s_geti dX9_rested_45 fl_RX9_171 (ka_1 (r_7_1 (w := 0) (ka_1 (r_9_9 (w := 0) h_a0).2)).2) ?_
      obtain rfl := Option.some.inj h
      exact s_ret rfl ⟨_, rfl, rfl⟩ dX9_rested_48
def f_X9_rested (a0 : Nat) (i1 : Int32) (σ : mm_S) : Option (Int32 × mm_S) :=
    bd (f_X9_isLodger a0 i1 σ) fun r16 σ15 =>
    if r16 = 0 then
      some ((-1 : Int32), σ15)
    else
      bv (f_X9_walkFromNow a0 σ15) fun σ19 =>
      f_X9_rested_16 a0 i1 (0 : Int32) σ19
theorem v_X9_rested {g : mm_G} (d : Nat) {a0 : Nat} {i1 : Int32} {σ : mm_S} {res : Int32 × mm_S} (h_a0 : (mm_K a0).1 = 9) (h : f_X9_rested a0 i1 σ = some res) : SM g (d + 5) yy_X9_rested [.ref a0, .int i1] σ (.int res.1) res.2 := by
  refine s_of (by decide) (Nat.le_of_ble_eq_true rfl) (L := [(0, .ref a0), (1, .int i1)]) rfl ?_
  unfold f_X9_rested at h
  refine e_aload_n 0 dX9_rested_0 rfl rfl ?_
  refine e_iload_n 1 dX9_rested_1 rfl rfl ?_
  obtain ⟨r16, σ15, q14, h⟩ := bd_some h
  refine s_callVi [.int i1] dX9_rested_2 ml_RX9_138 h_a0 ⟨_, rfl, by decide⟩ rfl (v_X9_isLodger (d + 4) h_a0 q14) (Nat.le_of_ble_eq_true rfl) ?_
  refine e_if_ne 10 dX9_rested_5 (by decide) (fun c17 => ?_) (fun c17 => ?_)
  · rw [if_neg c17] at h
    refine e_aload_n 0 dX9_rested_10 rfl rfl ?_
    obtain ⟨σ19, q18, h⟩ := bv_some h
    refine s_callVv [] dX9_rested_11 ml_RX9_196 h_a0 rfl rfl (v_X9_walkFromNow (d + 1) h_a0 q18) (Nat.le_of_ble_eq_true rfl) ?_
    refine e_iconst (v := (0 : Int32)) dX9_rested_14 (by decide) ?_
    refine e_istore_n (L' := [(0, .ref a0), (1, .int i1), (2, .int (0 : Int32))]) dX9_rested_15 rfl (by decide) rfl ?_
    refine s_pick (L' := [(0, .ref a0), (1, .int i1), (2, .int (0 : Int32))]) [0, 1, 2] rfl ?_
    exact v_X9_rested_16 d h_a0 h
  · rw [if_pos c17] at h
    refine e_iconst (v := (-1 : Int32)) dX9_rested_8 (by decide) ?_
    obtain rfl := Option.some.inj h
    exact s_ret rfl ⟨_, rfl, rfl⟩ dX9_rested_9
