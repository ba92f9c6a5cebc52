abbrev yy_X10_puts : mm_Y := (yX10_puts, cX10_puts, 3, none)
theorem dX10_puts_0 : decode cX10_puts 0 = .ok (.aload_n 0, 1) := by decide +kernel
theorem dX10_puts_1 : decode cX10_puts 1 = .ok (.getfield 13, 3) := by decide +kernel
theorem dX10_puts_4 : decode cX10_puts 4 = .ok (.sipush 400, 3) := by decide +kernel
theorem dX10_puts_7 : decode cX10_puts 7 = .ok (.aload_n 0, 1) := by decide +kernel
theorem dX10_puts_8 : decode cX10_puts 8 = .ok (.getfield 166, 3) := by decide +kernel
theorem dX10_puts_11 : decode cX10_puts 11 = .ok (.imul, 1) := by decide +kernel
theorem dX10_puts_12 : decode cX10_puts 12 = .ok (.aload_n 0, 1) := by decide +kernel
theorem dX10_puts_13 : decode cX10_puts 13 = .ok (.getfield 17, 3) := by decide +kernel
theorem dX10_puts_16 : decode cX10_puts 16 = .ok (.aload_n 0, 1) := by decide +kernel
theorem dX10_puts_17 : decode cX10_puts 17 = .ok (.getfield 166, 3) := by decide +kernel
theorem dX10_puts_20 : decode cX10_puts 20 = .ok (.iaload, 1) := by decide +kernel
theorem dX10_puts_21 : decode cX10_puts 21 = .ok (.iadd, 1) := by decide +kernel
theorem dX10_puts_22 : decode cX10_puts 22 = .ok (.iload_n 1, 1) := by decide +kernel
theorem dX10_puts_23 : decode cX10_puts 23 = .ok (.bipush 16, 2) := by decide +kernel
theorem dX10_puts_25 : decode cX10_puts 25 = .ok (.iload_n 2, 1) := by decide +kernel
theorem dX10_puts_26 : decode cX10_puts 26 = .ok (.imul, 1) := by decide +kernel
theorem dX10_puts_27 : decode cX10_puts 27 = .ok (.iadd, 1) := by decide +kernel
theorem dX10_puts_28 : decode cX10_puts 28 = .ok (.iastore, 1) := by decide +kernel
theorem dX10_puts_29 : decode cX10_puts 29 = .ok (.aload_n 0, 1) := by decide +kernel
theorem dX10_puts_30 : decode cX10_puts 30 = .ok (.getfield 17, 3) := by decide +kernel
theorem dX10_puts_33 : decode cX10_puts 33 = .ok (.aload_n 0, 1) := by decide +kernel
theorem dX10_puts_34 : decode cX10_puts 34 = .ok (.getfield 166, 3) := by decide +kernel
theorem dX10_puts_37 : decode cX10_puts 37 = .ok (.dup2, 1) := by decide +kernel
theorem dX10_puts_38 : decode cX10_puts 38 = .ok (.iaload, 1) := by decide +kernel
theorem dX10_puts_39 : decode cX10_puts 39 = .ok (.iconst 1, 1) := by decide +kernel
theorem dX10_puts_40 : decode cX10_puts 40 = .ok (.iadd, 1) := by decide +kernel
theorem dX10_puts_41 : decode cX10_puts 41 = .ok (.iastore, 1) := by decide +kernel
theorem dX10_puts_42 : decode cX10_puts 42 = .ok (.return_, 1) := by decide +kernel
def f_X10_puts (a0 : Nat) (i1 : Int32) (i2 : Int32) (σ : mm_S) : Option (mm_S) :=
    gd (σ.1 a0 11) 7 <|
    gd (((400 : Int32) * (σ.1 a0 11)) + (σ.1 217 (σ.1 a0 11).toNatClampNeg)) 2400 <|
    lt (su_i σ 216 (((400 : Int32) * (σ.1 a0 11)) + (σ.1 217 (σ.1 a0 11).toNatClampNeg)).toNatClampNeg (i1 + ((16 : Int32) * i2))) fun σ11 =>
    gd (σ11.1 a0 11) 7 <|
    gd (σ11.1 a0 11) 7 <|
    lt (su_i σ11 217 (σ11.1 a0 11).toNatClampNeg ((σ11.1 217 (σ11.1 a0 11).toNatClampNeg) + (1 : Int32))) fun σ15 =>
    some σ15
theorem v_X10_puts {g : mm_G} (d : Nat) {a0 : Nat} {i1 : Int32} {i2 : Int32} {σ : mm_S} {res : mm_S} (h_a0 : (mm_K a0).1 = 10) (h : f_X10_puts a0 i1 i2 σ = some res) : SM g (d + 0) yy_X10_puts [.ref a0, .int i1, .int i2] σ .null res := by
  refine s_of (by decide) (Nat.le_of_ble_eq_true rfl) (L := [(0, .ref a0), (1, .int i1), (2, .int i2)]) rfl ?_
  unfold f_X10_puts at h
  refine e_aload_n 0 dX10_puts_0 rfl rfl ?_
  refine s_getr dX10_puts_1 fl_RX10_13 h_a0 (r_10_3 h_a0).1 ?_
  refine e_sipush (v := (400 : Int32)) dX10_puts_4 (by decide) ?_
  refine e_aload_n 0 dX10_puts_7 rfl rfl ?_
  refine s_geti dX10_puts_8 fl_RX10_166 h_a0 ?_
  refine e_imul dX10_puts_11 ?_
  refine e_aload_n 0 dX10_puts_12 rfl rfl ?_
  refine s_getr dX10_puts_13 fl_RX10_17 h_a0 (r_10_4 h_a0).1 ?_
  refine e_aload_n 0 dX10_puts_16 rfl rfl ?_
  refine s_geti dX10_puts_17 fl_RX10_166 h_a0 ?_
  obtain ⟨q9, h⟩ := gd_some h
  refine s_iald dX10_puts_20 (r_10_4 (w := 0) h_a0).2 q9 ?_
  refine e_iadd dX10_puts_21 ?_
  refine e_iload_n 1 dX10_puts_22 rfl rfl ?_
  refine e_bipush (v := (16 : Int32)) dX10_puts_23 (by decide) ?_
  refine e_iload_n 2 dX10_puts_25 rfl rfl ?_
  refine e_imul dX10_puts_26 ?_
  refine e_iadd dX10_puts_27 ?_
  obtain ⟨q10, h⟩ := gd_some h
  refine s_iast dX10_puts_28 (r_10_3 (w := 0) h_a0).2 q10 ?_
  obtain ⟨σ11, q12, h⟩ := lt_some h
  refine s_nms q12 ?_
  refine e_aload_n 0 dX10_puts_29 rfl rfl ?_
  refine s_getr dX10_puts_30 fl_RX10_17 h_a0 (r_10_4 h_a0).1 ?_
  refine e_aload_n 0 dX10_puts_33 rfl rfl ?_
  refine s_geti dX10_puts_34 fl_RX10_166 h_a0 ?_
  refine e_dup2 dX10_puts_37 rfl rfl ?_
  obtain ⟨q13, h⟩ := gd_some h
  refine s_iald dX10_puts_38 (r_10_4 (w := 0) h_a0).2 q13 ?_
  refine e_iconst (v := (1 : Int32)) dX10_puts_39 (by decide) ?_
  refine e_iadd dX10_puts_40 ?_
  obtain ⟨q14, h⟩ := gd_some h
  refine s_iast dX10_puts_41 (r_10_4 (w := 0) h_a0).2 q14 ?_
  obtain ⟨σ15, q16, h⟩ := lt_some h
  refine s_nms q16 ?_
  obtain rfl := Option.some.inj h
  exact s_ret rfl rfl dX10_puts_42
abbrev yy_X10_makes : mm_Y := (yX10_makes, cX10_makes, 2, (some .boolean))
theorem dX10_makes_0 : decode cX10_makes 0 = .ok (.aload_n 0, 1) := by decide +kernel
theorem dX10_makes_1 : decode cX10_makes 1 = .ok (.getfield 169, 3) := by decide +kernel
theorem dX10_makes_4 : decode cX10_makes 4 = .ok (.bipush 60, 2) := by decide +kernel
theorem dX10_makes_6 : decode cX10_makes 6 = .ok (.if_icmp .ne 10, 3) := by decide +kernel
theorem dX10_makes_9 : decode cX10_makes 9 = .ok (.aload_n 0, 1) := by decide +kernel
theorem dX10_makes_10 : decode cX10_makes 10 = .ok (.iconst 3, 1) := by decide +kernel
theorem dX10_makes_11 : decode cX10_makes 11 = .ok (.iload_n 1, 1) := by decide +kernel
theorem dX10_makes_12 : decode cX10_makes 12 = .ok (.invokevirtual 129, 3) := by decide +kernel
theorem dX10_makes_15 : decode cX10_makes 15 = .ok (.ireturn, 1) := by decide +kernel
theorem dX10_makes_16 : decode cX10_makes 16 = .ok (.aload_n 0, 1) := by decide +kernel
theorem dX10_makes_17 : decode cX10_makes 17 = .ok (.dup, 1) := by decide +kernel
theorem dX10_makes_18 : decode cX10_makes 18 = .ok (.getfield 169, 3) := by decide +kernel
theorem dX10_makes_21 : decode cX10_makes 21 = .ok (.iconst 1, 1) := by decide +kernel
theorem dX10_makes_22 : decode cX10_makes 22 = .ok (.iadd, 1) := by decide +kernel
theorem dX10_makes_23 : decode cX10_makes 23 = .ok (.putfield 169, 3) := by decide +kernel
theorem dX10_makes_26 : decode cX10_makes 26 = .ok (.iconst 1, 1) := by decide +kernel
theorem dX10_makes_27 : decode cX10_makes 27 = .ok (.ireturn, 1) := by decide +kernel
def f_X10_makes (a0 : Nat) (i1 : Int32) (σ : mm_S) : Option (Int32 × mm_S) :=
    if (σ.1 a0 12) = (60 : Int32) then
      bd (f_X10_fails a0 (3 : Int32) i1 σ) fun r13 σ12 =>
      gb r13 <|
      some (r13, σ12)
    else
      lt (su_i σ a0 12 ((σ.1 a0 12) + (1 : Int32))) fun σ9 =>
      some ((1 : Int32), σ9)
theorem v_X10_makes {g : mm_G} (d : Nat) {a0 : Nat} {i1 : Int32} {σ : mm_S} {res : Int32 × mm_S} (h_a0 : (mm_K a0).1 = 10) (h : f_X10_makes a0 i1 σ = some res) : SM g (d + 1) yy_X10_makes [.ref a0, .int i1] σ (.int res.1) res.2 := by
  refine s_of (by decide) (Nat.le_of_ble_eq_true rfl) (L := [(0, .ref a0), (1, .int i1)]) rfl ?_
  unfold f_X10_makes at h
  refine e_aload_n 0 dX10_makes_0 rfl rfl ?_
  refine s_geti dX10_makes_1 fl_RX10_169 h_a0 ?_
  refine e_bipush (v := (60 : Int32)) dX10_makes_4 (by decide) ?_
  refine e_icmp_ne 16 dX10_makes_6 (by decide) (fun c8 => ?_) (fun c8 => ?_)
  · rw [if_neg c8] at h
    refine e_aload_n 0 dX10_makes_16 rfl rfl ?_
    refine e_dup dX10_makes_17 rfl ?_
    refine s_geti dX10_makes_18 fl_RX10_169 h_a0 ?_
    refine e_iconst (v := (1 : Int32)) dX10_makes_21 (by decide) ?_
    refine e_iadd dX10_makes_22 ?_
    refine s_puti dX10_makes_23 fl_RX10_169 h_a0 rfl rfl rfl ?_
    obtain ⟨σ9, q10, h⟩ := lt_some h
    refine s_nms q10 ?_
    refine e_iconst (v := (1 : Int32)) dX10_makes_26 (by decide) ?_
    obtain rfl := Option.some.inj h
    exact s_ret rfl ⟨_, rfl, nb1 (Or.inr rfl)⟩ dX10_makes_27
  · rw [if_pos c8] at h
    refine e_aload_n 0 dX10_makes_9 rfl rfl ?_
    refine e_iconst (v := (3 : Int32)) dX10_makes_10 (by decide) ?_
    refine e_iload_n 1 dX10_makes_11 rfl rfl ?_
    obtain ⟨r13, σ12, q11, h⟩ := bd_some h
    refine s_callVi [.int (3 : Int32), .int i1] dX10_makes_12 ml_RX10_129 h_a0 ⟨_, rfl, by decide⟩ rfl (v_X10_fails (d + 0) h_a0 q11) (Nat.le_of_ble_eq_true rfl) ?_
    obtain ⟨q14, h⟩ := gb_some h
    obtain rfl := Option.some.inj h
    exact s_ret rfl ⟨_, rfl, nb1 q14⟩ dX10_makes_15
abbrev yy_X10_opens : mm_Y := (yX10_opens, cX10_opens, 2, (some .boolean))
theorem dX10_opens_0 : decode cX10_opens 0 = .ok (.aload_n 0, 1) := by decide +kernel
theorem dX10_opens_1 : decode cX10_opens 1 = .ok (.getfield 172, 3) := by decide +kernel
theorem dX10_opens_4 : decode cX10_opens 4 = .ok (.bipush 10, 2) := by decide +kernel
theorem dX10_opens_6 : decode cX10_opens 6 = .ok (.if_icmp .ne 13, 3) := by decide +kernel
theorem dX10_opens_9 : decode cX10_opens 9 = .ok (.aload_n 0, 1) := by decide +kernel
theorem dX10_opens_10 : decode cX10_opens 10 = .ok (.iconst 2, 1) := by decide +kernel
theorem dX10_opens_11 : decode cX10_opens 11 = .ok (.aload_n 0, 1) := by decide +kernel
theorem dX10_opens_12 : decode cX10_opens 12 = .ok (.getfield 108, 3) := by decide +kernel
theorem dX10_opens_15 : decode cX10_opens 15 = .ok (.invokevirtual 129, 3) := by decide +kernel
theorem dX10_opens_18 : decode cX10_opens 18 = .ok (.ireturn, 1) := by decide +kernel
theorem dX10_opens_19 : decode cX10_opens 19 = .ok (.aload_n 0, 1) := by decide +kernel
theorem dX10_opens_20 : decode cX10_opens 20 = .ok (.dup, 1) := by decide +kernel
theorem dX10_opens_21 : decode cX10_opens 21 = .ok (.getfield 172, 3) := by decide +kernel
theorem dX10_opens_24 : decode cX10_opens 24 = .ok (.iconst 1, 1) := by decide +kernel
theorem dX10_opens_25 : decode cX10_opens 25 = .ok (.iadd, 1) := by decide +kernel
theorem dX10_opens_26 : decode cX10_opens 26 = .ok (.putfield 172, 3) := by decide +kernel
theorem dX10_opens_29 : decode cX10_opens 29 = .ok (.aload_n 0, 1) := by decide +kernel
theorem dX10_opens_30 : decode cX10_opens 30 = .ok (.getfield 29, 3) := by decide +kernel
theorem dX10_opens_33 : decode cX10_opens 33 = .ok (.aload_n 0, 1) := by decide +kernel
theorem dX10_opens_34 : decode cX10_opens 34 = .ok (.getfield 175, 3) := by decide +kernel
theorem dX10_opens_37 : decode cX10_opens 37 = .ok (.iload_n 1, 1) := by decide +kernel
theorem dX10_opens_38 : decode cX10_opens 38 = .ok (.iastore, 1) := by decide +kernel
theorem dX10_opens_39 : decode cX10_opens 39 = .ok (.aload_n 0, 1) := by decide +kernel
theorem dX10_opens_40 : decode cX10_opens 40 = .ok (.dup, 1) := by decide +kernel
theorem dX10_opens_41 : decode cX10_opens 41 = .ok (.getfield 175, 3) := by decide +kernel
theorem dX10_opens_44 : decode cX10_opens 44 = .ok (.iconst 1, 1) := by decide +kernel
theorem dX10_opens_45 : decode cX10_opens 45 = .ok (.iadd, 1) := by decide +kernel
theorem dX10_opens_46 : decode cX10_opens 46 = .ok (.putfield 175, 3) := by decide +kernel
theorem dX10_opens_49 : decode cX10_opens 49 = .ok (.iconst 1, 1) := by decide +kernel
theorem dX10_opens_50 : decode cX10_opens 50 = .ok (.ireturn, 1) := by decide +kernel
def f_X10_opens (a0 : Nat) (i1 : Int32) (σ : mm_S) : Option (Int32 × mm_S) :=
    if (σ.1 a0 13) = (10 : Int32) then
      bd (f_X10_fails a0 (2 : Int32) (σ.1 a0 8) σ) fun r23 σ22 =>
      gb r23 <|
      some (r23, σ22)
    else
      lt (su_i σ a0 13 ((σ.1 a0 13) + (1 : Int32))) fun σ14 =>
      gd (σ14.1 a0 16) 400 <|
      lt (su_i σ14 221 (σ14.1 a0 16).toNatClampNeg i1) fun σ17 =>
      lt (su_i σ17 a0 16 ((σ17.1 a0 16) + (1 : Int32))) fun σ19 =>
      some ((1 : Int32), σ19)
theorem v_X10_opens {g : mm_G} (d : Nat) {a0 : Nat} {i1 : Int32} {σ : mm_S} {res : Int32 × mm_S} (h_a0 : (mm_K a0).1 = 10) (h : f_X10_opens a0 i1 σ = some res) : SM g (d + 1) yy_X10_opens [.ref a0, .int i1] σ (.int res.1) res.2 := by
  refine s_of (by decide) (Nat.le_of_ble_eq_true rfl) (L := [(0, .ref a0), (1, .int i1)]) rfl ?_
  unfold f_X10_opens at h
  refine e_aload_n 0 dX10_opens_0 rfl rfl ?_
  refine s_geti dX10_opens_1 fl_RX10_172 h_a0 ?_
  refine e_bipush (v := (10 : Int32)) dX10_opens_4 (by decide) ?_
  refine e_icmp_ne 19 dX10_opens_6 (by decide) (fun c13 => ?_) (fun c13 => ?_)
  · rw [if_neg c13] at h
    refine e_aload_n 0 dX10_opens_19 rfl rfl ?_
    refine e_dup dX10_opens_20 rfl ?_
    refine s_geti dX10_opens_21 fl_RX10_172 h_a0 ?_
    refine e_iconst (v := (1 : Int32)) dX10_opens_24 (by decide) ?_
    refine e_iadd dX10_opens_25 ?_
    refine s_puti dX10_opens_26 fl_RX10_172 h_a0 rfl rfl rfl ?_
    obtain ⟨σ14, q15, h⟩ := lt_some h
    refine s_nms q15 ?_
    refine e_aload_n 0 dX10_opens_29 rfl rfl ?_
    refine s_getr dX10_opens_30 fl_RX10_29 h_a0 (r_10_15 h_a0).1 ?_
    refine e_aload_n 0 dX10_opens_33 rfl rfl ?_
    refine s_geti dX10_opens_34 fl_RX10_175 h_a0 ?_
    refine e_iload_n 1 dX10_opens_37 rfl rfl ?_
    obtain ⟨q16, h⟩ := gd_some h
    refine s_iast dX10_opens_38 (r_10_15 (w := 0) h_a0).2 q16 ?_
    obtain ⟨σ17, q18, h⟩ := lt_some h
    refine s_nms q18 ?_
    refine e_aload_n 0 dX10_opens_39 rfl rfl ?_
    refine e_dup dX10_opens_40 rfl ?_
    refine s_geti dX10_opens_41 fl_RX10_175 h_a0 ?_
    refine e_iconst (v := (1 : Int32)) dX10_opens_44 (by decide) ?_
    refine e_iadd dX10_opens_45 ?_
    refine s_puti dX10_opens_46 fl_RX10_175 h_a0 rfl rfl rfl ?_
    obtain ⟨σ19, q20, h⟩ := lt_some h
    refine s_nms q20 ?_
    refine e_iconst (v := (1 : Int32)) dX10_opens_49 (by decide) ?_
    obtain rfl := Option.some.inj h
    exact s_ret rfl ⟨_, rfl, nb1 (Or.inr rfl)⟩ dX10_opens_50
  · rw [if_pos c13] at h
    refine e_aload_n 0 dX10_opens_9 rfl rfl ?_
    refine e_iconst (v := (2 : Int32)) dX10_opens_10 (by decide) ?_
    refine e_aload_n 0 dX10_opens_11 rfl rfl ?_
    refine s_geti dX10_opens_12 fl_RX10_108 h_a0 ?_
    obtain ⟨r23, σ22, q21, h⟩ := bd_some h
    refine s_callVi [.int (2 : Int32), .int (σ.1 a0 8)] dX10_opens_15 ml_RX10_129 h_a0 ⟨_, rfl, by decide⟩ rfl (v_X10_fails (d + 0) h_a0 q21) (Nat.le_of_ble_eq_true rfl) ?_
    obtain ⟨q24, h⟩ := gb_some h
    obtain rfl := Option.some.inj h
    exact s_ret rfl ⟨_, rfl, nb1 q24⟩ dX10_opens_18
abbrev yy_X10_strength : mm_Y := (yX10_strength, cX10_strength, 1, (some .int))
theorem dX10_strength_0 : decode cX10_strength 0 = .ok (.iload_n 0, 1) := by decide +kernel
theorem dX10_strength_1 : decode cX10_strength 1 = .ok (.bipush 13, 2) := by decide +kernel
theorem dX10_strength_3 : decode cX10_strength 3 = .ok (.if_icmp .ne 7, 3) := by decide +kernel
theorem dX10_strength_6 : decode cX10_strength 6 = .ok (.iconst 1, 1) := by decide +kernel
theorem dX10_strength_7 : decode cX10_strength 7 = .ok (.goto 24, 3) := by decide +kernel
theorem dX10_strength_10 : decode cX10_strength 10 = .ok (.iload_n 0, 1) := by decide +kernel
theorem dX10_strength_11 : decode cX10_strength 11 = .ok (.bipush 12, 2) := by decide +kernel
theorem dX10_strength_13 : decode cX10_strength 13 = .ok (.if_icmp .ne 7, 3) := by decide +kernel
theorem dX10_strength_16 : decode cX10_strength 16 = .ok (.iconst 2, 1) := by decide +kernel
theorem dX10_strength_17 : decode cX10_strength 17 = .ok (.goto 14, 3) := by decide +kernel
theorem dX10_strength_20 : decode cX10_strength 20 = .ok (.iload_n 0, 1) := by decide +kernel
theorem dX10_strength_21 : decode cX10_strength 21 = .ok (.bipush 11, 2) := by decide +kernel
theorem dX10_strength_23 : decode cX10_strength 23 = .ok (.if_icmp .ne 7, 3) := by decide +kernel
theorem dX10_strength_26 : decode cX10_strength 26 = .ok (.iconst 3, 1) := by decide +kernel
theorem dX10_strength_27 : decode cX10_strength 27 = .ok (.goto 4, 3) := by decide +kernel
theorem dX10_strength_30 : decode cX10_strength 30 = .ok (.iconst 0, 1) := by decide +kernel
theorem dX10_strength_31 : decode cX10_strength 31 = .ok (.ireturn, 1) := by decide +kernel
def f_X10_strength (i0 : Int32) (σ : mm_S) : Option (Int32 × mm_S) :=
    if i0 = (13 : Int32) then
      some ((1 : Int32), σ)
    else
      if i0 = (12 : Int32) then
        some ((2 : Int32), σ)
      else
        if i0 = (11 : Int32) then
          some ((3 : Int32), σ)
        else
          some ((0 : Int32), σ)
theorem v_X10_strength {g : mm_G} (d : Nat) {i0 : Int32} {σ : mm_S} {res : Int32 × mm_S}  (h : f_X10_strength i0 σ = some res) : SM g (d + 0) yy_X10_strength [.int i0] σ (.int res.1) res.2 := by
  refine s_of (by decide) (Nat.le_of_ble_eq_true rfl) (L := [(0, .int i0)]) rfl ?_
  unfold f_X10_strength at h
  refine e_iload_n 0 dX10_strength_0 rfl rfl ?_
  refine e_bipush (v := (13 : Int32)) dX10_strength_1 (by decide) ?_
  refine e_icmp_ne 10 dX10_strength_3 (by decide) (fun c4 => ?_) (fun c4 => ?_)
  · rw [if_neg c4] at h
    refine e_iload_n 0 dX10_strength_10 rfl rfl ?_
    refine e_bipush (v := (12 : Int32)) dX10_strength_11 (by decide) ?_
    refine e_icmp_ne 20 dX10_strength_13 (by decide) (fun c5 => ?_) (fun c5 => ?_)
    · rw [if_neg c5] at h
      refine e_iload_n 0 dX10_strength_20 rfl rfl ?_
      refine e_bipush (v := (11 : Int32)) dX10_strength_21 (by decide) ?_
      refine e_icmp_ne 30 dX10_strength_23 (by decide) (fun c6 => ?_) (fun c6 => ?_)
      · rw [if_neg c6] at h
        refine e_iconst (v := (0 : Int32)) dX10_strength_30 (by decide) ?_
        obtain rfl := Option.some.inj h
        exact s_ret rfl ⟨_, rfl, rfl⟩ dX10_strength_31
      · rw [if_pos c6] at h
        refine e_iconst (v := (3 : Int32)) dX10_strength_26 (by decide) ?_
        refine e_goto 31 dX10_strength_27 (by decide) ?_
        obtain rfl := Option.some.inj h
        exact s_ret rfl ⟨_, rfl, rfl⟩ dX10_strength_31
    · rw [if_pos c5] at h
      refine e_iconst (v := (2 : Int32)) dX10_strength_16 (by decide) ?_
      refine e_goto 31 dX10_strength_17 (by decide) ?_
      obtain rfl := Option.some.inj h
      exact s_ret rfl ⟨_, rfl, rfl⟩ dX10_strength_31
  · rw [if_pos c4] at h
    refine e_iconst (v := (1 : Int32)) dX10_strength_6 (by decide) ?_
    refine e_goto 31 dX10_strength_7 (by decide) ?_
    obtain rfl := Option.some.inj h
    exact s_ret rfl ⟨_, rfl, rfl⟩ dX10_strength_31
abbrev yy_X10_layDown : mm_Y := (yX10_layDown, cX10_layDown, 2, none)
theorem dX10_layDown_0 : decode cX10_layDown 0 = .ok (.aload_n 0, 1) := by decide +kernel
theorem dX10_layDown_1 : decode cX10_layDown 1 = .ok (.getfield 175, 3) := by decide +kernel
theorem dX10_layDown_4 : decode cX10_layDown 4 = .ok (.ifCond .le 72, 3) := by decide +kernel
theorem dX10_layDown_7 : decode cX10_layDown 7 = .ok (.aload_n 0, 1) := by decide +kernel
theorem dX10_layDown_8 : decode cX10_layDown 8 = .ok (.getfield 29, 3) := by decide +kernel
theorem dX10_layDown_11 : decode cX10_layDown 11 = .ok (.aload_n 0, 1) := by decide +kernel
theorem dX10_layDown_12 : decode cX10_layDown 12 = .ok (.getfield 175, 3) := by decide +kernel
theorem dX10_layDown_15 : decode cX10_layDown 15 = .ok (.iconst 1, 1) := by decide +kernel
theorem dX10_layDown_16 : decode cX10_layDown 16 = .ok (.isub, 1) := by decide +kernel
theorem dX10_layDown_17 : decode cX10_layDown 17 = .ok (.iaload, 1) := by decide +kernel
theorem dX10_layDown_18 : decode cX10_layDown 18 = .ok (.invokestatic 178, 3) := by decide +kernel
theorem dX10_layDown_21 : decode cX10_layDown 21 = .ok (.iload_n 1, 1) := by decide +kernel
theorem dX10_layDown_22 : decode cX10_layDown 22 = .ok (.if_icmp .lt 54, 3) := by decide +kernel
theorem dX10_layDown_25 : decode cX10_layDown 25 = .ok (.aload_n 0, 1) := by decide +kernel
theorem dX10_layDown_26 : decode cX10_layDown 26 = .ok (.dup, 1) := by decide +kernel
theorem dX10_layDown_27 : decode cX10_layDown 27 = .ok (.getfield 175, 3) := by decide +kernel
theorem dX10_layDown_30 : decode cX10_layDown 30 = .ok (.iconst 1, 1) := by decide +kernel
theorem dX10_layDown_31 : decode cX10_layDown 31 = .ok (.isub, 1) := by decide +kernel
theorem dX10_layDown_32 : decode cX10_layDown 32 = .ok (.putfield 175, 3) := by decide +kernel
theorem dX10_layDown_35 : decode cX10_layDown 35 = .ok (.aload_n 0, 1) := by decide +kernel
theorem dX10_layDown_36 : decode cX10_layDown 36 = .ok (.aload_n 0, 1) := by decide +kernel
theorem dX10_layDown_37 : decode cX10_layDown 37 = .ok (.getfield 29, 3) := by decide +kernel
theorem dX10_layDown_40 : decode cX10_layDown 40 = .ok (.aload_n 0, 1) := by decide +kernel
theorem dX10_layDown_41 : decode cX10_layDown 41 = .ok (.getfield 175, 3) := by decide +kernel
theorem dX10_layDown_44 : decode cX10_layDown 44 = .ok (.iaload, 1) := by decide +kernel
theorem dX10_layDown_45 : decode cX10_layDown 45 = .ok (.iconst 0, 1) := by decide +kernel
theorem dX10_layDown_46 : decode cX10_layDown 46 = .ok (.invokevirtual 182, 3) := by decide +kernel
theorem dX10_layDown_49 : decode cX10_layDown 49 = .ok (.aload_n 0, 1) := by decide +kernel
theorem dX10_layDown_50 : decode cX10_layDown 50 = .ok (.getfield 29, 3) := by decide +kernel
theorem dX10_layDown_53 : decode cX10_layDown 53 = .ok (.aload_n 0, 1) := by decide +kernel
theorem dX10_layDown_54 : decode cX10_layDown 54 = .ok (.getfield 175, 3) := by decide +kernel
theorem dX10_layDown_57 : decode cX10_layDown 57 = .ok (.iaload, 1) := by decide +kernel
theorem dX10_layDown_58 : decode cX10_layDown 58 = .ok (.bipush 11, 2) := by decide +kernel
theorem dX10_layDown_60 : decode cX10_layDown 60 = .ok (.if_icmp .ne (-60), 3) := by decide +kernel
theorem dX10_layDown_63 : decode cX10_layDown 63 = .ok (.aload_n 0, 1) := by decide +kernel
theorem dX10_layDown_64 : decode cX10_layDown 64 = .ok (.dup, 1) := by decide +kernel
theorem dX10_layDown_65 : decode cX10_layDown 65 = .ok (.getfield 172, 3) := by decide +kernel
theorem dX10_layDown_68 : decode cX10_layDown 68 = .ok (.iconst 1, 1) := by decide +kernel
theorem dX10_layDown_69 : decode cX10_layDown 69 = .ok (.isub, 1) := by decide +kernel
theorem dX10_layDown_70 : decode cX10_layDown 70 = .ok (.putfield 172, 3) := by decide +kernel
theorem dX10_layDown_73 : decode cX10_layDown 73 = .ok (.goto (-73), 3) := by decide +kernel
theorem dX10_layDown_76 : decode cX10_layDown 76 = .ok (.return_, 1) := by decide +kernel
def f_X10_layDown_0 (a0 : Nat) (i1 : Int32) (σ : mm_S) : Option (mm_S) :=
  lp lpN (fun (k0 : (Unit) → mm_S → Option (mm_S)) (v : Unit) (σ : mm_S) =>
    if (σ.1 a0 16) ≤ 0 then
      some σ
    else
      gd ((σ.1 a0 16) - (1 : Int32)) 400 <|
      bd (f_X10_strength (σ.1 221 ((σ.1 a0 16) - (1 : Int32)).toNatClampNeg) σ) fun r5 σ4 =>
      if r5 < i1 then
        some σ4
      else
        lt (su_i σ4 a0 16 ((σ4.1 a0 16) - (1 : Int32))) fun σ7 =>
        gd (σ7.1 a0 16) 400 <|
        bv (f_X10_puts a0 (σ7.1 221 (σ7.1 a0 16).toNatClampNeg) (0 : Int32) σ7) fun σ11 =>
        gd (σ11.1 a0 16) 400 <|
        if (σ11.1 221 (σ11.1 a0 16).toNatClampNeg) = (11 : Int32) then
          lt (su_i σ11 a0 13 ((σ11.1 a0 13) - (1 : Int32))) fun σ14 =>
          k0 () σ14
        else
          k0 () σ11) () σ
theorem v_X10_layDown_0 {g : mm_G} (d : Nat) {a0 : Nat} {i1 : Int32} {σ : mm_S} {res : mm_S}  (h_a0 : (mm_K a0).1 = 10) (h : f_X10_layDown_0 a0 i1 σ = some res) : SV g (d + 1) yy_X10_layDown 0 [(0, .ref a0), (1, .int i1)] [] σ .null res := by
  unfold f_X10_layDown_0 at h
  refine lp_ind (P := fun v σ => SV g (d + 1) yy_X10_layDown 0 [(0, .ref a0), (1, .int i1)] [] σ .null res) (fun k0 H0 v σ h => ?_) _ () σ h
  refine e_aload_n 0 dX10_layDown_0 rfl rfl ?_
  refine s_geti dX10_layDown_1 fl_RX10_175 h_a0 ?_
  refine e_if_le 76 dX10_layDown_4 (by decide) (fun c1 => ?_) (fun c1 => ?_)
  · rw [if_pos c1] at h
    obtain rfl := Option.some.inj h
    exact s_ret rfl rfl dX10_layDown_76
  · rw [if_neg c1] at h
    refine e_aload_n 0 dX10_layDown_7 rfl rfl ?_
    refine s_getr dX10_layDown_8 fl_RX10_29 h_a0 (r_10_15 h_a0).1 ?_
    refine e_aload_n 0 dX10_layDown_11 rfl rfl ?_
    refine s_geti dX10_layDown_12 fl_RX10_175 h_a0 ?_
    refine e_iconst (v := (1 : Int32)) dX10_layDown_15 (by decide) ?_
    refine e_isub dX10_layDown_16 ?_
    obtain ⟨q2, h⟩ := gd_some h
    refine s_iald dX10_layDown_17 (r_10_15 (w := 0) h_a0).2 q2 ?_
    obtain ⟨r5, σ4, q3, h⟩ := bd_some h
    refine s_callSi [.int (σ.1 221 ((σ.1 a0 16) - (1 : Int32)).toNatClampNeg)] dX10_layDown_18 ml_RX10_178 ⟨_, rfl, by decide⟩ rfl (v_X10_strength (d + 0)  q3) (Nat.le_of_ble_eq_true rfl) ?_
    refine e_iload_n 1 dX10_layDown_21 rfl rfl ?_
    refine e_icmp_lt 76 dX10_layDown_22 (by decide) (fun c6 => ?_) (fun c6 => ?_)
    · rw [if_pos c6] at h
      obtain rfl := Option.some.inj h
      exact s_ret rfl rfl dX10_layDown_76
    · rw [if_neg c6] at h
      refine e_aload_n 0 dX10_layDown_25 rfl rfl ?_
      refine e_dup dX10_layDown_26 rfl ?_
      refine s_geti dX10_layDown_27 fl_RX10_175 h_a0 ?_
      refine e_iconst (v := (1 : Int32)) dX10_layDown_30 (by decide) ?_
      refine e_isub dX10_layDown_31 ?_
      refine s_puti dX10_layDown_32 fl_RX10_175 h_a0 rfl rfl rfl ?_
      obtain ⟨σ7, q8, h⟩ := lt_some h
      refine s_nms q8 ?_
      refine e_aload_n 0 dX10_layDown_35 rfl rfl ?_
      refine e_aload_n 0 dX10_layDown_36 rfl rfl ?_
      refine s_getr dX10_layDown_37 fl_RX10_29 h_a0 (r_10_15 h_a0).1 ?_
      refine e_aload_n 0 dX10_layDown_40 rfl rfl ?_
      refine s_geti dX10_layDown_41 fl_RX10_175 h_a0 ?_
      obtain ⟨q9, h⟩ := gd_some h
      refine s_iald dX10_layDown_44 (r_10_15 (w := 0) h_a0).2 q9 ?_
      refine e_iconst (v := (0 : Int32)) dX10_layDown_45 (by decide) ?_
      obtain ⟨σ11, q10, h⟩ := bv_some h
      refine s_callVv [.int (σ7.1 221 (σ7.1 a0 16).toNatClampNeg), .int (0 : Int32)] dX10_layDown_46 ml_RX10_182 h_a0 rfl rfl (v_X10_puts (d + 0) h_a0 q10) (Nat.le_of_ble_eq_true rfl) ?_
      refine e_aload_n 0 dX10_layDown_49 rfl rfl ?_
      refine s_getr dX10_layDown_50 fl_RX10_29 h_a0 (r_10_15 h_a0).1 ?_
      refine e_aload_n 0 dX10_layDown_53 rfl rfl ?_
      refine s_geti dX10_layDown_54 fl_RX10_175 h_a0 ?_
      obtain ⟨q12, h⟩ := gd_some h
      refine s_iald dX10_layDown_57 (r_10_15 (w := 0) h_a0).2 q12 ?_
      refine e_bipush (v := (11 : Int32)) dX10_layDown_58 (by decide) ?_
      refine e_icmp_ne 0 dX10_layDown_60 (by decide) (fun c13 => ?_) (fun c13 => ?_)
      · rw [if_neg c13] at h
        refine s_pick (L' := [(0, .ref a0), (1, .int i1)]) [0, 1] rfl ?_
        exact H0 () σ11 h
      · rw [if_pos c13] at h
        refine e_aload_n 0 dX10_layDown_63 rfl rfl ?_
        refine e_dup dX10_layDown_64 rfl ?_
        refine s_geti dX10_layDown_65 fl_RX10_172 h_a0 ?_
        refine e_iconst (v := (1 : Int32)) dX10_layDown_68 (by decide) ?_
        refine e_isub dX10_layDown_69 ?_
        refine s_puti dX10_layDown_70 fl_RX10_172 h_a0 rfl rfl rfl ?_
        obtain ⟨σ14, q15, h⟩ := lt_some h
        refine s_nms q15 ?_
        refine e_goto 0 dX10_layDown_73 (by decide) ?_
        refine s_pick (L' := [(0, .ref a0), (1, .int i1)]) [0, 1] rfl ?_
        exact H0 () σ14 h
def f_X10_layDown (a0 : Nat) (i1 : Int32) (σ : mm_S) : Option (mm_S) := f_X10_layDown_0 a0 i1 σ
theorem v_X10_layDown {g : mm_G} (d : Nat) {a0 : Nat} {i1 : Int32} {σ : mm_S} {res : mm_S} (h_a0 : (mm_K a0).1 = 10) (h : f_X10_layDown a0 i1 σ = some res) : SM g (d + 1) yy_X10_layDown [.ref a0, .int i1] σ .null res := by
  refine s_of (by decide) (Nat.le_of_ble_eq_true rfl) (L := [(0, .ref a0), (1, .int i1)]) rfl ?_
  refine s_pick (L' := [(0, .ref a0), (1, .int i1)]) [0, 1] rfl ?_
  exact v_X10_layDown_0 d h_a0 h
abbrev yy_X10_value : mm_Y := (yX10_value, cX10_value, 3, (some .boolean))
theorem dX10_value_0 : decode cX10_value 0 = .ok (.aload_n 0, 1) := by decide +kernel
theorem dX10_value_1 : decode cX10_value 1 = .ok (.invokevirtual 111, 3) := by decide +kernel
theorem dX10_value_4 : decode cX10_value 4 = .ok (.pop, 1) := by decide +kernel
theorem dX10_value_5 : decode cX10_value 5 = .ok (.aload_n 0, 1) := by decide +kernel
theorem dX10_value_6 : decode cX10_value 6 = .ok (.getfield 108, 3) := by decide +kernel
theorem dX10_value_9 : decode cX10_value 9 = .ok (.istore_n 1, 1) := by decide +kernel
theorem dX10_value_10 : decode cX10_value 10 = .ok (.aload_n 0, 1) := by decide +kernel
theorem dX10_value_11 : decode cX10_value 11 = .ok (.aload_n 0, 1) := by decide +kernel
theorem dX10_value_12 : decode cX10_value 12 = .ok (.getfield 108, 3) := by decide +kernel
theorem dX10_value_15 : decode cX10_value 15 = .ok (.invokevirtual 126, 3) := by decide +kernel
theorem dX10_value_18 : decode cX10_value 18 = .ok (.ifCond .eq 34, 3) := by decide +kernel
theorem dX10_value_21 : decode cX10_value 21 = .ok (.aload_n 0, 1) := by decide +kernel
theorem dX10_value_22 : decode cX10_value 22 = .ok (.iconst 0, 1) := by decide +kernel
theorem dX10_value_23 : decode cX10_value 23 = .ok (.ldc 186, 2) := by decide +kernel
theorem dX10_value_25 : decode cX10_value 25 = .ok (.invokevirtual 187, 3) := by decide +kernel
theorem dX10_value_28 : decode cX10_value 28 = .ok (.ifCond .eq 11, 3) := by decide +kernel
theorem dX10_value_31 : decode cX10_value 31 = .ok (.aload_n 0, 1) := by decide +kernel
theorem dX10_value_32 : decode cX10_value 32 = .ok (.iload_n 1, 1) := by decide +kernel
theorem dX10_value_33 : decode cX10_value 33 = .ok (.invokevirtual 190, 3) := by decide +kernel
theorem dX10_value_36 : decode cX10_value 36 = .ok (.ifCond .ne 5, 3) := by decide +kernel
theorem dX10_value_39 : decode cX10_value 39 = .ok (.iconst 0, 1) := by decide +kernel
theorem dX10_value_40 : decode cX10_value 40 = .ok (.ireturn, 1) := by decide +kernel
theorem dX10_value_41 : decode cX10_value 41 = .ok (.aload_n 0, 1) := by decide +kernel
theorem dX10_value_42 : decode cX10_value 42 = .ok (.iconst 0, 1) := by decide +kernel
theorem dX10_value_43 : decode cX10_value 43 = .ok (.aload_n 0, 1) := by decide +kernel
theorem dX10_value_44 : decode cX10_value 44 = .ok (.getfield 133, 3) := by decide +kernel
theorem dX10_value_47 : decode cX10_value 47 = .ok (.invokevirtual 182, 3) := by decide +kernel
theorem dX10_value_50 : decode cX10_value 50 = .ok (.iconst 1, 1) := by decide +kernel
theorem dX10_value_51 : decode cX10_value 51 = .ok (.ireturn, 1) := by decide +kernel
theorem dX10_value_52 : decode cX10_value 52 = .ok (.aload_n 0, 1) := by decide +kernel
theorem dX10_value_53 : decode cX10_value 53 = .ok (.invokevirtual 193, 3) := by decide +kernel
theorem dX10_value_56 : decode cX10_value 56 = .ok (.istore_n 2, 1) := by decide +kernel
theorem dX10_value_57 : decode cX10_value 57 = .ok (.iload_n 2, 1) := by decide +kernel
theorem dX10_value_58 : decode cX10_value 58 = .ok (.ifCond .ge 10, 3) := by decide +kernel
theorem dX10_value_61 : decode cX10_value 61 = .ok (.aload_n 0, 1) := by decide +kernel
theorem dX10_value_62 : decode cX10_value 62 = .ok (.iconst 0, 1) := by decide +kernel
theorem dX10_value_63 : decode cX10_value 63 = .ok (.iload_n 1, 1) := by decide +kernel
theorem dX10_value_64 : decode cX10_value 64 = .ok (.invokevirtual 129, 3) := by decide +kernel
theorem dX10_value_67 : decode cX10_value 67 = .ok (.ireturn, 1) := by decide +kernel
theorem dX10_value_68 : decode cX10_value 68 = .ok (.aload_n 0, 1) := by decide +kernel
theorem dX10_value_69 : decode cX10_value 69 = .ok (.iload_n 1, 1) := by decide +kernel
theorem dX10_value_70 : decode cX10_value 70 = .ok (.invokevirtual 190, 3) := by decide +kernel
theorem dX10_value_73 : decode cX10_value 73 = .ok (.ifCond .ne 5, 3) := by decide +kernel
theorem dX10_value_76 : decode cX10_value 76 = .ok (.iconst 0, 1) := by decide +kernel
theorem dX10_value_77 : decode cX10_value 77 = .ok (.ireturn, 1) := by decide +kernel
theorem dX10_value_78 : decode cX10_value 78 = .ok (.aload_n 0, 1) := by decide +kernel
theorem dX10_value_79 : decode cX10_value 79 = .ok (.invokevirtual 123, 3) := by decide +kernel
theorem dX10_value_82 : decode cX10_value 82 = .ok (.aload_n 0, 1) := by decide +kernel
theorem dX10_value_83 : decode cX10_value 83 = .ok (.iconst 1, 1) := by decide +kernel
theorem dX10_value_84 : decode cX10_value 84 = .ok (.iload_n 2, 1) := by decide +kernel
theorem dX10_value_85 : decode cX10_value 85 = .ok (.invokevirtual 182, 3) := by decide +kernel
theorem dX10_value_88 : decode cX10_value 88 = .ok (.iconst 1, 1) := by decide +kernel
theorem dX10_value_89 : decode cX10_value 89 = .ok (.ireturn, 1) := by decide +kernel
def f_X10_value (a0 : Nat) (σ : mm_S) : Option (Int32 × mm_S) :=
    bd (f_X10_see a0 σ) fun r38 σ37 =>
    lt ((σ37.1 a0 8)) fun x39 =>
    bd (f_X10_isDigit a0 (σ37.1 a0 8) σ37) fun r43 σ42 =>
    if r43 = 0 then
      bd (f_X10_wordHere a0 σ42) fun r47 σ46 =>
      if 0 ≤ r47 then
        bd (f_X10_makes a0 x39 σ46) fun r51 σ50 =>
        if r51 = 0 then
          some ((0 : Int32), σ50)
        else
          bv (f_X10_passWord a0 σ50) fun σ54 =>
          bv (f_X10_puts a0 (1 : Int32) r47 σ54) fun σ56 =>
          some ((1 : Int32), σ56)
      else
        bd (f_X10_fails a0 (0 : Int32) x39 σ46) fun r59 σ58 =>
        gb r59 <|
        some (r59, σ58)
    else
      bd (f_X10_numberHere a0 (0 : Int32) (99999 : Int32) σ42) fun r63 σ62 =>
      if r63 = 0 then
        some ((0 : Int32), σ62)
      else
        bd (f_X10_makes a0 x39 σ62) fun r67 σ66 =>
        if r67 = 0 then
          some ((0 : Int32), σ66)
        else
          bv (f_X10_puts a0 (0 : Int32) (σ66.1 a0 10) σ66) fun σ70 =>
          some ((1 : Int32), σ70)
theorem v_X10_value {g : mm_G} (d : Nat) {a0 : Nat} {σ : mm_S} {res : Int32 × mm_S} (h_a0 : (mm_K a0).1 = 10) (h : f_X10_value a0 σ = some res) : SM g (d + 3) yy_X10_value [.ref a0] σ (.int res.1) res.2 := by
  refine s_of (by decide) (Nat.le_of_ble_eq_true rfl) (L := [(0, .ref a0)]) rfl ?_
  unfold f_X10_value at h
  refine e_aload_n 0 dX10_value_0 rfl rfl ?_
  obtain ⟨r38, σ37, q36, h⟩ := bd_some h
  refine s_callVi [] dX10_value_1 ml_RX10_111 h_a0 ⟨_, rfl, by decide⟩ rfl (v_X10_see (d + 2) h_a0 q36) (Nat.le_of_ble_eq_true rfl) ?_
  refine e_pop dX10_value_4 rfl ?_
  refine e_aload_n 0 dX10_value_5 rfl rfl ?_
  refine s_geti dX10_value_6 fl_RX10_108 h_a0 ?_
  obtain ⟨x39, q40, h⟩ := lt_some h
  refine s_nmi q40 ?_
  refine e_istore_n (L' := [(0, .ref a0), (1, .int x39)]) dX10_value_9 rfl (by decide) rfl ?_
  refine e_aload_n 0 dX10_value_10 rfl rfl ?_
  refine e_aload_n 0 dX10_value_11 rfl rfl ?_
  refine s_geti dX10_value_12 fl_RX10_108 h_a0 ?_
  obtain ⟨r43, σ42, q41, h⟩ := bd_some h
  refine s_callVi [.int (σ37.1 a0 8)] dX10_value_15 ml_RX10_126 h_a0 ⟨_, rfl, by decide⟩ rfl (v_X10_isDigit (d + 2) h_a0 q41) (Nat.le_of_ble_eq_true rfl) ?_
  refine e_if_eq 52 dX10_value_18 (by decide) (fun c44 => ?_) (fun c44 => ?_)
  · rw [if_pos c44] at h
    refine e_aload_n 0 dX10_value_52 rfl rfl ?_
    obtain ⟨r47, σ46, q45, h⟩ := bd_some h
    refine s_callVi [] dX10_value_53 ml_RX10_193 h_a0 ⟨_, rfl, by decide⟩ rfl (v_X10_wordHere (d + 0) h_a0 q45) (Nat.le_of_ble_eq_true rfl) ?_
    refine e_istore_n (L' := [(0, .ref a0), (1, .int x39), (2, .int r47)]) dX10_value_56 rfl (by decide) rfl ?_
    refine e_iload_n 2 dX10_value_57 rfl rfl ?_
    refine e_if_ge 68 dX10_value_58 (by decide) (fun c48 => ?_) (fun c48 => ?_)
    · rw [if_pos c48] at h
      refine e_aload_n 0 dX10_value_68 rfl rfl ?_
      refine e_iload_n 1 dX10_value_69 rfl rfl ?_
      obtain ⟨r51, σ50, q49, h⟩ := bd_some h
      refine s_callVi [.int x39] dX10_value_70 ml_RX10_190 h_a0 ⟨_, rfl, by decide⟩ rfl (v_X10_makes (d + 1) h_a0 q49) (Nat.le_of_ble_eq_true rfl) ?_
      refine e_if_ne 78 dX10_value_73 (by decide) (fun c52 => ?_) (fun c52 => ?_)
      · rw [if_neg c52] at h
        refine e_aload_n 0 dX10_value_78 rfl rfl ?_
        obtain ⟨σ54, q53, h⟩ := bv_some h
        refine s_callVv [] dX10_value_79 ml_RX10_123 h_a0 rfl rfl (v_X10_passWord (d + 1) h_a0 q53) (Nat.le_of_ble_eq_true rfl) ?_
        refine e_aload_n 0 dX10_value_82 rfl rfl ?_
        refine e_iconst (v := (1 : Int32)) dX10_value_83 (by decide) ?_
        refine e_iload_n 2 dX10_value_84 rfl rfl ?_
        obtain ⟨σ56, q55, h⟩ := bv_some h
        refine s_callVv [.int (1 : Int32), .int r47] dX10_value_85 ml_RX10_182 h_a0 rfl rfl (v_X10_puts (d + 2) h_a0 q55) (Nat.le_of_ble_eq_true rfl) ?_
        refine e_iconst (v := (1 : Int32)) dX10_value_88 (by decide) ?_
        obtain rfl := Option.some.inj h
        exact s_ret rfl ⟨_, rfl, nb1 (Or.inr rfl)⟩ dX10_value_89
      · rw [if_pos c52] at h
        refine e_iconst (v := (0 : Int32)) dX10_value_76 (by decide) ?_
        obtain rfl := Option.some.inj h
        exact s_ret rfl ⟨_, rfl, nb1 (Or.inl rfl)⟩ dX10_value_77
    · rw [if_neg c48] at h
      refine e_aload_n 0 dX10_value_61 rfl rfl ?_
      refine e_iconst (v := (0 : Int32)) dX10_value_62 (by decide) ?_
      refine e_iload_n 1 dX10_value_63 rfl rfl ?_
      obtain ⟨r59, σ58, q57, h⟩ := bd_some h
      refine s_callVi [.int (0 : Int32), .int x39] dX10_value_64 ml_RX10_129 h_a0 ⟨_, rfl, by decide⟩ rfl (v_X10_fails (d + 2) h_a0 q57) (Nat.le_of_ble_eq_true rfl) ?_
      obtain ⟨q60, h⟩ := gb_some h
      obtain rfl := Option.some.inj h
      exact s_ret rfl ⟨_, rfl, nb1 q60⟩ dX10_value_67
  · rw [if_neg c44] at h
    refine e_aload_n 0 dX10_value_21 rfl rfl ?_
    refine e_iconst (v := (0 : Int32)) dX10_value_22 (by decide) ?_
    refine e_ldc dX10_value_23 co_RX10_186 ?_
    obtain ⟨r63, σ62, q61, h⟩ := bd_some h
    refine s_callVi [.int (0 : Int32), .int (99999 : Int32)] dX10_value_25 ml_RX10_187 h_a0 ⟨_, rfl, by decide⟩ rfl (v_X10_numberHere (d + 1) h_a0 q61) (Nat.le_of_ble_eq_true rfl) ?_
    refine e_if_eq 39 dX10_value_28 (by decide) (fun c64 => ?_) (fun c64 => ?_)
    · rw [if_pos c64] at h
      refine e_iconst (v := (0 : Int32)) dX10_value_39 (by decide) ?_
      obtain rfl := Option.some.inj h
      exact s_ret rfl ⟨_, rfl, nb1 (Or.inl rfl)⟩ dX10_value_40
    · rw [if_neg c64] at h
      refine e_aload_n 0 dX10_value_31 rfl rfl ?_
      refine e_iload_n 1 dX10_value_32 rfl rfl ?_
      obtain ⟨r67, σ66, q65, h⟩ := bd_some h
      refine s_callVi [.int x39] dX10_value_33 ml_RX10_190 h_a0 ⟨_, rfl, by decide⟩ rfl (v_X10_makes (d + 1) h_a0 q65) (Nat.le_of_ble_eq_true rfl) ?_
      refine e_if_ne 41 dX10_value_36 (by decide) (fun c68 => ?_) (fun c68 => ?_)
      · rw [if_neg c68] at h
        refine e_aload_n 0 dX10_value_41 rfl rfl ?_
        refine e_iconst (v := (0 : Int32)) dX10_value_42 (by decide) ?_
        refine e_aload_n 0 dX10_value_43 rfl rfl ?_
        refine s_geti dX10_value_44 fl_RX10_133 h_a0 ?_
        obtain ⟨σ70, q69, h⟩ := bv_some h
        refine s_callVv [.int (0 : Int32), .int (σ66.1 a0 10)] dX10_value_47 ml_RX10_182 h_a0 rfl rfl (v_X10_puts (d + 2) h_a0 q69) (Nat.le_of_ble_eq_true rfl) ?_
        refine e_iconst (v := (1 : Int32)) dX10_value_50 (by decide) ?_
        obtain rfl := Option.some.inj h
        exact s_ret rfl ⟨_, rfl, nb1 (Or.inr rfl)⟩ dX10_value_51
      · rw [if_pos c68] at h
        refine e_iconst (v := (0 : Int32)) dX10_value_39 (by decide) ?_
        obtain rfl := Option.some.inj h
        exact s_ret rfl ⟨_, rfl, nb1 (Or.inl rfl)⟩ dX10_value_40
abbrev yy_X10_term : mm_Y := (yX10_term, cX10_term, 2, (some .boolean))
theorem dX10_term_0 : decode cX10_term 0 = .ok (.aload_n 0, 1) := by decide +kernel
theorem dX10_term_1 : decode cX10_term 1 = .ok (.invokevirtual 196, 3) := by decide +kernel
theorem dX10_term_4 : decode cX10_term 4 = .ok (.ifCond .ne 5, 3) := by decide +kernel
theorem dX10_term_7 : decode cX10_term 7 = .ok (.iconst 0, 1) := by decide +kernel
theorem dX10_term_8 : decode cX10_term 8 = .ok (.ireturn, 1) := by decide +kernel
theorem dX10_term_9 : decode cX10_term 9 = .ok (.aload_n 0, 1) := by decide +kernel
theorem dX10_term_10 : decode cX10_term 10 = .ok (.invokevirtual 111, 3) := by decide +kernel
theorem dX10_term_13 : decode cX10_term 13 = .ok (.bipush 42, 2) := by decide +kernel
theorem dX10_term_15 : decode cX10_term 15 = .ok (.if_icmp .eq 21, 3) := by decide +kernel
theorem dX10_term_18 : decode cX10_term 18 = .ok (.aload_n 0, 1) := by decide +kernel
theorem dX10_term_19 : decode cX10_term 19 = .ok (.invokevirtual 111, 3) := by decide +kernel
theorem dX10_term_22 : decode cX10_term 22 = .ok (.bipush 47, 2) := by decide +kernel
theorem dX10_term_24 : decode cX10_term 24 = .ok (.if_icmp .eq 12, 3) := by decide +kernel
theorem dX10_term_27 : decode cX10_term 27 = .ok (.aload_n 0, 1) := by decide +kernel
theorem dX10_term_28 : decode cX10_term 28 = .ok (.invokevirtual 111, 3) := by decide +kernel
theorem dX10_term_31 : decode cX10_term 31 = .ok (.bipush 37, 2) := by decide +kernel
theorem dX10_term_33 : decode cX10_term 33 = .ok (.if_icmp .ne 70, 3) := by decide +kernel
theorem dX10_term_36 : decode cX10_term 36 = .ok (.aload_n 0, 1) := by decide +kernel
theorem dX10_term_37 : decode cX10_term 37 = .ok (.getfield 7, 3) := by decide +kernel
theorem dX10_term_40 : decode cX10_term 40 = .ok (.aload_n 0, 1) := by decide +kernel
theorem dX10_term_41 : decode cX10_term 41 = .ok (.getfield 108, 3) := by decide +kernel
theorem dX10_term_44 : decode cX10_term 44 = .ok (.baload, 1) := by decide +kernel
theorem dX10_term_45 : decode cX10_term 45 = .ok (.bipush 42, 2) := by decide +kernel
theorem dX10_term_47 : decode cX10_term 47 = .ok (.if_icmp .ne 7, 3) := by decide +kernel
theorem dX10_term_50 : decode cX10_term 50 = .ok (.iconst 4, 1) := by decide +kernel
theorem dX10_term_51 : decode cX10_term 51 = .ok (.goto 23, 3) := by decide +kernel
theorem dX10_term_54 : decode cX10_term 54 = .ok (.aload_n 0, 1) := by decide +kernel
theorem dX10_term_55 : decode cX10_term 55 = .ok (.getfield 7, 3) := by decide +kernel
theorem dX10_term_58 : decode cX10_term 58 = .ok (.aload_n 0, 1) := by decide +kernel
theorem dX10_term_59 : decode cX10_term 59 = .ok (.getfield 108, 3) := by decide +kernel
theorem dX10_term_62 : decode cX10_term 62 = .ok (.baload, 1) := by decide +kernel
theorem dX10_term_63 : decode cX10_term 63 = .ok (.bipush 47, 2) := by decide +kernel
theorem dX10_term_65 : decode cX10_term 65 = .ok (.if_icmp .ne 7, 3) := by decide +kernel
theorem dX10_term_68 : decode cX10_term 68 = .ok (.iconst 5, 1) := by decide +kernel
theorem dX10_term_69 : decode cX10_term 69 = .ok (.goto 5, 3) := by decide +kernel
theorem dX10_term_72 : decode cX10_term 72 = .ok (.bipush 14, 2) := by decide +kernel
theorem dX10_term_74 : decode cX10_term 74 = .ok (.istore_n 1, 1) := by decide +kernel
theorem dX10_term_75 : decode cX10_term 75 = .ok (.aload_n 0, 1) := by decide +kernel
theorem dX10_term_76 : decode cX10_term 76 = .ok (.dup, 1) := by decide +kernel
theorem dX10_term_77 : decode cX10_term 77 = .ok (.getfield 108, 3) := by decide +kernel
theorem dX10_term_80 : decode cX10_term 80 = .ok (.iconst 1, 1) := by decide +kernel
theorem dX10_term_81 : decode cX10_term 81 = .ok (.iadd, 1) := by decide +kernel
theorem dX10_term_82 : decode cX10_term 82 = .ok (.putfield 108, 3) := by decide +kernel
theorem dX10_term_85 : decode cX10_term 85 = .ok (.aload_n 0, 1) := by decide +kernel
theorem dX10_term_86 : decode cX10_term 86 = .ok (.invokevirtual 196, 3) := by decide +kernel
theorem dX10_term_89 : decode cX10_term 89 = .ok (.ifCond .ne 5, 3) := by decide +kernel
theorem dX10_term_92 : decode cX10_term 92 = .ok (.iconst 0, 1) := by decide +kernel
theorem dX10_term_93 : decode cX10_term 93 = .ok (.ireturn, 1) := by decide +kernel
theorem dX10_term_94 : decode cX10_term 94 = .ok (.aload_n 0, 1) := by decide +kernel
theorem dX10_term_95 : decode cX10_term 95 = .ok (.iload_n 1, 1) := by decide +kernel
theorem dX10_term_96 : decode cX10_term 96 = .ok (.iconst 0, 1) := by decide +kernel
theorem dX10_term_97 : decode cX10_term 97 = .ok (.invokevirtual 182, 3) := by decide +kernel
theorem dX10_term_100 : decode cX10_term 100 = .ok (.goto (-91), 3) := by decide +kernel
theorem dX10_term_103 : decode cX10_term 103 = .ok (.iconst 1, 1) := by decide +kernel
theorem dX10_term_104 : decode cX10_term 104 = .ok (.ireturn, 1) := by decide +kernel
def f_X10_term_74 (k9 : (Unit) → mm_S → Option (Int32 × mm_S)) (a0 : Nat) (s0 : Int32) (σ : mm_S) : Option (Int32 × mm_S) :=
    lt (su_i σ a0 8 ((σ.1 a0 8) + (1 : Int32))) fun σ1 =>
    bd (f_X10_value a0 σ1) fun r5 σ4 =>
    if r5 = 0 then
      some ((0 : Int32), σ4)
    else
      bv (f_X10_puts a0 s0 (0 : Int32) σ4) fun σ8 =>
      k9 () σ8
theorem v_X10_term_74 {g : mm_G} (d : Nat) {k9 : (Unit) → mm_S → Option (Int32 × mm_S)} {a0 : Nat} {s0 : Int32} {σ : mm_S} {res : Int32 × mm_S} (H9 : ∀ v σ, k9 v σ = some res → SV g (d + 4) yy_X10_term 9 [(0, .ref a0)] [] σ (.int res.1) res.2) (h_a0 : (mm_K a0).1 = 10) (h : f_X10_term_74 k9 a0 s0 σ = some res) : SV g (d + 4) yy_X10_term 74 [(0, .ref a0)] [.int s0] σ (.int res.1) res.2 := by
  unfold f_X10_term_74 at h
  refine e_istore_n (L' := [(0, .ref a0), (1, .int s0)]) dX10_term_74 rfl (by decide) rfl ?_
  refine e_aload_n 0 dX10_term_75 rfl rfl ?_
  refine e_dup dX10_term_76 rfl ?_
  refine s_geti dX10_term_77 fl_RX10_108 h_a0 ?_
  refine e_iconst (v := (1 : Int32)) dX10_term_80 (by decide) ?_
  refine e_iadd dX10_term_81 ?_
  refine s_puti dX10_term_82 fl_RX10_108 h_a0 rfl rfl rfl ?_
  obtain ⟨σ1, q2, h⟩ := lt_some h
  refine s_nms q2 ?_
  refine e_aload_n 0 dX10_term_85 rfl rfl ?_
  obtain ⟨r5, σ4, q3, h⟩ := bd_some h
  refine s_callVi [] dX10_term_86 ml_RX10_196 h_a0 ⟨_, rfl, by decide⟩ rfl (v_X10_value (d + 0) h_a0 q3) (Nat.le_of_ble_eq_true rfl) ?_
  refine e_if_ne 94 dX10_term_89 (by decide) (fun c6 => ?_) (fun c6 => ?_)
  · rw [if_neg c6] at h
    refine e_aload_n 0 dX10_term_94 rfl rfl ?_
    refine e_iload_n 1 dX10_term_95 rfl rfl ?_
    refine e_iconst (v := (0 : Int32)) dX10_term_96 (by decide) ?_
    obtain ⟨σ8, q7, h⟩ := bv_some h
    refine s_callVv [.int s0, .int (0 : Int32)] dX10_term_97 ml_RX10_182 h_a0 rfl rfl (v_X10_puts (d + 3) h_a0 q7) (Nat.le_of_ble_eq_true rfl) ?_
    refine e_goto 9 dX10_term_100 (by decide) ?_
    refine s_pick (L' := [(0, .ref a0)]) [0] rfl ?_
    exact H9 () σ8 h
  · rw [if_pos c6] at h
    refine e_iconst (v := (0 : Int32)) dX10_term_92 (by decide) ?_
    obtain rfl := Option.some.inj h
    exact s_ret rfl ⟨_, rfl, nb1 (Or.inl rfl)⟩ dX10_term_93
def f_X10_term_36 (k9 : (Unit) → mm_S → Option (Int32 × mm_S)) (a0 : Nat) (σ : mm_S) : Option (Int32 × mm_S) :=
    gd (σ.1 a0 8) 400 <|
    if (σ.1 215 (σ.1 a0 8).toNatClampNeg) = (42 : Int32) then
      f_X10_term_74 k9 a0 (4 : Int32) σ
    else
      gd (σ.1 a0 8) 400 <|
      if (σ.1 215 (σ.1 a0 8).toNatClampNeg) = (47 : Int32) then
        f_X10_term_74 k9 a0 (5 : Int32) σ
      else
        f_X10_term_74 k9 a0 (14 : Int32) σ
theorem v_X10_term_36 {g : mm_G} (d : Nat) {k9 : (Unit) → mm_S → Option (Int32 × mm_S)} {a0 : Nat} {σ : mm_S} {res : Int32 × mm_S} (H9 : ∀ v σ, k9 v σ = some res → SV g (d + 4) yy_X10_term 9 [(0, .ref a0)] [] σ (.int res.1) res.2) (h_a0 : (mm_K a0).1 = 10) (h : f_X10_term_36 k9 a0 σ = some res) : SV g (d + 4) yy_X10_term 36 [(0, .ref a0)] [] σ (.int res.1) res.2 := by
  unfold f_X10_term_36 at h
  refine e_aload_n 0 dX10_term_36 rfl rfl ?_
  refine s_getr dX10_term_37 fl_RX10_7 h_a0 (r_10_0 h_a0).1 ?_
  refine e_aload_n 0 dX10_term_40 rfl rfl ?_
  refine s_geti dX10_term_41 fl_RX10_108 h_a0 ?_
  obtain ⟨q9, h⟩ := gd_some h
  refine s_bald dX10_term_44 (r_10_0 (w := 0) h_a0).2 q9 ?_
  refine e_bipush (v := (42 : Int32)) dX10_term_45 (by decide) ?_
  refine e_icmp_ne 54 dX10_term_47 (by decide) (fun c10 => ?_) (fun c10 => ?_)
  · rw [if_neg c10] at h
    refine e_aload_n 0 dX10_term_54 rfl rfl ?_
    refine s_getr dX10_term_55 fl_RX10_7 h_a0 (r_10_0 h_a0).1 ?_
    refine e_aload_n 0 dX10_term_58 rfl rfl ?_
    refine s_geti dX10_term_59 fl_RX10_108 h_a0 ?_
    obtain ⟨q11, h⟩ := gd_some h
    refine s_bald dX10_term_62 (r_10_0 (w := 0) h_a0).2 q11 ?_
    refine e_bipush (v := (47 : Int32)) dX10_term_63 (by decide) ?_
    refine e_icmp_ne 72 dX10_term_65 (by decide) (fun c12 => ?_) (fun c12 => ?_)
    · rw [if_neg c12] at h
      refine e_bipush (v := (14 : Int32)) dX10_term_72 (by decide) ?_
      refine s_pick (L' := [(0, .ref a0)]) [0] rfl ?_
      exact v_X10_term_74 d H9 h_a0 h
    · rw [if_pos c12] at h
      refine e_iconst (v := (5 : Int32)) dX10_term_68 (by decide) ?_
      refine e_goto 74 dX10_term_69 (by decide) ?_
      refine s_pick (L' := [(0, .ref a0)]) [0] rfl ?_
      exact v_X10_term_74 d H9 h_a0 h
  · rw [if_pos c10] at h
    refine e_iconst (v := (4 : Int32)) dX10_term_50 (by decide) ?_
    refine e_goto 74 dX10_term_51 (by decide) ?_
    refine s_pick (L' := [(0, .ref a0)]) [0] rfl ?_
    exact v_X10_term_74 d H9 h_a0 h
def f_X10_term_9 (a0 : Nat) (σ : mm_S) : Option (Int32 × mm_S) :=
  lp lpN (fun (k9 : (Unit) → mm_S → Option (Int32 × mm_S)) (v : Unit) (σ : mm_S) =>
    bd (f_X10_see a0 σ) fun r15 σ14 =>
    if r15 = (42 : Int32) then
      f_X10_term_36 k9 a0 σ14
    else
      bd (f_X10_see a0 σ14) fun r19 σ18 =>
      if r19 = (47 : Int32) then
        f_X10_term_36 k9 a0 σ18
      else
        bd (f_X10_see a0 σ18) fun r23 σ22 =>
        if r23 = (37 : Int32) then
          f_X10_term_36 k9 a0 σ22
        else
          some ((1 : Int32), σ22)) () σ
theorem v_X10_term_9 {g : mm_G} (d : Nat) {a0 : Nat} {σ : mm_S} {res : Int32 × mm_S}  (h_a0 : (mm_K a0).1 = 10) (h : f_X10_term_9 a0 σ = some res) : SV g (d + 4) yy_X10_term 9 [(0, .ref a0)] [] σ (.int res.1) res.2 := by
  unfold f_X10_term_9 at h
  refine lp_ind (P := fun v σ => SV g (d + 4) yy_X10_term 9 [(0, .ref a0)] [] σ (.int res.1) res.2) (fun k9 H9 v σ h => ?_) _ () σ h
  refine e_aload_n 0 dX10_term_9 rfl rfl ?_
  obtain ⟨r15, σ14, q13, h⟩ := bd_some h
  refine s_callVi [] dX10_term_10 ml_RX10_111 h_a0 ⟨_, rfl, by decide⟩ rfl (v_X10_see (d + 3) h_a0 q13) (Nat.le_of_ble_eq_true rfl) ?_
  refine e_bipush (v := (42 : Int32)) dX10_term_13 (by decide) ?_
  refine e_icmp_eq 36 dX10_term_15 (by decide) (fun c16 => ?_) (fun c16 => ?_)
  · rw [if_pos c16] at h
    refine s_pick (L' := [(0, .ref a0)]) [0] rfl ?_
    exact v_X10_term_36 d H9 h_a0 h
  · rw [if_neg c16] at h
    refine e_aload_n 0 dX10_term_18 rfl rfl ?_
    obtain ⟨r19, σ18, q17, h⟩ := bd_some h
    refine s_callVi [] dX10_term_19 ml_RX10_111 h_a0 ⟨_, rfl, by decide⟩ rfl (v_X10_see (d + 3) h_a0 q17) (Nat.le_of_ble_eq_true rfl) ?_
    refine e_bipush (v := (47 : Int32)) dX10_term_22 (by decide) ?_
    refine e_icmp_eq 36 dX10_term_24 (by decide) (fun c20 => ?_) (fun c20 => ?_)
    · rw [if_pos c20] at h
      refine s_pick (L' := [(0, .ref a0)]) [0] rfl ?_
      exact v_X10_term_36 d H9 h_a0 h
    · rw [if_neg c20] at h
      refine e_aload_n 0 dX10_term_27 rfl rfl ?_
      obtain ⟨r23, σ22, q21, h⟩ := bd_some h
      refine s_callVi [] dX10_term_28 ml_RX10_111 h_a0 ⟨_, rfl, by decide⟩ rfl (v_X10_see (d + 3) h_a0 q21) (Nat.le_of_ble_eq_true rfl) ?_
      refine e_bipush (v := (37 : Int32)) dX10_term_31 (by decide) ?_
      refine e_icmp_ne 103 dX10_term_33 (by decide) (fun c24 => ?_) (fun c24 => ?_)
      · rw [if_neg c24] at h
        refine e_iconst (v := (1 : Int32)) dX10_term_103 (by decide) ?_
        obtain rfl := Option.some.inj h
        exact s_ret rfl ⟨_, rfl, nb1 (Or.inr rfl)⟩ dX10_term_104
      · rw [if_pos c24] at h
        refine s_pick (L' := [(0, .ref a0)]) [0] rfl ?_
        exact v_X10_term_36 d H9 h_a0 h
def f_X10_term (a0 : Nat) (σ : mm_S) : Option (Int32 × mm_S) :=
    bd (f_X10_value a0 σ) fun r31 σ30 =>
    if r31 = 0 then
      some ((0 : Int32), σ30)
    else
      f_X10_term_9 a0 σ30
theorem v_X10_term {g : mm_G} (d : Nat) {a0 : Nat} {σ : mm_S} {res : Int32 × mm_S} (h_a0 : (mm_K a0).1 = 10) (h : f_X10_term a0 σ = some res) : SM g (d + 4) yy_X10_term [.ref a0] σ (.int res.1) res.2 := by
  refine s_of (by decide) (Nat.le_of_ble_eq_true rfl) (L := [(0, .ref a0)]) rfl ?_
  unfold f_X10_term at h
  refine e_aload_n 0 dX10_term_0 rfl rfl ?_
  obtain ⟨r31, σ30, q29, h⟩ := bd_some h
  refine s_callVi [] dX10_term_1 ml_RX10_196 h_a0 ⟨_, rfl, by decide⟩ rfl (v_X10_value (d + 0) h_a0 q29) (Nat.le_of_ble_eq_true rfl) ?_
  refine e_if_ne 9 dX10_term_4 (by decide) (fun c32 => ?_) (fun c32 => ?_)
  · rw [if_neg c32] at h
    refine s_pick (L' := [(0, .ref a0)]) [0] rfl ?_
    exact v_X10_term_9 d h_a0 h
  · rw [if_pos c32] at h
    refine e_iconst (v := (0 : Int32)) dX10_term_7 (by decide) ?_
    obtain rfl := Option.some.inj h
    exact s_ret rfl ⟨_, rfl, nb1 (Or.inl rfl)⟩ dX10_term_8
