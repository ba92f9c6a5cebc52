abbrev yy_X10_pays : mm_Y := (yX10_pays, cX10_pays, 3, none)
theorem dX10_pays_0 : decode cX10_pays 0 = .ok (.iconst 0, 1) := by decide +kernel
theorem dX10_pays_1 : decode cX10_pays 1 = .ok (.istore_n 2, 1) := by decide +kernel
theorem dX10_pays_2 : decode cX10_pays 2 = .ok (.iload_n 2, 1) := by decide +kernel
theorem dX10_pays_3 : decode cX10_pays 3 = .ok (.aload_n 0, 1) := by decide +kernel
theorem dX10_pays_4 : decode cX10_pays 4 = .ok (.getfield 39, 3) := by decide +kernel
theorem dX10_pays_7 : decode cX10_pays 7 = .ok (.iconst 3, 1) := by decide +kernel
theorem dX10_pays_8 : decode cX10_pays 8 = .ok (.iaload, 1) := by decide +kernel
theorem dX10_pays_9 : decode cX10_pays 9 = .ok (.if_icmp .ge 18, 3) := by decide +kernel
theorem dX10_pays_12 : decode cX10_pays 12 = .ok (.aload_n 0, 1) := by decide +kernel
theorem dX10_pays_13 : decode cX10_pays 13 = .ok (.iload_n 2, 1) := by decide +kernel
theorem dX10_pays_14 : decode cX10_pays 14 = .ok (.invokevirtual 305, 3) := by decide +kernel
theorem dX10_pays_17 : decode cX10_pays 17 = .ok (.iload_n 1, 1) := by decide +kernel
theorem dX10_pays_18 : decode cX10_pays 18 = .ok (.if_icmp .eq 9, 3) := by decide +kernel
theorem dX10_pays_21 : decode cX10_pays 21 = .ok (.iinc 2 1, 3) := by decide +kernel
theorem dX10_pays_24 : decode cX10_pays 24 = .ok (.goto (-22), 3) := by decide +kernel
theorem dX10_pays_27 : decode cX10_pays 27 = .ok (.iload_n 2, 1) := by decide +kernel
theorem dX10_pays_28 : decode cX10_pays 28 = .ok (.aload_n 0, 1) := by decide +kernel
theorem dX10_pays_29 : decode cX10_pays 29 = .ok (.getfield 39, 3) := by decide +kernel
theorem dX10_pays_32 : decode cX10_pays 32 = .ok (.iconst 3, 1) := by decide +kernel
theorem dX10_pays_33 : decode cX10_pays 33 = .ok (.iaload, 1) := by decide +kernel
theorem dX10_pays_34 : decode cX10_pays 34 = .ok (.if_icmp .ne 4, 3) := by decide +kernel
theorem dX10_pays_37 : decode cX10_pays 37 = .ok (.return_, 1) := by decide +kernel
theorem dX10_pays_38 : decode cX10_pays 38 = .ok (.aload_n 0, 1) := by decide +kernel
theorem dX10_pays_39 : decode cX10_pays 39 = .ok (.getfield 39, 3) := by decide +kernel
theorem dX10_pays_42 : decode cX10_pays 42 = .ok (.bipush 11, 2) := by decide +kernel
theorem dX10_pays_44 : decode cX10_pays 44 = .ok (.iconst 5, 1) := by decide +kernel
theorem dX10_pays_45 : decode cX10_pays 45 = .ok (.iload_n 1, 1) := by decide +kernel
theorem dX10_pays_46 : decode cX10_pays 46 = .ok (.imul, 1) := by decide +kernel
theorem dX10_pays_47 : decode cX10_pays 47 = .ok (.iadd, 1) := by decide +kernel
theorem dX10_pays_48 : decode cX10_pays 48 = .ok (.iconst 1, 1) := by decide +kernel
theorem dX10_pays_49 : decode cX10_pays 49 = .ok (.iadd, 1) := by decide +kernel
theorem dX10_pays_50 : decode cX10_pays 50 = .ok (.dup2, 1) := by decide +kernel
theorem dX10_pays_51 : decode cX10_pays 51 = .ok (.iaload, 1) := by decide +kernel
theorem dX10_pays_52 : decode cX10_pays 52 = .ok (.iconst 1, 1) := by decide +kernel
theorem dX10_pays_53 : decode cX10_pays 53 = .ok (.isub, 1) := by decide +kernel
theorem dX10_pays_54 : decode cX10_pays 54 = .ok (.iastore, 1) := by decide +kernel
theorem dX10_pays_55 : decode cX10_pays 55 = .ok (.aload_n 0, 1) := by decide +kernel
theorem dX10_pays_56 : decode cX10_pays 56 = .ok (.iload_n 2, 1) := by decide +kernel
theorem dX10_pays_57 : decode cX10_pays 57 = .ok (.invokevirtual 332, 3) := by decide +kernel
theorem dX10_pays_60 : decode cX10_pays 60 = .ok (.sipush 999, 3) := by decide +kernel
theorem dX10_pays_63 : decode cX10_pays 63 = .ok (.if_icmp .ge 20, 3) := by decide +kernel
theorem dX10_pays_66 : decode cX10_pays 66 = .ok (.aload_n 0, 1) := by decide +kernel
theorem dX10_pays_67 : decode cX10_pays 67 = .ok (.getfield 39, 3) := by decide +kernel
theorem dX10_pays_70 : decode cX10_pays 70 = .ok (.bipush 11, 2) := by decide +kernel
theorem dX10_pays_72 : decode cX10_pays 72 = .ok (.iconst 5, 1) := by decide +kernel
theorem dX10_pays_73 : decode cX10_pays 73 = .ok (.iload_n 2, 1) := by decide +kernel
theorem dX10_pays_74 : decode cX10_pays 74 = .ok (.imul, 1) := by decide +kernel
theorem dX10_pays_75 : decode cX10_pays 75 = .ok (.iadd, 1) := by decide +kernel
theorem dX10_pays_76 : decode cX10_pays 76 = .ok (.iconst 1, 1) := by decide +kernel
theorem dX10_pays_77 : decode cX10_pays 77 = .ok (.iadd, 1) := by decide +kernel
theorem dX10_pays_78 : decode cX10_pays 78 = .ok (.dup2, 1) := by decide +kernel
theorem dX10_pays_79 : decode cX10_pays 79 = .ok (.iaload, 1) := by decide +kernel
theorem dX10_pays_80 : decode cX10_pays 80 = .ok (.iconst 1, 1) := by decide +kernel
theorem dX10_pays_81 : decode cX10_pays 81 = .ok (.iadd, 1) := by decide +kernel
theorem dX10_pays_82 : decode cX10_pays 82 = .ok (.iastore, 1) := by decide +kernel
theorem dX10_pays_83 : decode cX10_pays 83 = .ok (.return_, 1) := by decide +kernel
def f_X10_pays_27 (a0 : Nat) (i1 : Int32) (i2 : Int32) (σ : mm_S) : Option (mm_S) :=
    gd (3 : Int32) 121 <|
    if i2 = (σ.1 224 (3 : Int32).toNatClampNeg) then
      some σ
    else
      gd (((11 : Int32) + ((5 : Int32) * i1)) + (1 : Int32)) 121 <|
      gd (((11 : Int32) + ((5 : Int32) * i1)) + (1 : Int32)) 121 <|
      lt (su_i σ 224 (((11 : Int32) + ((5 : Int32) * i1)) + (1 : Int32)).toNatClampNeg ((σ.1 224 (((11 : Int32) + ((5 : Int32) * i1)) + (1 : Int32)).toNatClampNeg) - (1 : Int32))) fun σ5 =>
      bd (f_X10_penceOf a0 i2 σ5) fun r9 σ8 =>
      if (999 : Int32) ≤ r9 then
        some σ8
      else
        gd (((11 : Int32) + ((5 : Int32) * i2)) + (1 : Int32)) 121 <|
        gd (((11 : Int32) + ((5 : Int32) * i2)) + (1 : Int32)) 121 <|
        lt (su_i σ8 224 (((11 : Int32) + ((5 : Int32) * i2)) + (1 : Int32)).toNatClampNeg ((σ8.1 224 (((11 : Int32) + ((5 : Int32) * i2)) + (1 : Int32)).toNatClampNeg) + (1 : Int32))) fun σ13 =>
        some σ13
theorem v_X10_pays_27 {g : mm_G} (d : Nat) {a0 : Nat} {i1 : Int32} {i2 : Int32} {σ : mm_S} {res : mm_S}  (h_a0 : (mm_K a0).1 = 10) (h : f_X10_pays_27 a0 i1 i2 σ = some res) : SV g (d + 1) yy_X10_pays 27 [(0, .ref a0), (1, .int i1), (2, .int i2)] [] σ .null res := by
  unfold f_X10_pays_27 at h
  refine e_iload_n 2 dX10_pays_27 rfl rfl ?_
  refine e_aload_n 0 dX10_pays_28 rfl rfl ?_
  refine s_getr dX10_pays_29 fl_RX10_39 h_a0 (r_10_20 h_a0).1 ?_
  refine e_iconst (v := (3 : Int32)) dX10_pays_32 (by decide) ?_
  obtain ⟨q1, h⟩ := gd_some h
  refine s_iald dX10_pays_33 (r_10_20 (w := 0) h_a0).2 q1 ?_
  refine e_icmp_ne 38 dX10_pays_34 (by decide) (fun c2 => ?_) (fun c2 => ?_)
  · rw [if_neg c2] at h
    refine e_aload_n 0 dX10_pays_38 rfl rfl ?_
    refine s_getr dX10_pays_39 fl_RX10_39 h_a0 (r_10_20 h_a0).1 ?_
    refine e_bipush (v := (11 : Int32)) dX10_pays_42 (by decide) ?_
    refine e_iconst (v := (5 : Int32)) dX10_pays_44 (by decide) ?_
    refine e_iload_n 1 dX10_pays_45 rfl rfl ?_
    refine e_imul dX10_pays_46 ?_
    refine e_iadd dX10_pays_47 ?_
    refine e_iconst (v := (1 : Int32)) dX10_pays_48 (by decide) ?_
    refine e_iadd dX10_pays_49 ?_
    refine e_dup2 dX10_pays_50 rfl rfl ?_
    obtain ⟨q3, h⟩ := gd_some h
    refine s_iald dX10_pays_51 (r_10_20 (w := 0) h_a0).2 q3 ?_
    refine e_iconst (v := (1 : Int32)) dX10_pays_52 (by decide) ?_
    refine e_isub dX10_pays_53 ?_
    obtain ⟨q4, h⟩ := gd_some h
    refine s_iast dX10_pays_54 (r_10_20 (w := 0) h_a0).2 q4 ?_
    obtain ⟨σ5, q6, h⟩ := lt_some h
    refine s_nms q6 ?_
    refine e_aload_n 0 dX10_pays_55 rfl rfl ?_
    refine e_iload_n 2 dX10_pays_56 rfl rfl ?_
    obtain ⟨r9, σ8, q7, h⟩ := bd_some h
    refine s_callVi [.int i2] dX10_pays_57 ml_RX10_332 h_a0 ⟨_, rfl, by decide⟩ rfl (v_X10_penceOf (d + 0) h_a0 q7) (Nat.le_of_ble_eq_true rfl) ?_
    refine e_sipush (v := (999 : Int32)) dX10_pays_60 (by decide) ?_
    refine e_icmp_ge 83 dX10_pays_63 (by decide) (fun c10 => ?_) (fun c10 => ?_)
    · rw [if_pos c10] at h
      obtain rfl := Option.some.inj h
      exact s_ret rfl rfl dX10_pays_83
    · rw [if_neg c10] at h
      refine e_aload_n 0 dX10_pays_66 rfl rfl ?_
      refine s_getr dX10_pays_67 fl_RX10_39 h_a0 (r_10_20 h_a0).1 ?_
      refine e_bipush (v := (11 : Int32)) dX10_pays_70 (by decide) ?_
      refine e_iconst (v := (5 : Int32)) dX10_pays_72 (by decide) ?_
      refine e_iload_n 2 dX10_pays_73 rfl rfl ?_
      refine e_imul dX10_pays_74 ?_
      refine e_iadd dX10_pays_75 ?_
      refine e_iconst (v := (1 : Int32)) dX10_pays_76 (by decide) ?_
      refine e_iadd dX10_pays_77 ?_
      refine e_dup2 dX10_pays_78 rfl rfl ?_
      obtain ⟨q11, h⟩ := gd_some h
      refine s_iald dX10_pays_79 (r_10_20 (w := 0) h_a0).2 q11 ?_
      refine e_iconst (v := (1 : Int32)) dX10_pays_80 (by decide) ?_
      refine e_iadd dX10_pays_81 ?_
      obtain ⟨q12, h⟩ := gd_some h
      refine s_iast dX10_pays_82 (r_10_20 (w := 0) h_a0).2 q12 ?_
      obtain ⟨σ13, q14, h⟩ := lt_some h
      refine s_nms q14 ?_
      obtain rfl := Option.some.inj h
      exact s_ret rfl rfl dX10_pays_83
  · rw [if_pos c2] at h
    obtain rfl := Option.some.inj h
    exact s_ret rfl rfl dX10_pays_37
def f_X10_pays_2 (a0 : Nat) (i1 : Int32) (i2 : Int32) (σ : mm_S) : Option (mm_S) :=
  lp lpN (fun (k2 : (Int32) → mm_S → Option (mm_S)) (v : Int32) (σ : mm_S) =>
    gd (3 : Int32) 121 <|
    if (σ.1 224 (3 : Int32).toNatClampNeg) ≤ v then
      f_X10_pays_27 a0 i1 v σ
    else
      bd (f_X10_soughtBy a0 v σ) fun r19 σ18 =>
      if r19 = i1 then
        f_X10_pays_27 a0 i1 v σ18
      else
        lt (v + Int32.ofInt (1)) fun x21 =>
        k2 x21 σ18) i2 σ
theorem v_X10_pays_2 {g : mm_G} (d : Nat) {a0 : Nat} {i1 : Int32} {i2 : Int32} {σ : mm_S} {res : mm_S}  (h_a0 : (mm_K a0).1 = 10) (h : f_X10_pays_2 a0 i1 i2 σ = some res) : SV g (d + 1) yy_X10_pays 2 [(0, .ref a0), (1, .int i1), (2, .int i2)] [] σ .null res := by
  unfold f_X10_pays_2 at h
  refine lp_ind (P := fun v σ => SV g (d + 1) yy_X10_pays 2 [(0, .ref a0), (1, .int i1), (2, .int v)] [] σ .null res) (fun k2 H2 v σ h => ?_) _ i2 σ h
  refine e_iload_n 2 dX10_pays_2 rfl rfl ?_
  refine e_aload_n 0 dX10_pays_3 rfl rfl ?_
  refine s_getr dX10_pays_4 fl_RX10_39 h_a0 (r_10_20 h_a0).1 ?_
  refine e_iconst (v := (3 : Int32)) dX10_pays_7 (by decide) ?_
  obtain ⟨q15, h⟩ := gd_some h
  refine s_iald dX10_pays_8 (r_10_20 (w := 0) h_a0).2 q15 ?_
  refine e_icmp_ge 27 dX10_pays_9 (by decide) (fun c16 => ?_) (fun c16 => ?_)
  · rw [if_pos c16] at h
    refine s_pick (L' := [(0, .ref a0), (1, .int i1), (2, .int v)]) [0, 1, 2] rfl ?_
    exact v_X10_pays_27 d h_a0 h
  · rw [if_neg c16] at h
    refine e_aload_n 0 dX10_pays_12 rfl rfl ?_
    refine e_iload_n 2 dX10_pays_13 rfl rfl ?_
    obtain ⟨r19, σ18, q17, h⟩ := bd_some h
    refine s_callVi [.int v] dX10_pays_14 ml_RX10_305 h_a0 ⟨_, rfl, by decide⟩ rfl (v_X10_soughtBy (d + 0) h_a0 q17) (Nat.le_of_ble_eq_true rfl) ?_
    refine e_iload_n 1 dX10_pays_17 rfl rfl ?_
    refine e_icmp_eq 27 dX10_pays_18 (by decide) (fun c20 => ?_) (fun c20 => ?_)
    · rw [if_pos c20] at h
      refine s_pick (L' := [(0, .ref a0), (1, .int i1), (2, .int v)]) [0, 1, 2] rfl ?_
      exact v_X10_pays_27 d h_a0 h
    · rw [if_neg c20] at h
      obtain ⟨x21, q22, h⟩ := lt_some h
      refine e_iinc (v := x21) (L' := [(0, .ref a0), (1, .int i1), (2, .int x21)]) 2 dX10_pays_21 rfl q22.symm (by decide) rfl ?_
      refine e_goto 2 dX10_pays_24 (by decide) ?_
      refine s_pick (L' := [(0, .ref a0), (1, .int i1), (2, .int x21)]) [0, 1, 2] rfl ?_
      exact H2 x21 σ18 h
def f_X10_pays (a0 : Nat) (i1 : Int32) (σ : mm_S) : Option (mm_S) :=
    f_X10_pays_2 a0 i1 (0 : Int32) σ
theorem v_X10_pays {g : mm_G} (d : Nat) {a0 : Nat} {i1 : Int32} {σ : mm_S} {res : mm_S} (h_a0 : (mm_K a0).1 = 10) (h : f_X10_pays a0 i1 σ = some res) : SM g (d + 1) yy_X10_pays [.ref a0, .int i1] σ .null res := by
  refine s_of (by decide) (Nat.le_of_ble_eq_true rfl) (L := [(0, .ref a0), (1, .int i1)]) rfl ?_
  unfold f_X10_pays at h
  refine e_iconst (v := (0 : Int32)) dX10_pays_0 (by decide) ?_
  refine e_istore_n (L' := [(0, .ref a0), (1, .int i1), (2, .int (0 : Int32))]) dX10_pays_1 rfl (by decide) rfl ?_
  refine s_pick (L' := [(0, .ref a0), (1, .int i1), (2, .int (0 : Int32))]) [0, 1, 2] rfl ?_
  exact v_X10_pays_2 d h_a0 h
abbrev yy_X10_passes : mm_Y := (yX10_passes, cX10_passes, 2, (some .int))
theorem dX10_passes_0 : decode cX10_passes 0 = .ok (.aload_n 0, 1) := by decide +kernel
theorem dX10_passes_1 : decode cX10_passes 1 = .ok (.invokevirtual 364, 3) := by decide +kernel
theorem dX10_passes_4 : decode cX10_passes 4 = .ok (.aload_n 0, 1) := by decide +kernel
theorem dX10_passes_5 : decode cX10_passes 5 = .ok (.invokevirtual 367, 3) := by decide +kernel
theorem dX10_passes_8 : decode cX10_passes 8 = .ok (.aload_n 0, 1) := by decide +kernel
theorem dX10_passes_9 : decode cX10_passes 9 = .ok (.invokevirtual 370, 3) := by decide +kernel
theorem dX10_passes_12 : decode cX10_passes 12 = .ok (.iconst 0, 1) := by decide +kernel
theorem dX10_passes_13 : decode cX10_passes 13 = .ok (.istore_n 1, 1) := by decide +kernel
theorem dX10_passes_14 : decode cX10_passes 14 = .ok (.iload_n 1, 1) := by decide +kernel
theorem dX10_passes_15 : decode cX10_passes 15 = .ok (.aload_n 0, 1) := by decide +kernel
theorem dX10_passes_16 : decode cX10_passes 16 = .ok (.getfield 39, 3) := by decide +kernel
theorem dX10_passes_19 : decode cX10_passes 19 = .ok (.iconst 3, 1) := by decide +kernel
theorem dX10_passes_20 : decode cX10_passes 20 = .ok (.iaload, 1) := by decide +kernel
theorem dX10_passes_21 : decode cX10_passes 21 = .ok (.if_icmp .ge 30, 3) := by decide +kernel
theorem dX10_passes_24 : decode cX10_passes 24 = .ok (.aload_n 0, 1) := by decide +kernel
theorem dX10_passes_25 : decode cX10_passes 25 = .ok (.iload_n 1, 1) := by decide +kernel
theorem dX10_passes_26 : decode cX10_passes 26 = .ok (.invokevirtual 302, 3) := by decide +kernel
theorem dX10_passes_29 : decode cX10_passes 29 = .ok (.ifCond .eq 16, 3) := by decide +kernel
theorem dX10_passes_32 : decode cX10_passes 32 = .ok (.aload_n 0, 1) := by decide +kernel
theorem dX10_passes_33 : decode cX10_passes 33 = .ok (.iload_n 1, 1) := by decide +kernel
theorem dX10_passes_34 : decode cX10_passes 34 = .ok (.invokevirtual 332, 3) := by decide +kernel
theorem dX10_passes_37 : decode cX10_passes 37 = .ok (.ifCond .le 8, 3) := by decide +kernel
theorem dX10_passes_40 : decode cX10_passes 40 = .ok (.aload_n 0, 1) := by decide +kernel
theorem dX10_passes_41 : decode cX10_passes 41 = .ok (.iload_n 1, 1) := by decide +kernel
theorem dX10_passes_42 : decode cX10_passes 42 = .ok (.invokevirtual 373, 3) := by decide +kernel
theorem dX10_passes_45 : decode cX10_passes 45 = .ok (.iinc 1 1, 3) := by decide +kernel
theorem dX10_passes_48 : decode cX10_passes 48 = .ok (.goto (-34), 3) := by decide +kernel
theorem dX10_passes_51 : decode cX10_passes 51 = .ok (.aload_n 0, 1) := by decide +kernel
theorem dX10_passes_52 : decode cX10_passes 52 = .ok (.iconst (-1), 1) := by decide +kernel
theorem dX10_passes_53 : decode cX10_passes 53 = .ok (.putfield 49, 3) := by decide +kernel
theorem dX10_passes_56 : decode cX10_passes 56 = .ok (.aload_n 0, 1) := by decide +kernel
theorem dX10_passes_57 : decode cX10_passes 57 = .ok (.getfield 39, 3) := by decide +kernel
theorem dX10_passes_60 : decode cX10_passes 60 = .ok (.bipush 10, 2) := by decide +kernel
theorem dX10_passes_62 : decode cX10_passes 62 = .ok (.dup2, 1) := by decide +kernel
theorem dX10_passes_63 : decode cX10_passes 63 = .ok (.iaload, 1) := by decide +kernel
theorem dX10_passes_64 : decode cX10_passes 64 = .ok (.iconst 1, 1) := by decide +kernel
theorem dX10_passes_65 : decode cX10_passes 65 = .ok (.iadd, 1) := by decide +kernel
theorem dX10_passes_66 : decode cX10_passes 66 = .ok (.iastore, 1) := by decide +kernel
theorem dX10_passes_67 : decode cX10_passes 67 = .ok (.aload_n 0, 1) := by decide +kernel
theorem dX10_passes_68 : decode cX10_passes 68 = .ok (.invokevirtual 335, 3) := by decide +kernel
theorem dX10_passes_71 : decode cX10_passes 71 = .ok (.ireturn, 1) := by decide +kernel
def f_X10_passes_14 (a0 : Nat) (i1 : Int32) (σ : mm_S) : Option (Int32 × mm_S) :=
  lp lpN (fun (k14 : (Int32) → mm_S → Option (Int32 × mm_S)) (v : Int32) (σ : mm_S) =>
    gd (3 : Int32) 121 <|
    if (σ.1 224 (3 : Int32).toNatClampNeg) ≤ v then
      lt (su_i σ a0 24 (-1 : Int32)) fun σ3 =>
      gd (10 : Int32) 121 <|
      gd (10 : Int32) 121 <|
      lt (su_i σ3 224 (10 : Int32).toNatClampNeg ((σ3.1 224 (10 : Int32).toNatClampNeg) + (1 : Int32))) fun σ7 =>
      bd (f_X10_inside a0 σ7) fun r11 σ10 =>
      some (r11, σ10)
    else
      bd (f_X10_isIn a0 v σ) fun r14 σ13 =>
      if r14 = 0 then
        lt (v + Int32.ofInt (1)) fun x16 =>
        k14 x16 σ13
      else
        bd (f_X10_penceOf a0 v σ13) fun r20 σ19 =>
        if r20 ≤ 0 then
          lt (v + Int32.ofInt (1)) fun x22 =>
          k14 x22 σ19
        else
          bv (f_X10_pays a0 v σ19) fun σ25 =>
          lt (v + Int32.ofInt (1)) fun x26 =>
          k14 x26 σ25) i1 σ
theorem v_X10_passes_14 {g : mm_G} (d : Nat) {a0 : Nat} {i1 : Int32} {σ : mm_S} {res : Int32 × mm_S}  (h_a0 : (mm_K a0).1 = 10) (h : f_X10_passes_14 a0 i1 σ = some res) : SV g (d + 6) yy_X10_passes 14 [(0, .ref a0), (1, .int i1)] [] σ (.int res.1) res.2 := by
  unfold f_X10_passes_14 at h
  refine lp_ind (P := fun v σ => SV g (d + 6) yy_X10_passes 14 [(0, .ref a0), (1, .int v)] [] σ (.int res.1) res.2) (fun k14 H14 v σ h => ?_) _ i1 σ h
  refine e_iload_n 1 dX10_passes_14 rfl rfl ?_
  refine e_aload_n 0 dX10_passes_15 rfl rfl ?_
  refine s_getr dX10_passes_16 fl_RX10_39 h_a0 (r_10_20 h_a0).1 ?_
  refine e_iconst (v := (3 : Int32)) dX10_passes_19 (by decide) ?_
  obtain ⟨q1, h⟩ := gd_some h
  refine s_iald dX10_passes_20 (r_10_20 (w := 0) h_a0).2 q1 ?_
  refine e_icmp_ge 51 dX10_passes_21 (by decide) (fun c2 => ?_) (fun c2 => ?_)
  · rw [if_pos c2] at h
    refine e_aload_n 0 dX10_passes_51 rfl rfl ?_
    refine e_iconst (v := (-1 : Int32)) dX10_passes_52 (by decide) ?_
    refine s_puti dX10_passes_53 fl_RX10_49 h_a0 rfl rfl rfl ?_
    obtain ⟨σ3, q4, h⟩ := lt_some h
    refine s_nms q4 ?_
    refine e_aload_n 0 dX10_passes_56 rfl rfl ?_
    refine s_getr dX10_passes_57 fl_RX10_39 h_a0 (r_10_20 h_a0).1 ?_
    refine e_bipush (v := (10 : Int32)) dX10_passes_60 (by decide) ?_
    refine e_dup2 dX10_passes_62 rfl rfl ?_
    obtain ⟨q5, h⟩ := gd_some h
    refine s_iald dX10_passes_63 (r_10_20 (w := 0) h_a0).2 q5 ?_
    refine e_iconst (v := (1 : Int32)) dX10_passes_64 (by decide) ?_
    refine e_iadd dX10_passes_65 ?_
    obtain ⟨q6, h⟩ := gd_some h
    refine s_iast dX10_passes_66 (r_10_20 (w := 0) h_a0).2 q6 ?_
    obtain ⟨σ7, q8, h⟩ := lt_some h
    refine s_nms q8 ?_
    refine e_aload_n 0 dX10_passes_67 rfl rfl ?_
    obtain ⟨r11, σ10, q9, h⟩ := bd_some h
    refine s_callVi [] dX10_passes_68 ml_RX10_335 h_a0 ⟨_, rfl, by decide⟩ rfl (v_X10_inside (d + 4) h_a0 q9) (Nat.le_of_ble_eq_true rfl) ?_
    obtain rfl := Option.some.inj h
    exact s_ret rfl ⟨_, rfl, rfl⟩ dX10_passes_71
  · rw [if_neg c2] at h
    refine e_aload_n 0 dX10_passes_24 rfl rfl ?_
    refine e_iload_n 1 dX10_passes_25 rfl rfl ?_
    obtain ⟨r14, σ13, q12, h⟩ := bd_some h
    refine s_callVi [.int v] dX10_passes_26 ml_RX10_302 h_a0 ⟨_, rfl, by decide⟩ rfl (v_X10_isIn (d + 5) h_a0 q12) (Nat.le_of_ble_eq_true rfl) ?_
    refine e_if_eq 45 dX10_passes_29 (by decide) (fun c15 => ?_) (fun c15 => ?_)
    · rw [if_pos c15] at h
      obtain ⟨x16, q17, h⟩ := lt_some h
      refine e_iinc (v := x16) (L' := [(0, .ref a0), (1, .int x16)]) 1 dX10_passes_45 rfl q17.symm (by decide) rfl ?_
      refine e_goto 14 dX10_passes_48 (by decide) ?_
      refine s_pick (L' := [(0, .ref a0), (1, .int x16)]) [0, 1] rfl ?_
      exact H14 x16 σ13 h
    · rw [if_neg c15] at h
      refine e_aload_n 0 dX10_passes_32 rfl rfl ?_
      refine e_iload_n 1 dX10_passes_33 rfl rfl ?_
      obtain ⟨r20, σ19, q18, h⟩ := bd_some h
      refine s_callVi [.int v] dX10_passes_34 ml_RX10_332 h_a0 ⟨_, rfl, by decide⟩ rfl (v_X10_penceOf (d + 5) h_a0 q18) (Nat.le_of_ble_eq_true rfl) ?_
      refine e_if_le 45 dX10_passes_37 (by decide) (fun c21 => ?_) (fun c21 => ?_)
      · rw [if_pos c21] at h
        obtain ⟨x22, q23, h⟩ := lt_some h
        refine e_iinc (v := x22) (L' := [(0, .ref a0), (1, .int x22)]) 1 dX10_passes_45 rfl q23.symm (by decide) rfl ?_
        refine e_goto 14 dX10_passes_48 (by decide) ?_
        refine s_pick (L' := [(0, .ref a0), (1, .int x22)]) [0, 1] rfl ?_
        exact H14 x22 σ19 h
      · rw [if_neg c21] at h
        refine e_aload_n 0 dX10_passes_40 rfl rfl ?_
        refine e_iload_n 1 dX10_passes_41 rfl rfl ?_
        obtain ⟨σ25, q24, h⟩ := bv_some h
        refine s_callVv [.int v] dX10_passes_42 ml_RX10_373 h_a0 rfl rfl (v_X10_pays (d + 4) h_a0 q24) (Nat.le_of_ble_eq_true rfl) ?_
        obtain ⟨x26, q27, h⟩ := lt_some h
        refine e_iinc (v := x26) (L' := [(0, .ref a0), (1, .int x26)]) 1 dX10_passes_45 rfl q27.symm (by decide) rfl ?_
        refine e_goto 14 dX10_passes_48 (by decide) ?_
        refine s_pick (L' := [(0, .ref a0), (1, .int x26)]) [0, 1] rfl ?_
        exact H14 x26 σ25 h
def f_X10_passes (a0 : Nat) (σ : mm_S) : Option (Int32 × mm_S) :=
    bv (f_X10_goesIn a0 σ) fun σ35 =>
    bv (f_X10_seeks a0 σ35) fun σ37 =>
    bv (f_X10_sleeps1 a0 σ37) fun σ39 =>
    f_X10_passes_14 a0 (0 : Int32) σ39
theorem v_X10_passes {g : mm_G} (d : Nat) {a0 : Nat} {σ : mm_S} {res : Int32 × mm_S} (h_a0 : (mm_K a0).1 = 10) (h : f_X10_passes a0 σ = some res) : SM g (d + 6) yy_X10_passes [.ref a0] σ (.int res.1) res.2 := by
  refine s_of (by decide) (Nat.le_of_ble_eq_true rfl) (L := [(0, .ref a0)]) rfl ?_
  unfold f_X10_passes at h
  refine e_aload_n 0 dX10_passes_0 rfl rfl ?_
  obtain ⟨σ35, q34, h⟩ := bv_some h
  refine s_callVv [] dX10_passes_1 ml_RX10_364 h_a0 rfl rfl (v_X10_goesIn (d + 3) h_a0 q34) (Nat.le_of_ble_eq_true rfl) ?_
  refine e_aload_n 0 dX10_passes_4 rfl rfl ?_
  obtain ⟨σ37, q36, h⟩ := bv_some h
  refine s_callVv [] dX10_passes_5 ml_RX10_367 h_a0 rfl rfl (v_X10_seeks (d + 0) h_a0 q36) (Nat.le_of_ble_eq_true rfl) ?_
  refine e_aload_n 0 dX10_passes_8 rfl rfl ?_
  obtain ⟨σ39, q38, h⟩ := bv_some h
  refine s_callVv [] dX10_passes_9 ml_RX10_370 h_a0 rfl rfl (v_X10_sleeps1 (d + 4) h_a0 q38) (Nat.le_of_ble_eq_true rfl) ?_
  refine e_iconst (v := (0 : Int32)) dX10_passes_12 (by decide) ?_
  refine e_istore_n (L' := [(0, .ref a0), (1, .int (0 : Int32))]) dX10_passes_13 rfl (by decide) rfl ?_
  refine s_pick (L' := [(0, .ref a0), (1, .int (0 : Int32))]) [0, 1] rfl ?_
  exact v_X10_passes_14 d h_a0 h
abbrev yy_X10_passesAll : mm_Y := (yX10_passesAll, cX10_passesAll, 3, none)
theorem dX10_passesAll_0 : decode cX10_passesAll 0 = .ok (.iconst 0, 1) := by decide +kernel
theorem dX10_passesAll_1 : decode cX10_passesAll 1 = .ok (.istore_n 2, 1) := by decide +kernel
theorem dX10_passesAll_2 : decode cX10_passesAll 2 = .ok (.iload_n 2, 1) := by decide +kernel
theorem dX10_passesAll_3 : decode cX10_passesAll 3 = .ok (.iload_n 1, 1) := by decide +kernel
theorem dX10_passesAll_4 : decode cX10_passesAll 4 = .ok (.if_icmp .ge 14, 3) := by decide +kernel
theorem dX10_passesAll_7 : decode cX10_passesAll 7 = .ok (.aload_n 0, 1) := by decide +kernel
theorem dX10_passesAll_8 : decode cX10_passesAll 8 = .ok (.invokevirtual 376, 3) := by decide +kernel
theorem dX10_passesAll_11 : decode cX10_passesAll 11 = .ok (.pop, 1) := by decide +kernel
theorem dX10_passesAll_12 : decode cX10_passesAll 12 = .ok (.iinc 2 1, 3) := by decide +kernel
theorem dX10_passesAll_15 : decode cX10_passesAll 15 = .ok (.goto (-13), 3) := by decide +kernel
theorem dX10_passesAll_18 : decode cX10_passesAll 18 = .ok (.return_, 1) := by decide +kernel
def f_X10_passesAll_2 (a0 : Nat) (i1 : Int32) (i2 : Int32) (σ : mm_S) : Option (mm_S) :=
  lp lpN (fun (k2 : (Int32) → mm_S → Option (mm_S)) (v : Int32) (σ : mm_S) =>
    if i1 ≤ v then
      some σ
    else
      bd (f_X10_passes a0 σ) fun r4 σ3 =>
      lt (v + Int32.ofInt (1)) fun x5 =>
      k2 x5 σ3) i2 σ
theorem v_X10_passesAll_2 {g : mm_G} (d : Nat) {a0 : Nat} {i1 : Int32} {i2 : Int32} {σ : mm_S} {res : mm_S}  (h_a0 : (mm_K a0).1 = 10) (h : f_X10_passesAll_2 a0 i1 i2 σ = some res) : SV g (d + 7) yy_X10_passesAll 2 [(0, .ref a0), (1, .int i1), (2, .int i2)] [] σ .null res := by
  unfold f_X10_passesAll_2 at h
  refine lp_ind (P := fun v σ => SV g (d + 7) yy_X10_passesAll 2 [(0, .ref a0), (1, .int i1), (2, .int v)] [] σ .null res) (fun k2 H2 v σ h => ?_) _ i2 σ h
  refine e_iload_n 2 dX10_passesAll_2 rfl rfl ?_
  refine e_iload_n 1 dX10_passesAll_3 rfl rfl ?_
  refine e_icmp_ge 18 dX10_passesAll_4 (by decide) (fun c1 => ?_) (fun c1 => ?_)
  · rw [if_pos c1] at h
    obtain rfl := Option.some.inj h
    exact s_ret rfl rfl dX10_passesAll_18
  · rw [if_neg c1] at h
    refine e_aload_n 0 dX10_passesAll_7 rfl rfl ?_
    obtain ⟨r4, σ3, q2, h⟩ := bd_some h
    refine s_callVi [] dX10_passesAll_8 ml_RX10_376 h_a0 ⟨_, rfl, by decide⟩ rfl (v_X10_passes (d + 0) h_a0 q2) (Nat.le_of_ble_eq_true rfl) ?_
    refine e_pop dX10_passesAll_11 rfl ?_
    obtain ⟨x5, q6, h⟩ := lt_some h
    refine e_iinc (v := x5) (L' := [(0, .ref a0), (1, .int i1), (2, .int x5)]) 2 dX10_passesAll_12 rfl q6.symm (by decide) rfl ?_
    refine e_goto 2 dX10_passesAll_15 (by decide) ?_
    refine s_pick (L' := [(0, .ref a0), (1, .int i1), (2, .int x5)]) [0, 1, 2] rfl ?_
    exact H2 x5 σ3 h
def f_X10_passesAll (a0 : Nat) (i1 : Int32) (σ : mm_S) : Option (mm_S) :=
    f_X10_passesAll_2 a0 i1 (0 : Int32) σ
theorem v_X10_passesAll {g : mm_G} (d : Nat) {a0 : Nat} {i1 : Int32} {σ : mm_S} {res : mm_S} (h_a0 : (mm_K a0).1 = 10) (h : f_X10_passesAll a0 i1 σ = some res) : SM g (d + 7) yy_X10_passesAll [.ref a0, .int i1] σ .null res := by
  refine s_of (by decide) (Nat.le_of_ble_eq_true rfl) (L := [(0, .ref a0), (1, .int i1)]) rfl ?_
  unfold f_X10_passesAll at h
  refine e_iconst (v := (0 : Int32)) dX10_passesAll_0 (by decide) ?_
  refine e_istore_n (L' := [(0, .ref a0), (1, .int i1), (2, .int (0 : Int32))]) dX10_passesAll_1 rfl (by decide) rfl ?_
  refine s_pick (L' := [(0, .ref a0), (1, .int i1), (2, .int (0 : Int32))]) [0, 1, 2] rfl ?_
  exact v_X10_passesAll_2 d h_a0 h
abbrev yy_X10_keepsAct : mm_Y := (yX10_keepsAct, cX10_keepsAct, 2, none)
theorem dX10_keepsAct_0 : decode cX10_keepsAct 0 = .ok (.aload_n 0, 1) := by decide +kernel
theorem dX10_keepsAct_1 : decode cX10_keepsAct 1 = .ok (.getfield 284, 3) := by decide +kernel
theorem dX10_keepsAct_4 : decode cX10_keepsAct 4 = .ok (.bipush 20, 2) := by decide +kernel
theorem dX10_keepsAct_6 : decode cX10_keepsAct 6 = .ok (.if_icmp .ne 44, 3) := by decide +kernel
theorem dX10_keepsAct_9 : decode cX10_keepsAct 9 = .ok (.bipush 31, 2) := by decide +kernel
theorem dX10_keepsAct_11 : decode cX10_keepsAct 11 = .ok (.istore_n 1, 1) := by decide +kernel
theorem dX10_keepsAct_12 : decode cX10_keepsAct 12 = .ok (.iload_n 1, 1) := by decide +kernel
theorem dX10_keepsAct_13 : decode cX10_keepsAct 13 = .ok (.sipush 620, 3) := by decide +kernel
theorem dX10_keepsAct_16 : decode cX10_keepsAct 16 = .ok (.if_icmp .ge 24, 3) := by decide +kernel
theorem dX10_keepsAct_19 : decode cX10_keepsAct 19 = .ok (.aload_n 0, 1) := by decide +kernel
theorem dX10_keepsAct_20 : decode cX10_keepsAct 20 = .ok (.getfield 61, 3) := by decide +kernel
theorem dX10_keepsAct_23 : decode cX10_keepsAct 23 = .ok (.iload_n 1, 1) := by decide +kernel
theorem dX10_keepsAct_24 : decode cX10_keepsAct 24 = .ok (.bipush 31, 2) := by decide +kernel
theorem dX10_keepsAct_26 : decode cX10_keepsAct 26 = .ok (.isub, 1) := by decide +kernel
theorem dX10_keepsAct_27 : decode cX10_keepsAct 27 = .ok (.aload_n 0, 1) := by decide +kernel
theorem dX10_keepsAct_28 : decode cX10_keepsAct 28 = .ok (.getfield 61, 3) := by decide +kernel
theorem dX10_keepsAct_31 : decode cX10_keepsAct 31 = .ok (.iload_n 1, 1) := by decide +kernel
theorem dX10_keepsAct_32 : decode cX10_keepsAct 32 = .ok (.iaload, 1) := by decide +kernel
theorem dX10_keepsAct_33 : decode cX10_keepsAct 33 = .ok (.iastore, 1) := by decide +kernel
theorem dX10_keepsAct_34 : decode cX10_keepsAct 34 = .ok (.iinc 1 1, 3) := by decide +kernel
theorem dX10_keepsAct_37 : decode cX10_keepsAct 37 = .ok (.goto (-25), 3) := by decide +kernel
theorem dX10_keepsAct_40 : decode cX10_keepsAct 40 = .ok (.aload_n 0, 1) := by decide +kernel
theorem dX10_keepsAct_41 : decode cX10_keepsAct 41 = .ok (.dup, 1) := by decide +kernel
theorem dX10_keepsAct_42 : decode cX10_keepsAct 42 = .ok (.getfield 284, 3) := by decide +kernel
theorem dX10_keepsAct_45 : decode cX10_keepsAct 45 = .ok (.iconst 1, 1) := by decide +kernel
theorem dX10_keepsAct_46 : decode cX10_keepsAct 46 = .ok (.isub, 1) := by decide +kernel
theorem dX10_keepsAct_47 : decode cX10_keepsAct 47 = .ok (.putfield 284, 3) := by decide +kernel
theorem dX10_keepsAct_50 : decode cX10_keepsAct 50 = .ok (.iconst 0, 1) := by decide +kernel
theorem dX10_keepsAct_51 : decode cX10_keepsAct 51 = .ok (.istore_n 1, 1) := by decide +kernel
theorem dX10_keepsAct_52 : decode cX10_keepsAct 52 = .ok (.iload_n 1, 1) := by decide +kernel
theorem dX10_keepsAct_53 : decode cX10_keepsAct 53 = .ok (.bipush 31, 2) := by decide +kernel
theorem dX10_keepsAct_55 : decode cX10_keepsAct 55 = .ok (.if_icmp .ge 32, 3) := by decide +kernel
theorem dX10_keepsAct_58 : decode cX10_keepsAct 58 = .ok (.aload_n 0, 1) := by decide +kernel
theorem dX10_keepsAct_59 : decode cX10_keepsAct 59 = .ok (.getfield 61, 3) := by decide +kernel
theorem dX10_keepsAct_62 : decode cX10_keepsAct 62 = .ok (.bipush 31, 2) := by decide +kernel
theorem dX10_keepsAct_64 : decode cX10_keepsAct 64 = .ok (.aload_n 0, 1) := by decide +kernel
theorem dX10_keepsAct_65 : decode cX10_keepsAct 65 = .ok (.getfield 284, 3) := by decide +kernel
theorem dX10_keepsAct_68 : decode cX10_keepsAct 68 = .ok (.imul, 1) := by decide +kernel
theorem dX10_keepsAct_69 : decode cX10_keepsAct 69 = .ok (.iload_n 1, 1) := by decide +kernel
theorem dX10_keepsAct_70 : decode cX10_keepsAct 70 = .ok (.iadd, 1) := by decide +kernel
theorem dX10_keepsAct_71 : decode cX10_keepsAct 71 = .ok (.aload_n 0, 1) := by decide +kernel
theorem dX10_keepsAct_72 : decode cX10_keepsAct 72 = .ok (.getfield 39, 3) := by decide +kernel
theorem dX10_keepsAct_75 : decode cX10_keepsAct 75 = .ok (.bipush 10, 2) := by decide +kernel
theorem dX10_keepsAct_77 : decode cX10_keepsAct 77 = .ok (.iload_n 1, 1) := by decide +kernel
theorem dX10_keepsAct_78 : decode cX10_keepsAct 78 = .ok (.iadd, 1) := by decide +kernel
theorem dX10_keepsAct_79 : decode cX10_keepsAct 79 = .ok (.iaload, 1) := by decide +kernel
theorem dX10_keepsAct_80 : decode cX10_keepsAct 80 = .ok (.iastore, 1) := by decide +kernel
theorem dX10_keepsAct_81 : decode cX10_keepsAct 81 = .ok (.iinc 1 1, 3) := by decide +kernel
theorem dX10_keepsAct_84 : decode cX10_keepsAct 84 = .ok (.goto (-32), 3) := by decide +kernel
theorem dX10_keepsAct_87 : decode cX10_keepsAct 87 = .ok (.aload_n 0, 1) := by decide +kernel
theorem dX10_keepsAct_88 : decode cX10_keepsAct 88 = .ok (.dup, 1) := by decide +kernel
theorem dX10_keepsAct_89 : decode cX10_keepsAct 89 = .ok (.getfield 284, 3) := by decide +kernel
theorem dX10_keepsAct_92 : decode cX10_keepsAct 92 = .ok (.iconst 1, 1) := by decide +kernel
theorem dX10_keepsAct_93 : decode cX10_keepsAct 93 = .ok (.iadd, 1) := by decide +kernel
theorem dX10_keepsAct_94 : decode cX10_keepsAct 94 = .ok (.putfield 284, 3) := by decide +kernel
theorem dX10_keepsAct_97 : decode cX10_keepsAct 97 = .ok (.return_, 1) := by decide +kernel
def f_X10_keepsAct_52 (a0 : Nat) (i1 : Int32) (σ : mm_S) : Option (mm_S) :=
  lp lpN (fun (k52 : (Int32) → mm_S → Option (mm_S)) (v : Int32) (σ : mm_S) =>
    if (31 : Int32) ≤ v then
      lt (su_i σ a0 31 ((σ.1 a0 31) + (1 : Int32))) fun σ2 =>
      some σ2
    else
      gd ((10 : Int32) + v) 121 <|
      gd (((31 : Int32) * (σ.1 a0 31)) + v) 620 <|
      lt (su_i σ 228 (((31 : Int32) * (σ.1 a0 31)) + v).toNatClampNeg (σ.1 224 ((10 : Int32) + v).toNatClampNeg)) fun σ6 =>
      lt (v + Int32.ofInt (1)) fun x8 =>
      k52 x8 σ6) i1 σ
theorem v_X10_keepsAct_52 {g : mm_G} (d : Nat) {a0 : Nat} {i1 : Int32} {σ : mm_S} {res : mm_S}  (h_a0 : (mm_K a0).1 = 10) (h : f_X10_keepsAct_52 a0 i1 σ = some res) : SV g (d + 0) yy_X10_keepsAct 52 [(0, .ref a0), (1, .int i1)] [] σ .null res := by
  unfold f_X10_keepsAct_52 at h
  refine lp_ind (P := fun v σ => SV g (d + 0) yy_X10_keepsAct 52 [(0, .ref a0), (1, .int v)] [] σ .null res) (fun k52 H52 v σ h => ?_) _ i1 σ h
  refine e_iload_n 1 dX10_keepsAct_52 rfl rfl ?_
  refine e_bipush (v := (31 : Int32)) dX10_keepsAct_53 (by decide) ?_
  refine e_icmp_ge 87 dX10_keepsAct_55 (by decide) (fun c1 => ?_) (fun c1 => ?_)
  · rw [if_pos c1] at h
    refine e_aload_n 0 dX10_keepsAct_87 rfl rfl ?_
    refine e_dup dX10_keepsAct_88 rfl ?_
    refine s_geti dX10_keepsAct_89 fl_RX10_284 h_a0 ?_
    refine e_iconst (v := (1 : Int32)) dX10_keepsAct_92 (by decide) ?_
    refine e_iadd dX10_keepsAct_93 ?_
    refine s_puti dX10_keepsAct_94 fl_RX10_284 h_a0 rfl rfl rfl ?_
    obtain ⟨σ2, q3, h⟩ := lt_some h
    refine s_nms q3 ?_
    obtain rfl := Option.some.inj h
    exact s_ret rfl rfl dX10_keepsAct_97
  · rw [if_neg c1] at h
    refine e_aload_n 0 dX10_keepsAct_58 rfl rfl ?_
    refine s_getr dX10_keepsAct_59 fl_RX10_61 h_a0 (r_10_30 h_a0).1 ?_
    refine e_bipush (v := (31 : Int32)) dX10_keepsAct_62 (by decide) ?_
    refine e_aload_n 0 dX10_keepsAct_64 rfl rfl ?_
    refine s_geti dX10_keepsAct_65 fl_RX10_284 h_a0 ?_
    refine e_imul dX10_keepsAct_68 ?_
    refine e_iload_n 1 dX10_keepsAct_69 rfl rfl ?_
    refine e_iadd dX10_keepsAct_70 ?_
    refine e_aload_n 0 dX10_keepsAct_71 rfl rfl ?_
    refine s_getr dX10_keepsAct_72 fl_RX10_39 h_a0 (r_10_20 h_a0).1 ?_
    refine e_bipush (v := (10 : Int32)) dX10_keepsAct_75 (by decide) ?_
    refine e_iload_n 1 dX10_keepsAct_77 rfl rfl ?_
    refine e_iadd dX10_keepsAct_78 ?_
    obtain ⟨q4, h⟩ := gd_some h
    refine s_iald dX10_keepsAct_79 (r_10_20 (w := 0) h_a0).2 q4 ?_
    obtain ⟨q5, h⟩ := gd_some h
    refine s_iast dX10_keepsAct_80 (r_10_30 (w := 0) h_a0).2 q5 ?_
    obtain ⟨σ6, q7, h⟩ := lt_some h
    refine s_nms q7 ?_
    obtain ⟨x8, q9, h⟩ := lt_some h
    refine e_iinc (v := x8) (L' := [(0, .ref a0), (1, .int x8)]) 1 dX10_keepsAct_81 rfl q9.symm (by decide) rfl ?_
    refine e_goto 52 dX10_keepsAct_84 (by decide) ?_
    refine s_pick (L' := [(0, .ref a0), (1, .int x8)]) [0, 1] rfl ?_
    exact H52 x8 σ6 h
def f_X10_keepsAct_12 (a0 : Nat) (i1 : Int32) (σ : mm_S) : Option (mm_S) :=
  lp lpN (fun (k12 : (Int32) → mm_S → Option (mm_S)) (v : Int32) (σ : mm_S) =>
    if (620 : Int32) ≤ v then
      lt (su_i σ a0 31 ((σ.1 a0 31) - (1 : Int32))) fun σ11 =>
      f_X10_keepsAct_52 a0 (0 : Int32) σ11
    else
      gd v 620 <|
      gd (v - (31 : Int32)) 620 <|
      lt (su_i σ 228 (v - (31 : Int32)).toNatClampNeg (σ.1 228 v.toNatClampNeg)) fun σ15 =>
      lt (v + Int32.ofInt (1)) fun x17 =>
      k12 x17 σ15) i1 σ
theorem v_X10_keepsAct_12 {g : mm_G} (d : Nat) {a0 : Nat} {i1 : Int32} {σ : mm_S} {res : mm_S}  (h_a0 : (mm_K a0).1 = 10) (h : f_X10_keepsAct_12 a0 i1 σ = some res) : SV g (d + 0) yy_X10_keepsAct 12 [(0, .ref a0), (1, .int i1)] [] σ .null res := by
  unfold f_X10_keepsAct_12 at h
  refine lp_ind (P := fun v σ => SV g (d + 0) yy_X10_keepsAct 12 [(0, .ref a0), (1, .int v)] [] σ .null res) (fun k12 H12 v σ h => ?_) _ i1 σ h
  refine e_iload_n 1 dX10_keepsAct_12 rfl rfl ?_
  refine e_sipush (v := (620 : Int32)) dX10_keepsAct_13 (by decide) ?_
  refine e_icmp_ge 40 dX10_keepsAct_16 (by decide) (fun c10 => ?_) (fun c10 => ?_)
  · rw [if_pos c10] at h
    refine e_aload_n 0 dX10_keepsAct_40 rfl rfl ?_
    refine e_dup dX10_keepsAct_41 rfl ?_
    refine s_geti dX10_keepsAct_42 fl_RX10_284 h_a0 ?_
    refine e_iconst (v := (1 : Int32)) dX10_keepsAct_45 (by decide) ?_
    refine e_isub dX10_keepsAct_46 ?_
    refine s_puti dX10_keepsAct_47 fl_RX10_284 h_a0 rfl rfl rfl ?_
    obtain ⟨σ11, q12, h⟩ := lt_some h
    refine s_nms q12 ?_
    refine e_iconst (v := (0 : Int32)) dX10_keepsAct_50 (by decide) ?_
    refine e_istore_n (L' := [(0, .ref a0), (1, .int (0 : Int32))]) dX10_keepsAct_51 rfl (by decide) rfl ?_
    refine s_pick (L' := [(0, .ref a0), (1, .int (0 : Int32))]) [0, 1] rfl ?_
    exact v_X10_keepsAct_52 d h_a0 h
  · rw [if_neg c10] at h
    refine e_aload_n 0 dX10_keepsAct_19 rfl rfl ?_
    refine s_getr dX10_keepsAct_20 fl_RX10_61 h_a0 (r_10_30 h_a0).1 ?_
    refine e_iload_n 1 dX10_keepsAct_23 rfl rfl ?_
    refine e_bipush (v := (31 : Int32)) dX10_keepsAct_24 (by decide) ?_
    refine e_isub dX10_keepsAct_26 ?_
    refine e_aload_n 0 dX10_keepsAct_27 rfl rfl ?_
    refine s_getr dX10_keepsAct_28 fl_RX10_61 h_a0 (r_10_30 h_a0).1 ?_
    refine e_iload_n 1 dX10_keepsAct_31 rfl rfl ?_
    obtain ⟨q13, h⟩ := gd_some h
    refine s_iald dX10_keepsAct_32 (r_10_30 (w := 0) h_a0).2 q13 ?_
    obtain ⟨q14, h⟩ := gd_some h
    refine s_iast dX10_keepsAct_33 (r_10_30 (w := 0) h_a0).2 q14 ?_
    obtain ⟨σ15, q16, h⟩ := lt_some h
    refine s_nms q16 ?_
    obtain ⟨x17, q18, h⟩ := lt_some h
    refine e_iinc (v := x17) (L' := [(0, .ref a0), (1, .int x17)]) 1 dX10_keepsAct_34 rfl q18.symm (by decide) rfl ?_
    refine e_goto 12 dX10_keepsAct_37 (by decide) ?_
    refine s_pick (L' := [(0, .ref a0), (1, .int x17)]) [0, 1] rfl ?_
    exact H12 x17 σ15 h
def f_X10_keepsAct (a0 : Nat) (σ : mm_S) : Option (mm_S) :=
    if (σ.1 a0 31) = (20 : Int32) then
      f_X10_keepsAct_12 a0 (31 : Int32) σ
    else
      f_X10_keepsAct_52 a0 (0 : Int32) σ
theorem v_X10_keepsAct {g : mm_G} (d : Nat) {a0 : Nat} {σ : mm_S} {res : mm_S} (h_a0 : (mm_K a0).1 = 10) (h : f_X10_keepsAct a0 σ = some res) : SM g (d + 0) yy_X10_keepsAct [.ref a0] σ .null res := by
  refine s_of (by decide) (Nat.le_of_ble_eq_true rfl) (L := [(0, .ref a0)]) rfl ?_
  unfold f_X10_keepsAct at h
  refine e_aload_n 0 dX10_keepsAct_0 rfl rfl ?_
  refine s_geti dX10_keepsAct_1 fl_RX10_284 h_a0 ?_
  refine e_bipush (v := (20 : Int32)) dX10_keepsAct_4 (by decide) ?_
  refine e_icmp_ne 50 dX10_keepsAct_6 (by decide) (fun c20 => ?_) (fun c20 => ?_)
  · rw [if_neg c20] at h
    refine e_iconst (v := (0 : Int32)) dX10_keepsAct_50 (by decide) ?_
    refine e_istore_n (L' := [(0, .ref a0), (1, .int (0 : Int32))]) dX10_keepsAct_51 rfl (by decide) rfl ?_
    refine s_pick (L' := [(0, .ref a0), (1, .int (0 : Int32))]) [0, 1] rfl ?_
    exact v_X10_keepsAct_52 d h_a0 h
  · rw [if_pos c20] at h
    refine e_bipush (v := (31 : Int32)) dX10_keepsAct_9 (by decide) ?_
    refine e_istore_n (L' := [(0, .ref a0), (1, .int (31 : Int32))]) dX10_keepsAct_11 rfl (by decide) rfl ?_
    refine s_pick (L' := [(0, .ref a0), (1, .int (31 : Int32))]) [0, 1] rfl ?_
    exact v_X10_keepsAct_12 d h_a0 h
abbrev yy_X10_undo : mm_Y := (yX10_undo, cX10_undo, 2, (some .int))
theorem dX10_undo_0 : decode cX10_undo 0 = .ok (.aload_n 0, 1) := by decide +kernel
theorem dX10_undo_1 : decode cX10_undo 1 = .ok (.getfield 284, 3) := by decide +kernel
theorem dX10_undo_4 : decode cX10_undo 4 = .ok (.ifCond .ne 5, 3) := by decide +kernel
theorem dX10_undo_7 : decode cX10_undo 7 = .ok (.iconst (-1), 1) := by decide +kernel
theorem dX10_undo_8 : decode cX10_undo 8 = .ok (.ireturn, 1) := by decide +kernel
theorem dX10_undo_9 : decode cX10_undo 9 = .ok (.aload_n 0, 1) := by decide +kernel
theorem dX10_undo_10 : decode cX10_undo 10 = .ok (.dup, 1) := by decide +kernel
theorem dX10_undo_11 : decode cX10_undo 11 = .ok (.getfield 284, 3) := by decide +kernel
theorem dX10_undo_14 : decode cX10_undo 14 = .ok (.iconst 1, 1) := by decide +kernel
theorem dX10_undo_15 : decode cX10_undo 15 = .ok (.isub, 1) := by decide +kernel
theorem dX10_undo_16 : decode cX10_undo 16 = .ok (.putfield 284, 3) := by decide +kernel
theorem dX10_undo_19 : decode cX10_undo 19 = .ok (.iconst 0, 1) := by decide +kernel
theorem dX10_undo_20 : decode cX10_undo 20 = .ok (.istore_n 1, 1) := by decide +kernel
theorem dX10_undo_21 : decode cX10_undo 21 = .ok (.iload_n 1, 1) := by decide +kernel
theorem dX10_undo_22 : decode cX10_undo 22 = .ok (.bipush 31, 2) := by decide +kernel
theorem dX10_undo_24 : decode cX10_undo 24 = .ok (.if_icmp .ge 32, 3) := by decide +kernel
theorem dX10_undo_27 : decode cX10_undo 27 = .ok (.aload_n 0, 1) := by decide +kernel
theorem dX10_undo_28 : decode cX10_undo 28 = .ok (.getfield 39, 3) := by decide +kernel
theorem dX10_undo_31 : decode cX10_undo 31 = .ok (.bipush 10, 2) := by decide +kernel
theorem dX10_undo_33 : decode cX10_undo 33 = .ok (.iload_n 1, 1) := by decide +kernel
theorem dX10_undo_34 : decode cX10_undo 34 = .ok (.iadd, 1) := by decide +kernel
theorem dX10_undo_35 : decode cX10_undo 35 = .ok (.aload_n 0, 1) := by decide +kernel
theorem dX10_undo_36 : decode cX10_undo 36 = .ok (.getfield 61, 3) := by decide +kernel
theorem dX10_undo_39 : decode cX10_undo 39 = .ok (.bipush 31, 2) := by decide +kernel
theorem dX10_undo_41 : decode cX10_undo 41 = .ok (.aload_n 0, 1) := by decide +kernel
theorem dX10_undo_42 : decode cX10_undo 42 = .ok (.getfield 284, 3) := by decide +kernel
theorem dX10_undo_45 : decode cX10_undo 45 = .ok (.imul, 1) := by decide +kernel
theorem dX10_undo_46 : decode cX10_undo 46 = .ok (.iload_n 1, 1) := by decide +kernel
theorem dX10_undo_47 : decode cX10_undo 47 = .ok (.iadd, 1) := by decide +kernel
theorem dX10_undo_48 : decode cX10_undo 48 = .ok (.iaload, 1) := by decide +kernel
theorem dX10_undo_49 : decode cX10_undo 49 = .ok (.iastore, 1) := by decide +kernel
theorem dX10_undo_50 : decode cX10_undo 50 = .ok (.iinc 1 1, 3) := by decide +kernel
theorem dX10_undo_53 : decode cX10_undo 53 = .ok (.goto (-32), 3) := by decide +kernel
theorem dX10_undo_56 : decode cX10_undo 56 = .ok (.aload_n 0, 1) := by decide +kernel
theorem dX10_undo_57 : decode cX10_undo 57 = .ok (.getfield 284, 3) := by decide +kernel
theorem dX10_undo_60 : decode cX10_undo 60 = .ok (.ireturn, 1) := by decide +kernel
def f_X10_undo_21 (a0 : Nat) (i1 : Int32) (σ : mm_S) : Option (Int32 × mm_S) :=
  lp lpN (fun (k21 : (Int32) → mm_S → Option (Int32 × mm_S)) (v : Int32) (σ : mm_S) =>
    if (31 : Int32) ≤ v then
      some ((σ.1 a0 31), σ)
    else
      gd (((31 : Int32) * (σ.1 a0 31)) + v) 620 <|
      gd ((10 : Int32) + v) 121 <|
      lt (su_i σ 224 ((10 : Int32) + v).toNatClampNeg (σ.1 228 (((31 : Int32) * (σ.1 a0 31)) + v).toNatClampNeg)) fun σ4 =>
      lt (v + Int32.ofInt (1)) fun x6 =>
      k21 x6 σ4) i1 σ
theorem v_X10_undo_21 {g : mm_G} (d : Nat) {a0 : Nat} {i1 : Int32} {σ : mm_S} {res : Int32 × mm_S}  (h_a0 : (mm_K a0).1 = 10) (h : f_X10_undo_21 a0 i1 σ = some res) : SV g (d + 0) yy_X10_undo 21 [(0, .ref a0), (1, .int i1)] [] σ (.int res.1) res.2 := by
  unfold f_X10_undo_21 at h
  refine lp_ind (P := fun v σ => SV g (d + 0) yy_X10_undo 21 [(0, .ref a0), (1, .int v)] [] σ (.int res.1) res.2) (fun k21 H21 v σ h => ?_) _ i1 σ h
  refine e_iload_n 1 dX10_undo_21 rfl rfl ?_
  refine e_bipush (v := (31 : Int32)) dX10_undo_22 (by decide) ?_
  refine e_icmp_ge 56 dX10_undo_24 (by decide) (fun c1 => ?_) (fun c1 => ?_)
  · rw [if_pos c1] at h
    refine e_aload_n 0 dX10_undo_56 rfl rfl ?_
    refine s_geti dX10_undo_57 fl_RX10_284 h_a0 ?_
    obtain rfl := Option.some.inj h
    exact s_ret rfl ⟨_, rfl, rfl⟩ dX10_undo_60
  · rw [if_neg c1] at h
    refine e_aload_n 0 dX10_undo_27 rfl rfl ?_
    refine s_getr dX10_undo_28 fl_RX10_39 h_a0 (r_10_20 h_a0).1 ?_
    refine e_bipush (v := (10 : Int32)) dX10_undo_31 (by decide) ?_
    refine e_iload_n 1 dX10_undo_33 rfl rfl ?_
    refine e_iadd dX10_undo_34 ?_
    refine e_aload_n 0 dX10_undo_35 rfl rfl ?_
    refine s_getr dX10_undo_36 fl_RX10_61 h_a0 (r_10_30 h_a0).1 ?_
    refine e_bipush (v := (31 : Int32)) dX10_undo_39 (by decide) ?_
    refine e_aload_n 0 dX10_undo_41 rfl rfl ?_
    refine s_geti dX10_undo_42 fl_RX10_284 h_a0 ?_
    refine e_imul dX10_undo_45 ?_
    refine e_iload_n 1 dX10_undo_46 rfl rfl ?_
    refine e_iadd dX10_undo_47 ?_
    obtain ⟨q2, h⟩ := gd_some h
    refine s_iald dX10_undo_48 (r_10_30 (w := 0) h_a0).2 q2 ?_
    obtain ⟨q3, h⟩ := gd_some h
    refine s_iast dX10_undo_49 (r_10_20 (w := 0) h_a0).2 q3 ?_
    obtain ⟨σ4, q5, h⟩ := lt_some h
    refine s_nms q5 ?_
    obtain ⟨x6, q7, h⟩ := lt_some h
    refine e_iinc (v := x6) (L' := [(0, .ref a0), (1, .int x6)]) 1 dX10_undo_50 rfl q7.symm (by decide) rfl ?_
    refine e_goto 21 dX10_undo_53 (by decide) ?_
    refine s_pick (L' := [(0, .ref a0), (1, .int x6)]) [0, 1] rfl ?_
    exact H21 x6 σ4 h
def f_X10_undo (a0 : Nat) (σ : mm_S) : Option (Int32 × mm_S) :=
    if (σ.1 a0 31) = 0 then
      some ((-1 : Int32), σ)
    else
      lt (su_i σ a0 31 ((σ.1 a0 31) - (1 : Int32))) fun σ12 =>
      f_X10_undo_21 a0 (0 : Int32) σ12
theorem v_X10_undo {g : mm_G} (d : Nat) {a0 : Nat} {σ : mm_S} {res : Int32 × mm_S} (h_a0 : (mm_K a0).1 = 10) (h : f_X10_undo a0 σ = some res) : SM g (d + 0) yy_X10_undo [.ref a0] σ (.int res.1) res.2 := by
  refine s_of (by decide) (Nat.le_of_ble_eq_true rfl) (L := [(0, .ref a0)]) rfl ?_
  unfold f_X10_undo at h
  refine e_aload_n 0 dX10_undo_0 rfl rfl ?_
  refine s_geti dX10_undo_1 fl_RX10_284 h_a0 ?_
  refine e_if_ne 9 dX10_undo_4 (by decide) (fun c11 => ?_) (fun c11 => ?_)
  · rw [if_neg c11] at h
    refine e_aload_n 0 dX10_undo_9 rfl rfl ?_
    refine e_dup dX10_undo_10 rfl ?_
    refine s_geti dX10_undo_11 fl_RX10_284 h_a0 ?_
    refine e_iconst (v := (1 : Int32)) dX10_undo_14 (by decide) ?_
    refine e_isub dX10_undo_15 ?_
    refine s_puti dX10_undo_16 fl_RX10_284 h_a0 rfl rfl rfl ?_
    obtain ⟨σ12, q13, h⟩ := lt_some h
    refine s_nms q13 ?_
    refine e_iconst (v := (0 : Int32)) dX10_undo_19 (by decide) ?_
    refine e_istore_n (L' := [(0, .ref a0), (1, .int (0 : Int32))]) dX10_undo_20 rfl (by decide) rfl ?_
    refine s_pick (L' := [(0, .ref a0), (1, .int (0 : Int32))]) [0, 1] rfl ?_
    exact v_X10_undo_21 d h_a0 h
  · rw [if_pos c11] at h
    refine e_iconst (v := (-1 : Int32)) dX10_undo_7 (by decide) ?_
    obtain rfl := Option.some.inj h
    exact s_ret rfl ⟨_, rfl, rfl⟩ dX10_undo_8
