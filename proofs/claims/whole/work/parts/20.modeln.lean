abbrev yy_X10_laysBack : mm_Y := (yX10_laysBack, cX10_laysBack, 2, none)
theorem dX10_laysBack_0 : decode cX10_laysBack 0 = .ok (.iconst 0, 1) := by decide +kernel
theorem dX10_laysBack_1 : decode cX10_laysBack 1 = .ok (.istore_n 1, 1) := by decide +kernel
theorem dX10_laysBack_2 : decode cX10_laysBack 2 = .ok (.iload_n 1, 1) := by decide +kernel
theorem dX10_laysBack_3 : decode cX10_laysBack 3 = .ok (.bipush 31, 2) := by decide +kernel
theorem dX10_laysBack_5 : decode cX10_laysBack 5 = .ok (.if_icmp .ge 24, 3) := by decide +kernel
theorem dX10_laysBack_8 : decode cX10_laysBack 8 = .ok (.aload_n 0, 1) := by decide +kernel
theorem dX10_laysBack_9 : decode cX10_laysBack 9 = .ok (.getfield 39, 3) := by decide +kernel
theorem dX10_laysBack_12 : decode cX10_laysBack 12 = .ok (.bipush 10, 2) := by decide +kernel
theorem dX10_laysBack_14 : decode cX10_laysBack 14 = .ok (.iload_n 1, 1) := by decide +kernel
theorem dX10_laysBack_15 : decode cX10_laysBack 15 = .ok (.iadd, 1) := by decide +kernel
theorem dX10_laysBack_16 : decode cX10_laysBack 16 = .ok (.aload_n 0, 1) := by decide +kernel
theorem dX10_laysBack_17 : decode cX10_laysBack 17 = .ok (.getfield 64, 3) := by decide +kernel
theorem dX10_laysBack_20 : decode cX10_laysBack 20 = .ok (.iload_n 1, 1) := by decide +kernel
theorem dX10_laysBack_21 : decode cX10_laysBack 21 = .ok (.iaload, 1) := by decide +kernel
theorem dX10_laysBack_22 : decode cX10_laysBack 22 = .ok (.iastore, 1) := by decide +kernel
theorem dX10_laysBack_23 : decode cX10_laysBack 23 = .ok (.iinc 1 1, 3) := by decide +kernel
theorem dX10_laysBack_26 : decode cX10_laysBack 26 = .ok (.goto (-24), 3) := by decide +kernel
theorem dX10_laysBack_29 : decode cX10_laysBack 29 = .ok (.return_, 1) := by decide +kernel
def f_X10_laysBack_2 (a0 : Nat) (i1 : Int32) (σ : mm_S) : Option (mm_S) :=
  lp lpN (fun (k2 : (Int32) → mm_S → Option (mm_S)) (v : Int32) (σ : mm_S) =>
    if (31 : Int32) ≤ v then
      some σ
    else
      gd v 31 <|
      gd ((10 : Int32) + v) 121 <|
      lt (su_i σ 224 ((10 : Int32) + v).toNatClampNeg (σ.1 229 v.toNatClampNeg)) fun σ4 =>
      lt (v + Int32.ofInt (1)) fun x6 =>
      k2 x6 σ4) i1 σ
theorem v_X10_laysBack_2 {g : mm_G} (d : Nat) {a0 : Nat} {i1 : Int32} {σ : mm_S} {res : mm_S}  (h_a0 : (mm_K a0).1 = 10) (h : f_X10_laysBack_2 a0 i1 σ = some res) : SV g (d + 0) yy_X10_laysBack 2 [(0, .ref a0), (1, .int i1)] [] σ .null res := by
  unfold f_X10_laysBack_2 at h
  refine lp_ind (P := fun v σ => SV g (d + 0) yy_X10_laysBack 2 [(0, .ref a0), (1, .int v)] [] σ .null res) (fun k2 H2 v σ h => ?_) _ i1 σ h
  refine e_iload_n 1 dX10_laysBack_2 rfl rfl ?_
  refine e_bipush (v := (31 : Int32)) dX10_laysBack_3 (by decide) ?_
  refine e_icmp_ge 29 dX10_laysBack_5 (by decide) (fun c1 => ?_) (fun c1 => ?_)
  · rw [if_pos c1] at h
    obtain rfl := Option.some.inj h
    exact s_ret rfl rfl dX10_laysBack_29
  · rw [if_neg c1] at h
    refine e_aload_n 0 dX10_laysBack_8 rfl rfl ?_
    refine s_getr dX10_laysBack_9 fl_RX10_39 h_a0 (r_10_20 h_a0).1 ?_
    refine e_bipush (v := (10 : Int32)) dX10_laysBack_12 (by decide) ?_
    refine e_iload_n 1 dX10_laysBack_14 rfl rfl ?_
    refine e_iadd dX10_laysBack_15 ?_
    refine e_aload_n 0 dX10_laysBack_16 rfl rfl ?_
    refine s_getr dX10_laysBack_17 fl_RX10_64 h_a0 (r_10_32 h_a0).1 ?_
    refine e_iload_n 1 dX10_laysBack_20 rfl rfl ?_
    obtain ⟨q2, h⟩ := gd_some h
    refine s_iald dX10_laysBack_21 (r_10_32 (w := 0) h_a0).2 q2 ?_
    obtain ⟨q3, h⟩ := gd_some h
    refine s_iast dX10_laysBack_22 (r_10_20 (w := 0) h_a0).2 q3 ?_
    obtain ⟨σ4, q5, h⟩ := lt_some h
    refine s_nms q5 ?_
    obtain ⟨x6, q7, h⟩ := lt_some h
    refine e_iinc (v := x6) (L' := [(0, .ref a0), (1, .int x6)]) 1 dX10_laysBack_23 rfl q7.symm (by decide) rfl ?_
    refine e_goto 2 dX10_laysBack_26 (by decide) ?_
    refine s_pick (L' := [(0, .ref a0), (1, .int x6)]) [0, 1] rfl ?_
    exact H2 x6 σ4 h
def f_X10_laysBack (a0 : Nat) (σ : mm_S) : Option (mm_S) :=
    f_X10_laysBack_2 a0 (0 : Int32) σ
theorem v_X10_laysBack {g : mm_G} (d : Nat) {a0 : Nat} {σ : mm_S} {res : mm_S} (h_a0 : (mm_K a0).1 = 10) (h : f_X10_laysBack a0 σ = some res) : SM g (d + 0) yy_X10_laysBack [.ref a0] σ .null res := by
  refine s_of (by decide) (Nat.le_of_ble_eq_true rfl) (L := [(0, .ref a0)]) rfl ?_
  unfold f_X10_laysBack at h
  refine e_iconst (v := (0 : Int32)) dX10_laysBack_0 (by decide) ?_
  refine e_istore_n (L' := [(0, .ref a0), (1, .int (0 : Int32))]) dX10_laysBack_1 rfl (by decide) rfl ?_
  refine s_pick (L' := [(0, .ref a0), (1, .int (0 : Int32))]) [0, 1] rfl ?_
  exact v_X10_laysBack_2 d h_a0 h
abbrev yy_X10_ahead : mm_Y := (yX10_ahead, cX10_ahead, 5, (some .int))
theorem dX10_ahead_0 : decode cX10_ahead 0 = .ok (.aload_n 0, 1) := by decide +kernel
theorem dX10_ahead_1 : decode cX10_ahead 1 = .ok (.iload_n 1, 1) := by decide +kernel
theorem dX10_ahead_2 : decode cX10_ahead 2 = .ok (.invokevirtual 320, 3) := by decide +kernel
theorem dX10_ahead_5 : decode cX10_ahead 5 = .ok (.ifCond .eq 27, 3) := by decide +kernel
theorem dX10_ahead_8 : decode cX10_ahead 8 = .ok (.iload_n 2, 1) := by decide +kernel
theorem dX10_ahead_9 : decode cX10_ahead 9 = .ok (.i2l, 1) := by decide +kernel
theorem dX10_ahead_10 : decode cX10_ahead 10 = .ok (.lconst 0, 1) := by decide +kernel
theorem dX10_ahead_11 : decode cX10_ahead 11 = .ok (.ldc2_w 389, 3) := by decide +kernel
theorem dX10_ahead_14 : decode cX10_ahead 14 = .ok (.invokestatic 136, 3) := by decide +kernel
theorem dX10_ahead_17 : decode cX10_ahead 17 = .ok (.ifCond .eq 15, 3) := by decide +kernel
theorem dX10_ahead_20 : decode cX10_ahead 20 = .ok (.iload_n 3, 1) := by decide +kernel
theorem dX10_ahead_21 : decode cX10_ahead 21 = .ok (.i2l, 1) := by decide +kernel
theorem dX10_ahead_22 : decode cX10_ahead 22 = .ok (.lconst 0, 1) := by decide +kernel
theorem dX10_ahead_23 : decode cX10_ahead 23 = .ok (.ldc2_w 391, 3) := by decide +kernel
theorem dX10_ahead_26 : decode cX10_ahead 26 = .ok (.invokestatic 136, 3) := by decide +kernel
theorem dX10_ahead_29 : decode cX10_ahead 29 = .ok (.ifCond .ne 5, 3) := by decide +kernel
theorem dX10_ahead_32 : decode cX10_ahead 32 = .ok (.iconst (-1), 1) := by decide +kernel
theorem dX10_ahead_33 : decode cX10_ahead 33 = .ok (.ireturn, 1) := by decide +kernel
theorem dX10_ahead_34 : decode cX10_ahead 34 = .ok (.aload_n 0, 1) := by decide +kernel
theorem dX10_ahead_35 : decode cX10_ahead 35 = .ok (.invokevirtual 393, 3) := by decide +kernel
theorem dX10_ahead_38 : decode cX10_ahead 38 = .ok (.aload_n 0, 1) := by decide +kernel
theorem dX10_ahead_39 : decode cX10_ahead 39 = .ok (.iload_n 2, 1) := by decide +kernel
theorem dX10_ahead_40 : decode cX10_ahead 40 = .ok (.invokevirtual 396, 3) := by decide +kernel
theorem dX10_ahead_43 : decode cX10_ahead 43 = .ok (.iload_n 3, 1) := by decide +kernel
theorem dX10_ahead_44 : decode cX10_ahead 44 = .ok (.ifCond .ne 11, 3) := by decide +kernel
theorem dX10_ahead_47 : decode cX10_ahead 47 = .ok (.aload_n 0, 1) := by decide +kernel
theorem dX10_ahead_48 : decode cX10_ahead 48 = .ok (.iload_n 1, 1) := by decide +kernel
theorem dX10_ahead_49 : decode cX10_ahead 49 = .ok (.invokevirtual 308, 3) := by decide +kernel
theorem dX10_ahead_52 : decode cX10_ahead 52 = .ok (.goto 21, 3) := by decide +kernel
theorem dX10_ahead_55 : decode cX10_ahead 55 = .ok (.iload_n 3, 1) := by decide +kernel
theorem dX10_ahead_56 : decode cX10_ahead 56 = .ok (.iconst 1, 1) := by decide +kernel
theorem dX10_ahead_57 : decode cX10_ahead 57 = .ok (.if_icmp .ne 11, 3) := by decide +kernel
theorem dX10_ahead_60 : decode cX10_ahead 60 = .ok (.aload_n 0, 1) := by decide +kernel
theorem dX10_ahead_61 : decode cX10_ahead 61 = .ok (.iload_n 1, 1) := by decide +kernel
theorem dX10_ahead_62 : decode cX10_ahead 62 = .ok (.invokevirtual 332, 3) := by decide +kernel
theorem dX10_ahead_65 : decode cX10_ahead 65 = .ok (.goto 8, 3) := by decide +kernel
theorem dX10_ahead_68 : decode cX10_ahead 68 = .ok (.aload_n 0, 1) := by decide +kernel
theorem dX10_ahead_69 : decode cX10_ahead 69 = .ok (.iload_n 1, 1) := by decide +kernel
theorem dX10_ahead_70 : decode cX10_ahead 70 = .ok (.invokevirtual 311, 3) := by decide +kernel
theorem dX10_ahead_73 : decode cX10_ahead 73 = .ok (.istore 4, 2) := by decide +kernel
theorem dX10_ahead_75 : decode cX10_ahead 75 = .ok (.aload_n 0, 1) := by decide +kernel
theorem dX10_ahead_76 : decode cX10_ahead 76 = .ok (.invokevirtual 399, 3) := by decide +kernel
theorem dX10_ahead_79 : decode cX10_ahead 79 = .ok (.iload 4, 2) := by decide +kernel
theorem dX10_ahead_81 : decode cX10_ahead 81 = .ok (.ireturn, 1) := by decide +kernel
def f_X10_ahead (a0 : Nat) (i1 : Int32) (i2 : Int32) (i3 : Int32) (σ : mm_S) : Option (Int32 × mm_S) :=
    bd (f_X10_isLodger a0 i1 σ) fun r36 σ35 =>
    if r36 = 0 then
      some ((-1 : Int32), σ35)
    else
      bd (f_X10_in (i2 : Int32).toInt64 (0 : Int64) (100 : Int64) σ35) fun r40 σ39 =>
      if r40 = 0 then
        some ((-1 : Int32), σ39)
      else
        bd (f_X10_in (i3 : Int32).toInt64 (0 : Int64) (2 : Int64) σ39) fun r44 σ43 =>
        if r44 = 0 then
          some ((-1 : Int32), σ43)
        else
          bv (f_X10_keeps a0 σ43) fun σ47 =>
          bv (f_X10_passesAll a0 i2 σ47) fun σ49 =>
          if i3 = 0 then
            bd (f_X10_tiredOf a0 i1 σ49) fun r64 σ63 =>
            bv (f_X10_laysBack a0 σ63) fun σ66 =>
            some (r64, σ66)
          else
            if i3 = (1 : Int32) then
              bd (f_X10_penceOf a0 i1 σ49) fun r59 σ58 =>
              bv (f_X10_laysBack a0 σ58) fun σ61 =>
              some (r59, σ61)
            else
              bd (f_X10_sleptBy a0 i1 σ49) fun r54 σ53 =>
              bv (f_X10_laysBack a0 σ53) fun σ56 =>
              some (r54, σ56)
theorem v_X10_ahead {g : mm_G} (d : Nat) {a0 : Nat} {i1 : Int32} {i2 : Int32} {i3 : Int32} {σ : mm_S} {res : Int32 × mm_S} (h_a0 : (mm_K a0).1 = 10) (h : f_X10_ahead a0 i1 i2 i3 σ = some res) : SM g (d + 8) yy_X10_ahead [.ref a0, .int i1, .int i2, .int i3] σ (.int res.1) res.2 := by
  refine s_of (by decide) (Nat.le_of_ble_eq_true rfl) (L := [(0, .ref a0), (1, .int i1), (2, .int i2), (3, .int i3)]) rfl ?_
  unfold f_X10_ahead at h
  refine e_aload_n 0 dX10_ahead_0 rfl rfl ?_
  refine e_iload_n 1 dX10_ahead_1 rfl rfl ?_
  obtain ⟨r36, σ35, q34, h⟩ := bd_some h
  refine s_callVi [.int i1] dX10_ahead_2 ml_RX10_320 h_a0 ⟨_, rfl, by decide⟩ rfl (v_X10_isLodger (d + 7) h_a0 q34) (Nat.le_of_ble_eq_true rfl) ?_
  refine e_if_eq 32 dX10_ahead_5 (by decide) (fun c37 => ?_) (fun c37 => ?_)
  · rw [if_pos c37] at h
    refine e_iconst (v := (-1 : Int32)) dX10_ahead_32 (by decide) ?_
    obtain rfl := Option.some.inj h
    exact s_ret rfl ⟨_, rfl, rfl⟩ dX10_ahead_33
  · rw [if_neg c37] at h
    refine e_iload_n 2 dX10_ahead_8 rfl rfl ?_
    refine e_i2l dX10_ahead_9 ?_
    refine e_lconst (v := (0 : Int64)) dX10_ahead_10 (by decide) ?_
    refine e_ldc2 dX10_ahead_11 co_RX10_389 ?_
    obtain ⟨r40, σ39, q38, h⟩ := bd_some h
    refine s_callSi [.long (i2 : Int32).toInt64, .long (0 : Int64), .long (100 : Int64)] dX10_ahead_14 ml_RX10_136 ⟨_, rfl, by decide⟩ rfl (v_X10_in (d + 7)  q38) (Nat.le_of_ble_eq_true rfl) ?_
    refine e_if_eq 32 dX10_ahead_17 (by decide) (fun c41 => ?_) (fun c41 => ?_)
    · rw [if_pos c41] at h
      refine e_iconst (v := (-1 : Int32)) dX10_ahead_32 (by decide) ?_
      obtain rfl := Option.some.inj h
      exact s_ret rfl ⟨_, rfl, rfl⟩ dX10_ahead_33
    · rw [if_neg c41] at h
      refine e_iload_n 3 dX10_ahead_20 rfl rfl ?_
      refine e_i2l dX10_ahead_21 ?_
      refine e_lconst (v := (0 : Int64)) dX10_ahead_22 (by decide) ?_
      refine e_ldc2 dX10_ahead_23 co_RX10_391 ?_
      obtain ⟨r44, σ43, q42, h⟩ := bd_some h
      refine s_callSi [.long (i3 : Int32).toInt64, .long (0 : Int64), .long (2 : Int64)] dX10_ahead_26 ml_RX10_136 ⟨_, rfl, by decide⟩ rfl (v_X10_in (d + 7)  q42) (Nat.le_of_ble_eq_true rfl) ?_
      refine e_if_ne 34 dX10_ahead_29 (by decide) (fun c45 => ?_) (fun c45 => ?_)
      · rw [if_neg c45] at h
        refine e_aload_n 0 dX10_ahead_34 rfl rfl ?_
        obtain ⟨σ47, q46, h⟩ := bv_some h
        refine s_callVv [] dX10_ahead_35 ml_RX10_393 h_a0 rfl rfl (v_X10_keeps (d + 7) h_a0 q46) (Nat.le_of_ble_eq_true rfl) ?_
        refine e_aload_n 0 dX10_ahead_38 rfl rfl ?_
        refine e_iload_n 2 dX10_ahead_39 rfl rfl ?_
        obtain ⟨σ49, q48, h⟩ := bv_some h
        refine s_callVv [.int i2] dX10_ahead_40 ml_RX10_396 h_a0 rfl rfl (v_X10_passesAll (d + 0) h_a0 q48) (Nat.le_of_ble_eq_true rfl) ?_
        refine e_iload_n 3 dX10_ahead_43 rfl rfl ?_
        refine e_if_ne 55 dX10_ahead_44 (by decide) (fun c50 => ?_) (fun c50 => ?_)
        · rw [if_neg c50] at h
          refine e_iload_n 3 dX10_ahead_55 rfl rfl ?_
          refine e_iconst (v := (1 : Int32)) dX10_ahead_56 (by decide) ?_
          refine e_icmp_ne 68 dX10_ahead_57 (by decide) (fun c51 => ?_) (fun c51 => ?_)
          · rw [if_neg c51] at h
            refine e_aload_n 0 dX10_ahead_68 rfl rfl ?_
            refine e_iload_n 1 dX10_ahead_69 rfl rfl ?_
            obtain ⟨r54, σ53, q52, h⟩ := bd_some h
            refine s_callVi [.int i1] dX10_ahead_70 ml_RX10_311 h_a0 ⟨_, rfl, by decide⟩ rfl (v_X10_sleptBy (d + 7) h_a0 q52) (Nat.le_of_ble_eq_true rfl) ?_
            refine e_istore (L' := [(0, .ref a0), (1, .int i1), (2, .int i2), (3, .int i3), (4, .int r54)]) dX10_ahead_73  (by decide) rfl ?_
            refine e_aload_n 0 dX10_ahead_75 rfl rfl ?_
            obtain ⟨σ56, q55, h⟩ := bv_some h
            refine s_callVv [] dX10_ahead_76 ml_RX10_399 h_a0 rfl rfl (v_X10_laysBack (d + 7) h_a0 q55) (Nat.le_of_ble_eq_true rfl) ?_
            refine e_iload 4 dX10_ahead_79  rfl ?_
            obtain rfl := Option.some.inj h
            exact s_ret rfl ⟨_, rfl, rfl⟩ dX10_ahead_81
          · rw [if_pos c51] at h
            refine e_aload_n 0 dX10_ahead_60 rfl rfl ?_
            refine e_iload_n 1 dX10_ahead_61 rfl rfl ?_
            obtain ⟨r59, σ58, q57, h⟩ := bd_some h
            refine s_callVi [.int i1] dX10_ahead_62 ml_RX10_332 h_a0 ⟨_, rfl, by decide⟩ rfl (v_X10_penceOf (d + 7) h_a0 q57) (Nat.le_of_ble_eq_true rfl) ?_
            refine e_goto 73 dX10_ahead_65 (by decide) ?_
            refine e_istore (L' := [(0, .ref a0), (1, .int i1), (2, .int i2), (3, .int i3), (4, .int r59)]) dX10_ahead_73  (by decide) rfl ?_
            refine e_aload_n 0 dX10_ahead_75 rfl rfl ?_
            obtain ⟨σ61, q60, h⟩ := bv_some h
            refine s_callVv [] dX10_ahead_76 ml_RX10_399 h_a0 rfl rfl (v_X10_laysBack (d + 7) h_a0 q60) (Nat.le_of_ble_eq_true rfl) ?_
            refine e_iload 4 dX10_ahead_79  rfl ?_
            obtain rfl := Option.some.inj h
            exact s_ret rfl ⟨_, rfl, rfl⟩ dX10_ahead_81
        · rw [if_pos c50] at h
          refine e_aload_n 0 dX10_ahead_47 rfl rfl ?_
          refine e_iload_n 1 dX10_ahead_48 rfl rfl ?_
          obtain ⟨r64, σ63, q62, h⟩ := bd_some h
          refine s_callVi [.int i1] dX10_ahead_49 ml_RX10_308 h_a0 ⟨_, rfl, by decide⟩ rfl (v_X10_tiredOf (d + 7) h_a0 q62) (Nat.le_of_ble_eq_true rfl) ?_
          refine e_goto 73 dX10_ahead_52 (by decide) ?_
          refine e_istore (L' := [(0, .ref a0), (1, .int i1), (2, .int i2), (3, .int i3), (4, .int r64)]) dX10_ahead_73  (by decide) rfl ?_
          refine e_aload_n 0 dX10_ahead_75 rfl rfl ?_
          obtain ⟨σ66, q65, h⟩ := bv_some h
          refine s_callVv [] dX10_ahead_76 ml_RX10_399 h_a0 rfl rfl (v_X10_laysBack (d + 7) h_a0 q65) (Nat.le_of_ble_eq_true rfl) ?_
          refine e_iload 4 dX10_ahead_79  rfl ?_
          obtain rfl := Option.some.inj h
          exact s_ret rfl ⟨_, rfl, rfl⟩ dX10_ahead_81
      · rw [if_pos c45] at h
        refine e_iconst (v := (-1 : Int32)) dX10_ahead_32 (by decide) ?_
        obtain rfl := Option.some.inj h
        exact s_ret rfl ⟨_, rfl, rfl⟩ dX10_ahead_33
abbrev yy_X10_rested : mm_Y := (yX10_rested, cX10_rested, 4, (some .int))
theorem dX10_rested_0 : decode cX10_rested 0 = .ok (.aload_n 0, 1) := by decide +kernel
theorem dX10_rested_1 : decode cX10_rested 1 = .ok (.iload_n 1, 1) := by decide +kernel
theorem dX10_rested_2 : decode cX10_rested 2 = .ok (.invokevirtual 320, 3) := by decide +kernel
theorem dX10_rested_5 : decode cX10_rested 5 = .ok (.ifCond .ne 5, 3) := by decide +kernel
theorem dX10_rested_8 : decode cX10_rested 8 = .ok (.iconst (-1), 1) := by decide +kernel
theorem dX10_rested_9 : decode cX10_rested 9 = .ok (.ireturn, 1) := by decide +kernel
theorem dX10_rested_10 : decode cX10_rested 10 = .ok (.bipush (-2), 2) := by decide +kernel
theorem dX10_rested_12 : decode cX10_rested 12 = .ok (.istore_n 2, 1) := by decide +kernel
theorem dX10_rested_13 : decode cX10_rested 13 = .ok (.aload_n 0, 1) := by decide +kernel
theorem dX10_rested_14 : decode cX10_rested 14 = .ok (.invokevirtual 393, 3) := by decide +kernel
theorem dX10_rested_17 : decode cX10_rested 17 = .ok (.iconst 0, 1) := by decide +kernel
theorem dX10_rested_18 : decode cX10_rested 18 = .ok (.istore_n 3, 1) := by decide +kernel
theorem dX10_rested_19 : decode cX10_rested 19 = .ok (.iload_n 3, 1) := by decide +kernel
theorem dX10_rested_20 : decode cX10_rested 20 = .ok (.sipush 200, 3) := by decide +kernel
theorem dX10_rested_23 : decode cX10_rested 23 = .ok (.if_icmp .ge 34, 3) := by decide +kernel
theorem dX10_rested_26 : decode cX10_rested 26 = .ok (.iload_n 2, 1) := by decide +kernel
theorem dX10_rested_27 : decode cX10_rested 27 = .ok (.ifCond .ge 30, 3) := by decide +kernel
theorem dX10_rested_30 : decode cX10_rested 30 = .ok (.aload_n 0, 1) := by decide +kernel
theorem dX10_rested_31 : decode cX10_rested 31 = .ok (.iload_n 1, 1) := by decide +kernel
theorem dX10_rested_32 : decode cX10_rested 32 = .ok (.invokevirtual 308, 3) := by decide +kernel
theorem dX10_rested_35 : decode cX10_rested 35 = .ok (.ifCond .ne 11, 3) := by decide +kernel
theorem dX10_rested_38 : decode cX10_rested 38 = .ok (.aload_n 0, 1) := by decide +kernel
theorem dX10_rested_39 : decode cX10_rested 39 = .ok (.getfield 39, 3) := by decide +kernel
theorem dX10_rested_42 : decode cX10_rested 42 = .ok (.bipush 10, 2) := by decide +kernel
theorem dX10_rested_44 : decode cX10_rested 44 = .ok (.iaload, 1) := by decide +kernel
theorem dX10_rested_45 : decode cX10_rested 45 = .ok (.istore_n 2, 1) := by decide +kernel
theorem dX10_rested_46 : decode cX10_rested 46 = .ok (.aload_n 0, 1) := by decide +kernel
theorem dX10_rested_47 : decode cX10_rested 47 = .ok (.invokevirtual 376, 3) := by decide +kernel
theorem dX10_rested_50 : decode cX10_rested 50 = .ok (.pop, 1) := by decide +kernel
theorem dX10_rested_51 : decode cX10_rested 51 = .ok (.iinc 3 1, 3) := by decide +kernel
theorem dX10_rested_54 : decode cX10_rested 54 = .ok (.goto (-35), 3) := by decide +kernel
theorem dX10_rested_57 : decode cX10_rested 57 = .ok (.aload_n 0, 1) := by decide +kernel
theorem dX10_rested_58 : decode cX10_rested 58 = .ok (.invokevirtual 399, 3) := by decide +kernel
theorem dX10_rested_61 : decode cX10_rested 61 = .ok (.iload_n 2, 1) := by decide +kernel
theorem dX10_rested_62 : decode cX10_rested 62 = .ok (.ireturn, 1) := by decide +kernel
def f_X10_rested_46 (k19 : (Int32 × Int32) → mm_S → Option (Int32 × mm_S)) (a0 : Nat) (i1 : Int32) (i2 : Int32) (i3 : Int32) (σ : mm_S) : Option (Int32 × mm_S) :=
    bd (f_X10_passes a0 σ) fun r3 σ2 =>
    lt (i3 + Int32.ofInt (1)) fun x4 =>
    k19 (i2, x4) σ2
theorem v_X10_rested_46 {g : mm_G} (d : Nat) {k19 : (Int32 × Int32) → mm_S → Option (Int32 × mm_S)} {a0 : Nat} {i1 : Int32} {i2 : Int32} {i3 : Int32} {σ : mm_S} {res : Int32 × mm_S} (H19 : ∀ v σ, k19 v σ = some res → SV g (d + 7) yy_X10_rested 19 [(0, .ref a0), (1, .int i1), (2, .int v.1), (3, .int v.2)] [] σ (.int res.1) res.2) (h_a0 : (mm_K a0).1 = 10) (h : f_X10_rested_46 k19 a0 i1 i2 i3 σ = some res) : SV g (d + 7) yy_X10_rested 46 [(0, .ref a0), (1, .int i1), (2, .int i2), (3, .int i3)] [] σ (.int res.1) res.2 := by
  unfold f_X10_rested_46 at h
  refine e_aload_n 0 dX10_rested_46 rfl rfl ?_
  obtain ⟨r3, σ2, q1, h⟩ := bd_some h
  refine s_callVi [] dX10_rested_47 ml_RX10_376 h_a0 ⟨_, rfl, by decide⟩ rfl (v_X10_passes (d + 0) h_a0 q1) (Nat.le_of_ble_eq_true rfl) ?_
  refine e_pop dX10_rested_50 rfl ?_
  obtain ⟨x4, q5, h⟩ := lt_some h
  refine e_iinc (v := x4) (L' := [(0, .ref a0), (1, .int i1), (2, .int i2), (3, .int x4)]) 3 dX10_rested_51 rfl q5.symm (by decide) rfl ?_
  refine e_goto 19 dX10_rested_54 (by decide) ?_
  refine s_pick (L' := [(0, .ref a0), (1, .int i1), (2, .int i2), (3, .int x4)]) [0, 1, 2, 3] rfl ?_
  exact H19 (i2, x4) σ2 h
def f_X10_rested_19 (a0 : Nat) (i1 : Int32) (i2 : Int32) (i3 : Int32) (σ : mm_S) : Option (Int32 × mm_S) :=
  lp lpN (fun (k19 : (Int32 × Int32) → mm_S → Option (Int32 × mm_S)) (v : Int32 × Int32) (σ : mm_S) =>
    if (200 : Int32) ≤ v.2 then
      bv (f_X10_laysBack a0 σ) fun σ8 =>
      some (v.1, σ8)
    else
      if 0 ≤ v.1 then
        bv (f_X10_laysBack a0 σ) fun σ11 =>
        some (v.1, σ11)
      else
        bd (f_X10_tiredOf a0 i1 σ) fun r14 σ13 =>
        if r14 = 0 then
          gd (10 : Int32) 121 <|
          lt ((σ13.1 224 (10 : Int32).toNatClampNeg)) fun x17 =>
          f_X10_rested_46 k19 a0 i1 x17 v.2 σ13
        else
          f_X10_rested_46 k19 a0 i1 v.1 v.2 σ13) (i2, i3) σ
theorem v_X10_rested_19 {g : mm_G} (d : Nat) {a0 : Nat} {i1 : Int32} {i2 : Int32} {i3 : Int32} {σ : mm_S} {res : Int32 × mm_S}  (h_a0 : (mm_K a0).1 = 10) (h : f_X10_rested_19 a0 i1 i2 i3 σ = some res) : SV g (d + 7) yy_X10_rested 19 [(0, .ref a0), (1, .int i1), (2, .int i2), (3, .int i3)] [] σ (.int res.1) res.2 := by
  unfold f_X10_rested_19 at h
  refine lp_ind (P := fun v σ => SV g (d + 7) yy_X10_rested 19 [(0, .ref a0), (1, .int i1), (2, .int v.1), (3, .int v.2)] [] σ (.int res.1) res.2) (fun k19 H19 v σ h => ?_) _ (i2, i3) σ h
  refine e_iload_n 3 dX10_rested_19 rfl rfl ?_
  refine e_sipush (v := (200 : Int32)) dX10_rested_20 (by decide) ?_
  refine e_icmp_ge 57 dX10_rested_23 (by decide) (fun c6 => ?_) (fun c6 => ?_)
  · rw [if_pos c6] at h
    refine e_aload_n 0 dX10_rested_57 rfl rfl ?_
    obtain ⟨σ8, q7, h⟩ := bv_some h
    refine s_callVv [] dX10_rested_58 ml_RX10_399 h_a0 rfl rfl (v_X10_laysBack (d + 6) h_a0 q7) (Nat.le_of_ble_eq_true rfl) ?_
    refine e_iload_n 2 dX10_rested_61 rfl rfl ?_
    obtain rfl := Option.some.inj h
    exact s_ret rfl ⟨_, rfl, rfl⟩ dX10_rested_62
  · rw [if_neg c6] at h
    refine e_iload_n 2 dX10_rested_26 rfl rfl ?_
    refine e_if_ge 57 dX10_rested_27 (by decide) (fun c9 => ?_) (fun c9 => ?_)
    · rw [if_pos c9] at h
      refine e_aload_n 0 dX10_rested_57 rfl rfl ?_
      obtain ⟨σ11, q10, h⟩ := bv_some h
      refine s_callVv [] dX10_rested_58 ml_RX10_399 h_a0 rfl rfl (v_X10_laysBack (d + 6) h_a0 q10) (Nat.le_of_ble_eq_true rfl) ?_
      refine e_iload_n 2 dX10_rested_61 rfl rfl ?_
      obtain rfl := Option.some.inj h
      exact s_ret rfl ⟨_, rfl, rfl⟩ dX10_rested_62
    · rw [if_neg c9] at h
      refine e_aload_n 0 dX10_rested_30 rfl rfl ?_
      refine e_iload_n 1 dX10_rested_31 rfl rfl ?_
      obtain ⟨r14, σ13, q12, h⟩ := bd_some h
      refine s_callVi [.int i1] dX10_rested_32 ml_RX10_308 h_a0 ⟨_, rfl, by decide⟩ rfl (v_X10_tiredOf (d + 6) h_a0 q12) (Nat.le_of_ble_eq_true rfl) ?_
      refine e_if_ne 46 dX10_rested_35 (by decide) (fun c15 => ?_) (fun c15 => ?_)
      · rw [if_neg c15] at h
        refine s_pick (L' := [(0, .ref a0), (1, .int i1), (2, .int v.1), (3, .int v.2)]) [0, 1, 2, 3] rfl ?_
        exact v_X10_rested_46 d H19 h_a0 h
      · rw [if_pos c15] at h
        refine e_aload_n 0 dX10_rested_38 rfl rfl ?_
        refine s_getr dX10_rested_39 fl_RX10_39 h_a0 (r_10_20 h_a0).1 ?_
        refine e_bipush (v := (10 : Int32)) dX10_rested_42 (by decide) ?_
        obtain ⟨q16, h⟩ := gd_some h
        refine s_iald dX10_rested_44 (r_10_20 (w := 0) h_a0).2 q16 ?_
        obtain ⟨x17, q18, h⟩ := lt_some h
        refine s_nmi q18 ?_
        refine e_istore_n (L' := [(0, .ref a0), (1, .int i1), (2, .int x17), (3, .int v.2)]) dX10_rested_45 rfl (by decide) rfl ?_
        refine s_pick (L' := [(0, .ref a0), (1, .int i1), (2, .int x17), (3, .int v.2)]) [0, 1, 2, 3] rfl ?_
        exact v_X10_rested_46 d H19 h_a0 h
def f_X10_rested (a0 : Nat) (i1 : Int32) (σ : mm_S) : Option (Int32 × mm_S) :=
    bd (f_X10_isLodger a0 i1 σ) fun r27 σ26 =>
    if r27 = 0 then
      some ((-1 : Int32), σ26)
    else
      bv (f_X10_keeps a0 σ26) fun σ30 =>
      f_X10_rested_19 a0 i1 (-2 : Int32) (0 : Int32) σ30
theorem v_X10_rested {g : mm_G} (d : Nat) {a0 : Nat} {i1 : Int32} {σ : mm_S} {res : Int32 × mm_S} (h_a0 : (mm_K a0).1 = 10) (h : f_X10_rested a0 i1 σ = some res) : SM g (d + 7) yy_X10_rested [.ref a0, .int i1] σ (.int res.1) res.2 := by
  refine s_of (by decide) (Nat.le_of_ble_eq_true rfl) (L := [(0, .ref a0), (1, .int i1)]) rfl ?_
  unfold f_X10_rested at h
  refine e_aload_n 0 dX10_rested_0 rfl rfl ?_
  refine e_iload_n 1 dX10_rested_1 rfl rfl ?_
  obtain ⟨r27, σ26, q25, h⟩ := bd_some h
  refine s_callVi [.int i1] dX10_rested_2 ml_RX10_320 h_a0 ⟨_, rfl, by decide⟩ rfl (v_X10_isLodger (d + 6) h_a0 q25) (Nat.le_of_ble_eq_true rfl) ?_
  refine e_if_ne 10 dX10_rested_5 (by decide) (fun c28 => ?_) (fun c28 => ?_)
  · rw [if_neg c28] at h
    refine e_bipush (v := (-2 : Int32)) dX10_rested_10 (by decide) ?_
    refine e_istore_n (L' := [(0, .ref a0), (1, .int i1), (2, .int (-2 : Int32))]) dX10_rested_12 rfl (by decide) rfl ?_
    refine e_aload_n 0 dX10_rested_13 rfl rfl ?_
    obtain ⟨σ30, q29, h⟩ := bv_some h
    refine s_callVv [] dX10_rested_14 ml_RX10_393 h_a0 rfl rfl (v_X10_keeps (d + 6) h_a0 q29) (Nat.le_of_ble_eq_true rfl) ?_
    refine e_iconst (v := (0 : Int32)) dX10_rested_17 (by decide) ?_
    refine e_istore_n (L' := [(0, .ref a0), (1, .int i1), (2, .int (-2 : Int32)), (3, .int (0 : Int32))]) dX10_rested_18 rfl (by decide) rfl ?_
    refine s_pick (L' := [(0, .ref a0), (1, .int i1), (2, .int (-2 : Int32)), (3, .int (0 : Int32))]) [0, 1, 2, 3] rfl ?_
    exact v_X10_rested_19 d h_a0 h
  · rw [if_pos c28] at h
    refine e_iconst (v := (-1 : Int32)) dX10_rested_8 (by decide) ?_
    obtain rfl := Option.some.inj h
    exact s_ret rfl ⟨_, rfl, rfl⟩ dX10_rested_9
abbrev yy_X10_chain : mm_Y := (yX10_chain, cX10_chain, 5, (some .int))
theorem dX10_chain_0 : decode cX10_chain 0 = .ok (.aload_n 0, 1) := by decide +kernel
theorem dX10_chain_1 : decode cX10_chain 1 = .ok (.iload_n 1, 1) := by decide +kernel
theorem dX10_chain_2 : decode cX10_chain 2 = .ok (.invokevirtual 320, 3) := by decide +kernel
theorem dX10_chain_5 : decode cX10_chain 5 = .ok (.ifCond .eq 13, 3) := by decide +kernel
theorem dX10_chain_8 : decode cX10_chain 8 = .ok (.iload_n 2, 1) := by decide +kernel
theorem dX10_chain_9 : decode cX10_chain 9 = .ok (.i2l, 1) := by decide +kernel
theorem dX10_chain_10 : decode cX10_chain 10 = .ok (.lconst 0, 1) := by decide +kernel
theorem dX10_chain_11 : decode cX10_chain 11 = .ok (.lconst 1, 1) := by decide +kernel
theorem dX10_chain_12 : decode cX10_chain 12 = .ok (.invokestatic 136, 3) := by decide +kernel
theorem dX10_chain_15 : decode cX10_chain 15 = .ok (.ifCond .ne 5, 3) := by decide +kernel
theorem dX10_chain_18 : decode cX10_chain 18 = .ok (.iconst (-1), 1) := by decide +kernel
theorem dX10_chain_19 : decode cX10_chain 19 = .ok (.ireturn, 1) := by decide +kernel
theorem dX10_chain_20 : decode cX10_chain 20 = .ok (.iconst 0, 1) := by decide +kernel
theorem dX10_chain_21 : decode cX10_chain 21 = .ok (.istore_n 3, 1) := by decide +kernel
theorem dX10_chain_22 : decode cX10_chain 22 = .ok (.iload_n 1, 1) := by decide +kernel
theorem dX10_chain_23 : decode cX10_chain 23 = .ok (.istore 4, 2) := by decide +kernel
theorem dX10_chain_25 : decode cX10_chain 25 = .ok (.iload 4, 2) := by decide +kernel
theorem dX10_chain_27 : decode cX10_chain 27 = .ok (.ifCond .lt 30, 3) := by decide +kernel
theorem dX10_chain_30 : decode cX10_chain 30 = .ok (.iload_n 3, 1) := by decide +kernel
theorem dX10_chain_31 : decode cX10_chain 31 = .ok (.iload 4, 2) := by decide +kernel
theorem dX10_chain_33 : decode cX10_chain 33 = .ok (.invokestatic 314, 3) := by decide +kernel
theorem dX10_chain_36 : decode cX10_chain 36 = .ok (.ifCond .ne 21, 3) := by decide +kernel
theorem dX10_chain_39 : decode cX10_chain 39 = .ok (.iload_n 3, 1) := by decide +kernel
theorem dX10_chain_40 : decode cX10_chain 40 = .ok (.iconst 1, 1) := by decide +kernel
theorem dX10_chain_41 : decode cX10_chain 41 = .ok (.iload 4, 2) := by decide +kernel
theorem dX10_chain_43 : decode cX10_chain 43 = .ok (.ishl, 1) := by decide +kernel
theorem dX10_chain_44 : decode cX10_chain 44 = .ok (.ior, 1) := by decide +kernel
theorem dX10_chain_45 : decode cX10_chain 45 = .ok (.istore_n 3, 1) := by decide +kernel
theorem dX10_chain_46 : decode cX10_chain 46 = .ok (.aload_n 0, 1) := by decide +kernel
theorem dX10_chain_47 : decode cX10_chain 47 = .ok (.iload 4, 2) := by decide +kernel
theorem dX10_chain_49 : decode cX10_chain 49 = .ok (.invokevirtual 305, 3) := by decide +kernel
theorem dX10_chain_52 : decode cX10_chain 52 = .ok (.istore 4, 2) := by decide +kernel
theorem dX10_chain_54 : decode cX10_chain 54 = .ok (.goto (-29), 3) := by decide +kernel
theorem dX10_chain_57 : decode cX10_chain 57 = .ok (.iload_n 2, 1) := by decide +kernel
theorem dX10_chain_58 : decode cX10_chain 58 = .ok (.ifCond .ne 10, 3) := by decide +kernel
theorem dX10_chain_61 : decode cX10_chain 61 = .ok (.iload_n 3, 1) := by decide +kernel
theorem dX10_chain_62 : decode cX10_chain 62 = .ok (.invokestatic 338, 3) := by decide +kernel
theorem dX10_chain_65 : decode cX10_chain 65 = .ok (.goto 14, 3) := by decide +kernel
theorem dX10_chain_68 : decode cX10_chain 68 = .ok (.iload 4, 2) := by decide +kernel
theorem dX10_chain_70 : decode cX10_chain 70 = .ok (.iload_n 1, 1) := by decide +kernel
theorem dX10_chain_71 : decode cX10_chain 71 = .ok (.if_icmp .ne 7, 3) := by decide +kernel
theorem dX10_chain_74 : decode cX10_chain 74 = .ok (.iconst 1, 1) := by decide +kernel
theorem dX10_chain_75 : decode cX10_chain 75 = .ok (.goto 4, 3) := by decide +kernel
theorem dX10_chain_78 : decode cX10_chain 78 = .ok (.iconst 0, 1) := by decide +kernel
theorem dX10_chain_79 : decode cX10_chain 79 = .ok (.ireturn, 1) := by decide +kernel
def f_X10_chain_57 (i1 : Int32) (i2 : Int32) (i3 : Int32) (i4 : Int32) (σ : mm_S) : Option (Int32 × mm_S) :=
    if i2 = 0 then
      bd (f_X10_bits i3 σ) fun r5 σ4 =>
      some (r5, σ4)
    else
      if i4 = i1 then
        some ((1 : Int32), σ)
      else
        some ((0 : Int32), σ)
theorem v_X10_chain_57 {g : mm_G} (d : Nat) {i1 : Int32} {i2 : Int32} {i3 : Int32} {i4 : Int32} {σ : mm_S} {res : Int32 × mm_S}   (h : f_X10_chain_57 i1 i2 i3 i4 σ = some res) : SV g (d + 1) yy_X10_chain 57 [(1, .int i1), (2, .int i2), (3, .int i3), (4, .int i4)] [] σ (.int res.1) res.2 := by
  unfold f_X10_chain_57 at h
  refine e_iload_n 1 dX10_chain_57 rfl rfl ?_
  refine e_if_ne 68 dX10_chain_58 (by decide) (fun c1 => ?_) (fun c1 => ?_)
  · rw [if_neg c1] at h
    refine e_iload 3 dX10_chain_68  rfl ?_
    refine e_iload_n 0 dX10_chain_70 rfl rfl ?_
    refine e_icmp_ne 78 dX10_chain_71 (by decide) (fun c2 => ?_) (fun c2 => ?_)
    · rw [if_neg c2] at h
      refine e_iconst (v := (0 : Int32)) dX10_chain_78 (by decide) ?_
      obtain rfl := Option.some.inj h
      exact s_ret rfl ⟨_, rfl, rfl⟩ dX10_chain_79
    · rw [if_pos c2] at h
      refine e_iconst (v := (1 : Int32)) dX10_chain_74 (by decide) ?_
      refine e_goto 79 dX10_chain_75 (by decide) ?_
      obtain rfl := Option.some.inj h
      exact s_ret rfl ⟨_, rfl, rfl⟩ dX10_chain_79
  · rw [if_pos c1] at h
    refine e_iload_n 2 dX10_chain_61 rfl rfl ?_
    obtain ⟨r5, σ4, q3, h⟩ := bd_some h
    refine s_callSi [.int i3] dX10_chain_62 ml_RX10_338 ⟨_, rfl, by decide⟩ rfl (v_X10_bits (d + 0)  q3) (Nat.le_of_ble_eq_true rfl) ?_
    refine e_goto 79 dX10_chain_65 (by decide) ?_
    obtain rfl := Option.some.inj h
    exact s_ret rfl ⟨_, rfl, rfl⟩ dX10_chain_79
def f_X10_chain_25 (a0 : Nat) (i1 : Int32) (i2 : Int32) (i3 : Int32) (i4 : Int32) (σ : mm_S) : Option (Int32 × mm_S) :=
  lp lpN (fun (k25 : (Int32 × Int32) → mm_S → Option (Int32 × mm_S)) (v : Int32 × Int32) (σ : mm_S) =>
    if v.2 < 0 then
      f_X10_chain_57 i1 i2 v.1 v.2 σ
    else
      bd (f_X10_isOf v.1 v.2 σ) fun r9 σ8 =>
      if r9 = 0 then
        lt ((v.1 ||| ((1 : Int32) <<< (v.2 &&& 31)))) fun x11 =>
        bd (f_X10_soughtBy a0 v.2 σ8) fun r15 σ14 =>
        k25 (x11, r15) σ14
      else
        f_X10_chain_57 i1 i2 v.1 v.2 σ8) (i3, i4) σ
theorem v_X10_chain_25 {g : mm_G} (d : Nat) {a0 : Nat} {i1 : Int32} {i2 : Int32} {i3 : Int32} {i4 : Int32} {σ : mm_S} {res : Int32 × mm_S}  (h_a0 : (mm_K a0).1 = 10) (h : f_X10_chain_25 a0 i1 i2 i3 i4 σ = some res) : SV g (d + 1) yy_X10_chain 25 [(0, .ref a0), (1, .int i1), (2, .int i2), (3, .int i3), (4, .int i4)] [] σ (.int res.1) res.2 := by
  unfold f_X10_chain_25 at h
  refine lp_ind (P := fun v σ => SV g (d + 1) yy_X10_chain 25 [(0, .ref a0), (1, .int i1), (2, .int i2), (3, .int v.1), (4, .int v.2)] [] σ (.int res.1) res.2) (fun k25 H25 v σ h => ?_) _ (i3, i4) σ h
  refine e_iload 4 dX10_chain_25  rfl ?_
  refine e_if_lt 57 dX10_chain_27 (by decide) (fun c6 => ?_) (fun c6 => ?_)
  · rw [if_pos c6] at h
    refine s_pick (L' := [(1, .int i1), (2, .int i2), (3, .int v.1), (4, .int v.2)]) [1, 2, 3, 4] rfl ?_
    exact v_X10_chain_57 d  h
  · rw [if_neg c6] at h
    refine e_iload_n 3 dX10_chain_30 rfl rfl ?_
    refine e_iload 4 dX10_chain_31  rfl ?_
    obtain ⟨r9, σ8, q7, h⟩ := bd_some h
    refine s_callSi [.int v.1, .int v.2] dX10_chain_33 ml_RX10_314 ⟨_, rfl, by decide⟩ rfl (v_X10_isOf (d + 0)  q7) (Nat.le_of_ble_eq_true rfl) ?_
    refine e_if_ne 57 dX10_chain_36 (by decide) (fun c10 => ?_) (fun c10 => ?_)
    · rw [if_neg c10] at h
      refine s_pick (L' := [(1, .int i1), (2, .int i2), (3, .int v.1), (4, .int v.2)]) [1, 2, 3, 4] rfl ?_
      exact v_X10_chain_57 d  h
    · rw [if_pos c10] at h
      refine e_iload_n 3 dX10_chain_39 rfl rfl ?_
      refine e_iconst (v := (1 : Int32)) dX10_chain_40 (by decide) ?_
      refine e_iload 4 dX10_chain_41  rfl ?_
      refine e_ishl dX10_chain_43 ?_
      refine e_ior dX10_chain_44 ?_
      obtain ⟨x11, q12, h⟩ := lt_some h
      refine s_nmi q12 ?_
      refine e_istore_n (L' := [(0, .ref a0), (1, .int i1), (2, .int i2), (3, .int x11), (4, .int v.2)]) dX10_chain_45 rfl (by decide) rfl ?_
      refine e_aload_n 0 dX10_chain_46 rfl rfl ?_
      refine e_iload 4 dX10_chain_47  rfl ?_
      obtain ⟨r15, σ14, q13, h⟩ := bd_some h
      refine s_callVi [.int v.2] dX10_chain_49 ml_RX10_305 h_a0 ⟨_, rfl, by decide⟩ rfl (v_X10_soughtBy (d + 0) h_a0 q13) (Nat.le_of_ble_eq_true rfl) ?_
      refine e_istore (L' := [(0, .ref a0), (1, .int i1), (2, .int i2), (3, .int x11), (4, .int r15)]) dX10_chain_52  (by decide) rfl ?_
      refine e_goto 25 dX10_chain_54 (by decide) ?_
      refine s_pick (L' := [(0, .ref a0), (1, .int i1), (2, .int i2), (3, .int x11), (4, .int r15)]) [0, 1, 2, 3, 4] rfl ?_
      exact H25 (x11, r15) σ14 h
def f_X10_chain (a0 : Nat) (i1 : Int32) (i2 : Int32) (σ : mm_S) : Option (Int32 × mm_S) :=
    bd (f_X10_isLodger a0 i1 σ) fun r26 σ25 =>
    if r26 = 0 then
      some ((-1 : Int32), σ25)
    else
      bd (f_X10_in (i2 : Int32).toInt64 (0 : Int64) (1 : Int64) σ25) fun r30 σ29 =>
      if r30 = 0 then
        some ((-1 : Int32), σ29)
      else
        f_X10_chain_25 a0 i1 i2 (0 : Int32) i1 σ29
theorem v_X10_chain {g : mm_G} (d : Nat) {a0 : Nat} {i1 : Int32} {i2 : Int32} {σ : mm_S} {res : Int32 × mm_S} (h_a0 : (mm_K a0).1 = 10) (h : f_X10_chain a0 i1 i2 σ = some res) : SM g (d + 1) yy_X10_chain [.ref a0, .int i1, .int i2] σ (.int res.1) res.2 := by
  refine s_of (by decide) (Nat.le_of_ble_eq_true rfl) (L := [(0, .ref a0), (1, .int i1), (2, .int i2)]) rfl ?_
  unfold f_X10_chain at h
  refine e_aload_n 0 dX10_chain_0 rfl rfl ?_
  refine e_iload_n 1 dX10_chain_1 rfl rfl ?_
  obtain ⟨r26, σ25, q24, h⟩ := bd_some h
  refine s_callVi [.int i1] dX10_chain_2 ml_RX10_320 h_a0 ⟨_, rfl, by decide⟩ rfl (v_X10_isLodger (d + 0) h_a0 q24) (Nat.le_of_ble_eq_true rfl) ?_
  refine e_if_eq 18 dX10_chain_5 (by decide) (fun c27 => ?_) (fun c27 => ?_)
  · rw [if_pos c27] at h
    refine e_iconst (v := (-1 : Int32)) dX10_chain_18 (by decide) ?_
    obtain rfl := Option.some.inj h
    exact s_ret rfl ⟨_, rfl, rfl⟩ dX10_chain_19
  · rw [if_neg c27] at h
    refine e_iload_n 2 dX10_chain_8 rfl rfl ?_
    refine e_i2l dX10_chain_9 ?_
    refine e_lconst (v := (0 : Int64)) dX10_chain_10 (by decide) ?_
    refine e_lconst (v := (1 : Int64)) dX10_chain_11 (by decide) ?_
    obtain ⟨r30, σ29, q28, h⟩ := bd_some h
    refine s_callSi [.long (i2 : Int32).toInt64, .long (0 : Int64), .long (1 : Int64)] dX10_chain_12 ml_RX10_136 ⟨_, rfl, by decide⟩ rfl (v_X10_in (d + 0)  q28) (Nat.le_of_ble_eq_true rfl) ?_
    refine e_if_ne 20 dX10_chain_15 (by decide) (fun c31 => ?_) (fun c31 => ?_)
    · rw [if_neg c31] at h
      refine e_iconst (v := (0 : Int32)) dX10_chain_20 (by decide) ?_
      refine e_istore_n (L' := [(0, .ref a0), (1, .int i1), (2, .int i2), (3, .int (0 : Int32))]) dX10_chain_21 rfl (by decide) rfl ?_
      refine e_iload_n 1 dX10_chain_22 rfl rfl ?_
      refine e_istore (L' := [(0, .ref a0), (1, .int i1), (2, .int i2), (3, .int (0 : Int32)), (4, .int i1)]) dX10_chain_23  (by decide) rfl ?_
      refine s_pick (L' := [(0, .ref a0), (1, .int i1), (2, .int i2), (3, .int (0 : Int32)), (4, .int i1)]) [0, 1, 2, 3, 4] rfl ?_
      exact v_X10_chain_25 d h_a0 h
    · rw [if_pos c31] at h
      refine e_iconst (v := (-1 : Int32)) dX10_chain_18 (by decide) ?_
      obtain rfl := Option.some.inj h
      exact s_ret rfl ⟨_, rfl, rfl⟩ dX10_chain_19
abbrev yy_X10_lonely : mm_Y := (yX10_lonely, cX10_lonely, 1, (some .int))
theorem dX10_lonely_0 : decode cX10_lonely 0 = .ok (.aload_n 0, 1) := by decide +kernel
theorem dX10_lonely_1 : decode cX10_lonely 1 = .ok (.invokevirtual 379, 3) := by decide +kernel
theorem dX10_lonely_4 : decode cX10_lonely 4 = .ok (.ifCond .eq 23, 3) := by decide +kernel
theorem dX10_lonely_7 : decode cX10_lonely 7 = .ok (.iconst 1, 1) := by decide +kernel
theorem dX10_lonely_8 : decode cX10_lonely 8 = .ok (.aload_n 0, 1) := by decide +kernel
theorem dX10_lonely_9 : decode cX10_lonely 9 = .ok (.getfield 39, 3) := by decide +kernel
theorem dX10_lonely_12 : decode cX10_lonely 12 = .ok (.iconst 3, 1) := by decide +kernel
theorem dX10_lonely_13 : decode cX10_lonely 13 = .ok (.iaload, 1) := by decide +kernel
theorem dX10_lonely_14 : decode cX10_lonely 14 = .ok (.ishl, 1) := by decide +kernel
theorem dX10_lonely_15 : decode cX10_lonely 15 = .ok (.iconst 1, 1) := by decide +kernel
theorem dX10_lonely_16 : decode cX10_lonely 16 = .ok (.isub, 1) := by decide +kernel
theorem dX10_lonely_17 : decode cX10_lonely 17 = .ok (.aload_n 0, 1) := by decide +kernel
theorem dX10_lonely_18 : decode cX10_lonely 18 = .ok (.invokevirtual 352, 3) := by decide +kernel
theorem dX10_lonely_21 : decode cX10_lonely 21 = .ok (.iconst (-1), 1) := by decide +kernel
theorem dX10_lonely_22 : decode cX10_lonely 22 = .ok (.ixor, 1) := by decide +kernel
theorem dX10_lonely_23 : decode cX10_lonely 23 = .ok (.iand, 1) := by decide +kernel
theorem dX10_lonely_24 : decode cX10_lonely 24 = .ok (.goto 4, 3) := by decide +kernel
theorem dX10_lonely_27 : decode cX10_lonely 27 = .ok (.iconst (-1), 1) := by decide +kernel
theorem dX10_lonely_28 : decode cX10_lonely 28 = .ok (.ireturn, 1) := by decide +kernel
def f_X10_lonely (a0 : Nat) (σ : mm_S) : Option (Int32 × mm_S) :=
    bd (f_X10_isHouse a0 σ) fun r11 σ10 =>
    if r11 = 0 then
      some ((-1 : Int32), σ10)
    else
      gd (3 : Int32) 121 <|
      bd (f_X10_soughtOnes a0 σ10) fun r16 σ15 =>
      some (((((1 : Int32) <<< ((σ10.1 224 (3 : Int32).toNatClampNeg) &&& 31)) - (1 : Int32)) &&& (r16 ^^^ (-1 : Int32))), σ15)
theorem v_X10_lonely {g : mm_G} (d : Nat) {a0 : Nat} {σ : mm_S} {res : Int32 × mm_S} (h_a0 : (mm_K a0).1 = 10) (h : f_X10_lonely a0 σ = some res) : SM g (d + 2) yy_X10_lonely [.ref a0] σ (.int res.1) res.2 := by
  refine s_of (by decide) (Nat.le_of_ble_eq_true rfl) (L := [(0, .ref a0)]) rfl ?_
  unfold f_X10_lonely at h
  refine e_aload_n 0 dX10_lonely_0 rfl rfl ?_
  obtain ⟨r11, σ10, q9, h⟩ := bd_some h
  refine s_callVi [] dX10_lonely_1 ml_RX10_379 h_a0 ⟨_, rfl, by decide⟩ rfl (v_X10_isHouse (d + 1) h_a0 q9) (Nat.le_of_ble_eq_true rfl) ?_
  refine e_if_eq 27 dX10_lonely_4 (by decide) (fun c12 => ?_) (fun c12 => ?_)
  · rw [if_pos c12] at h
    refine e_iconst (v := (-1 : Int32)) dX10_lonely_27 (by decide) ?_
    obtain rfl := Option.some.inj h
    exact s_ret rfl ⟨_, rfl, rfl⟩ dX10_lonely_28
  · rw [if_neg c12] at h
    refine e_iconst (v := (1 : Int32)) dX10_lonely_7 (by decide) ?_
    refine e_aload_n 0 dX10_lonely_8 rfl rfl ?_
    refine s_getr dX10_lonely_9 fl_RX10_39 h_a0 (r_10_20 h_a0).1 ?_
    refine e_iconst (v := (3 : Int32)) dX10_lonely_12 (by decide) ?_
    obtain ⟨q13, h⟩ := gd_some h
    refine s_iald dX10_lonely_13 (r_10_20 (w := 0) h_a0).2 q13 ?_
    refine e_ishl dX10_lonely_14 ?_
    refine e_iconst (v := (1 : Int32)) dX10_lonely_15 (by decide) ?_
    refine e_isub dX10_lonely_16 ?_
    refine e_aload_n 0 dX10_lonely_17 rfl rfl ?_
    obtain ⟨r16, σ15, q14, h⟩ := bd_some h
    refine s_callVi [] dX10_lonely_18 ml_RX10_352 h_a0 ⟨_, rfl, by decide⟩ rfl (v_X10_soughtOnes (d + 0) h_a0 q14) (Nat.le_of_ble_eq_true rfl) ?_
    refine e_iconst (v := (-1 : Int32)) dX10_lonely_21 (by decide) ?_
    refine e_ixor dX10_lonely_22 ?_
    refine e_iand dX10_lonely_23 ?_
    refine e_goto 28 dX10_lonely_24 (by decide) ?_
    obtain rfl := Option.some.inj h
    exact s_ret rfl ⟨_, rfl, rfl⟩ dX10_lonely_28
abbrev yy_X10_weighsRow : mm_Y := (yX10_weighsRow, cX10_weighsRow, 4, none)
theorem dX10_weighsRow_0 : decode cX10_weighsRow 0 = .ok (.iconst 0, 1) := by decide +kernel
theorem dX10_weighsRow_1 : decode cX10_weighsRow 1 = .ok (.istore_n 1, 1) := by decide +kernel
theorem dX10_weighsRow_2 : decode cX10_weighsRow 2 = .ok (.iconst 0, 1) := by decide +kernel
theorem dX10_weighsRow_3 : decode cX10_weighsRow 3 = .ok (.istore_n 2, 1) := by decide +kernel
theorem dX10_weighsRow_4 : decode cX10_weighsRow 4 = .ok (.iconst 0, 1) := by decide +kernel
theorem dX10_weighsRow_5 : decode cX10_weighsRow 5 = .ok (.istore_n 3, 1) := by decide +kernel
theorem dX10_weighsRow_6 : decode cX10_weighsRow 6 = .ok (.iload_n 3, 1) := by decide +kernel
theorem dX10_weighsRow_7 : decode cX10_weighsRow 7 = .ok (.aload_n 0, 1) := by decide +kernel
theorem dX10_weighsRow_8 : decode cX10_weighsRow 8 = .ok (.getfield 39, 3) := by decide +kernel
theorem dX10_weighsRow_11 : decode cX10_weighsRow 11 = .ok (.iconst 3, 1) := by decide +kernel
theorem dX10_weighsRow_12 : decode cX10_weighsRow 12 = .ok (.iaload, 1) := by decide +kernel
theorem dX10_weighsRow_13 : decode cX10_weighsRow 13 = .ok (.if_icmp .ge 37, 3) := by decide +kernel
theorem dX10_weighsRow_16 : decode cX10_weighsRow 16 = .ok (.aload_n 0, 1) := by decide +kernel
theorem dX10_weighsRow_17 : decode cX10_weighsRow 17 = .ok (.getfield 67, 3) := by decide +kernel
theorem dX10_weighsRow_20 : decode cX10_weighsRow 20 = .ok (.iload_n 3, 1) := by decide +kernel
theorem dX10_weighsRow_21 : decode cX10_weighsRow 21 = .ok (.iaload, 1) := by decide +kernel
theorem dX10_weighsRow_22 : decode cX10_weighsRow 22 = .ok (.ifCond .ne 6, 3) := by decide +kernel
theorem dX10_weighsRow_25 : decode cX10_weighsRow 25 = .ok (.goto 19, 3) := by decide +kernel
theorem dX10_weighsRow_28 : decode cX10_weighsRow 28 = .ok (.iload_n 1, 1) := by decide +kernel
theorem dX10_weighsRow_29 : decode cX10_weighsRow 29 = .ok (.iconst 1, 1) := by decide +kernel
theorem dX10_weighsRow_30 : decode cX10_weighsRow 30 = .ok (.aload_n 0, 1) := by decide +kernel
theorem dX10_weighsRow_31 : decode cX10_weighsRow 31 = .ok (.getfield 67, 3) := by decide +kernel
theorem dX10_weighsRow_34 : decode cX10_weighsRow 34 = .ok (.iload_n 3, 1) := by decide +kernel
theorem dX10_weighsRow_35 : decode cX10_weighsRow 35 = .ok (.iaload, 1) := by decide +kernel
theorem dX10_weighsRow_36 : decode cX10_weighsRow 36 = .ok (.iconst 1, 1) := by decide +kernel
theorem dX10_weighsRow_37 : decode cX10_weighsRow 37 = .ok (.isub, 1) := by decide +kernel
theorem dX10_weighsRow_38 : decode cX10_weighsRow 38 = .ok (.ishl, 1) := by decide +kernel
theorem dX10_weighsRow_39 : decode cX10_weighsRow 39 = .ok (.ior, 1) := by decide +kernel
theorem dX10_weighsRow_40 : decode cX10_weighsRow 40 = .ok (.istore_n 1, 1) := by decide +kernel
theorem dX10_weighsRow_41 : decode cX10_weighsRow 41 = .ok (.iinc 2 1, 3) := by decide +kernel
theorem dX10_weighsRow_44 : decode cX10_weighsRow 44 = .ok (.iinc 3 1, 3) := by decide +kernel
theorem dX10_weighsRow_47 : decode cX10_weighsRow 47 = .ok (.goto (-41), 3) := by decide +kernel
theorem dX10_weighsRow_50 : decode cX10_weighsRow 50 = .ok (.iload_n 2, 1) := by decide +kernel
theorem dX10_weighsRow_51 : decode cX10_weighsRow 51 = .ok (.aload_n 0, 1) := by decide +kernel
theorem dX10_weighsRow_52 : decode cX10_weighsRow 52 = .ok (.getfield 39, 3) := by decide +kernel
theorem dX10_weighsRow_55 : decode cX10_weighsRow 55 = .ok (.iconst 2, 1) := by decide +kernel
theorem dX10_weighsRow_56 : decode cX10_weighsRow 56 = .ok (.iaload, 1) := by decide +kernel
theorem dX10_weighsRow_57 : decode cX10_weighsRow 57 = .ok (.if_icmp .gt 33, 3) := by decide +kernel
theorem dX10_weighsRow_60 : decode cX10_weighsRow 60 = .ok (.iload_n 1, 1) := by decide +kernel
theorem dX10_weighsRow_61 : decode cX10_weighsRow 61 = .ok (.invokestatic 338, 3) := by decide +kernel
theorem dX10_weighsRow_64 : decode cX10_weighsRow 64 = .ok (.aload_n 0, 1) := by decide +kernel
theorem dX10_weighsRow_65 : decode cX10_weighsRow 65 = .ok (.getfield 402, 3) := by decide +kernel
theorem dX10_weighsRow_68 : decode cX10_weighsRow 68 = .ok (.if_icmp .lt 22, 3) := by decide +kernel
theorem dX10_weighsRow_71 : decode cX10_weighsRow 71 = .ok (.iload_n 1, 1) := by decide +kernel
theorem dX10_weighsRow_72 : decode cX10_weighsRow 72 = .ok (.invokestatic 338, 3) := by decide +kernel
theorem dX10_weighsRow_75 : decode cX10_weighsRow 75 = .ok (.aload_n 0, 1) := by decide +kernel
theorem dX10_weighsRow_76 : decode cX10_weighsRow 76 = .ok (.getfield 402, 3) := by decide +kernel
theorem dX10_weighsRow_79 : decode cX10_weighsRow 79 = .ok (.if_icmp .ne 12, 3) := by decide +kernel
theorem dX10_weighsRow_82 : decode cX10_weighsRow 82 = .ok (.iload_n 2, 1) := by decide +kernel
theorem dX10_weighsRow_83 : decode cX10_weighsRow 83 = .ok (.aload_n 0, 1) := by decide +kernel
theorem dX10_weighsRow_84 : decode cX10_weighsRow 84 = .ok (.getfield 405, 3) := by decide +kernel
theorem dX10_weighsRow_87 : decode cX10_weighsRow 87 = .ok (.if_icmp .lt 4, 3) := by decide +kernel
theorem dX10_weighsRow_90 : decode cX10_weighsRow 90 = .ok (.return_, 1) := by decide +kernel
theorem dX10_weighsRow_91 : decode cX10_weighsRow 91 = .ok (.aload_n 0, 1) := by decide +kernel
theorem dX10_weighsRow_92 : decode cX10_weighsRow 92 = .ok (.iload_n 1, 1) := by decide +kernel
theorem dX10_weighsRow_93 : decode cX10_weighsRow 93 = .ok (.invokestatic 338, 3) := by decide +kernel
theorem dX10_weighsRow_96 : decode cX10_weighsRow 96 = .ok (.putfield 402, 3) := by decide +kernel
theorem dX10_weighsRow_99 : decode cX10_weighsRow 99 = .ok (.aload_n 0, 1) := by decide +kernel
theorem dX10_weighsRow_100 : decode cX10_weighsRow 100 = .ok (.iload_n 2, 1) := by decide +kernel
theorem dX10_weighsRow_101 : decode cX10_weighsRow 101 = .ok (.putfield 405, 3) := by decide +kernel
theorem dX10_weighsRow_104 : decode cX10_weighsRow 104 = .ok (.iconst 0, 1) := by decide +kernel
theorem dX10_weighsRow_105 : decode cX10_weighsRow 105 = .ok (.istore_n 3, 1) := by decide +kernel
theorem dX10_weighsRow_106 : decode cX10_weighsRow 106 = .ok (.iload_n 3, 1) := by decide +kernel
theorem dX10_weighsRow_107 : decode cX10_weighsRow 107 = .ok (.aload_n 0, 1) := by decide +kernel
theorem dX10_weighsRow_108 : decode cX10_weighsRow 108 = .ok (.getfield 39, 3) := by decide +kernel
theorem dX10_weighsRow_111 : decode cX10_weighsRow 111 = .ok (.iconst 3, 1) := by decide +kernel
theorem dX10_weighsRow_112 : decode cX10_weighsRow 112 = .ok (.iaload, 1) := by decide +kernel
theorem dX10_weighsRow_113 : decode cX10_weighsRow 113 = .ok (.if_icmp .ge 23, 3) := by decide +kernel
theorem dX10_weighsRow_116 : decode cX10_weighsRow 116 = .ok (.aload_n 0, 1) := by decide +kernel
theorem dX10_weighsRow_117 : decode cX10_weighsRow 117 = .ok (.getfield 70, 3) := by decide +kernel
theorem dX10_weighsRow_120 : decode cX10_weighsRow 120 = .ok (.iload_n 3, 1) := by decide +kernel
theorem dX10_weighsRow_121 : decode cX10_weighsRow 121 = .ok (.aload_n 0, 1) := by decide +kernel
theorem dX10_weighsRow_122 : decode cX10_weighsRow 122 = .ok (.getfield 67, 3) := by decide +kernel
theorem dX10_weighsRow_125 : decode cX10_weighsRow 125 = .ok (.iload_n 3, 1) := by decide +kernel
theorem dX10_weighsRow_126 : decode cX10_weighsRow 126 = .ok (.iaload, 1) := by decide +kernel
theorem dX10_weighsRow_127 : decode cX10_weighsRow 127 = .ok (.iconst 1, 1) := by decide +kernel
theorem dX10_weighsRow_128 : decode cX10_weighsRow 128 = .ok (.isub, 1) := by decide +kernel
theorem dX10_weighsRow_129 : decode cX10_weighsRow 129 = .ok (.iastore, 1) := by decide +kernel
theorem dX10_weighsRow_130 : decode cX10_weighsRow 130 = .ok (.iinc 3 1, 3) := by decide +kernel
theorem dX10_weighsRow_133 : decode cX10_weighsRow 133 = .ok (.goto (-27), 3) := by decide +kernel
theorem dX10_weighsRow_136 : decode cX10_weighsRow 136 = .ok (.return_, 1) := by decide +kernel
def f_X10_weighsRow_106 (a0 : Nat) (i3 : Int32) (σ : mm_S) : Option (mm_S) :=
  lp lpN (fun (k106 : (Int32) → mm_S → Option (mm_S)) (v : Int32) (σ : mm_S) =>
    gd (3 : Int32) 121 <|
    if (σ.1 224 (3 : Int32).toNatClampNeg) ≤ v then
      some σ
    else
      gd v 7 <|
      gd v 6 <|
      lt (su_i σ 231 v.toNatClampNeg ((σ.1 230 v.toNatClampNeg) - (1 : Int32))) fun σ5 =>
      lt (v + Int32.ofInt (1)) fun x7 =>
      k106 x7 σ5) i3 σ
theorem v_X10_weighsRow_106 {g : mm_G} (d : Nat) {a0 : Nat} {i3 : Int32} {σ : mm_S} {res : mm_S}  (h_a0 : (mm_K a0).1 = 10) (h : f_X10_weighsRow_106 a0 i3 σ = some res) : SV g (d + 1) yy_X10_weighsRow 106 [(0, .ref a0), (3, .int i3)] [] σ .null res := by
  unfold f_X10_weighsRow_106 at h
  refine lp_ind (P := fun v σ => SV g (d + 1) yy_X10_weighsRow 106 [(0, .ref a0), (3, .int v)] [] σ .null res) (fun k106 H106 v σ h => ?_) _ i3 σ h
  refine e_iload_n 1 dX10_weighsRow_106 rfl rfl ?_
  refine e_aload_n 0 dX10_weighsRow_107 rfl rfl ?_
  refine s_getr dX10_weighsRow_108 fl_RX10_39 h_a0 (r_10_20 h_a0).1 ?_
  refine e_iconst (v := (3 : Int32)) dX10_weighsRow_111 (by decide) ?_
  obtain ⟨q1, h⟩ := gd_some h
  refine s_iald dX10_weighsRow_112 (r_10_20 (w := 0) h_a0).2 q1 ?_
  refine e_icmp_ge 136 dX10_weighsRow_113 (by decide) (fun c2 => ?_) (fun c2 => ?_)
  · rw [if_pos c2] at h
    obtain rfl := Option.some.inj h
    exact s_ret rfl rfl dX10_weighsRow_136
  · rw [if_neg c2] at h
    refine e_aload_n 0 dX10_weighsRow_116 rfl rfl ?_
    refine s_getr dX10_weighsRow_117 fl_RX10_70 h_a0 (r_10_34 h_a0).1 ?_
    refine e_iload_n 1 dX10_weighsRow_120 rfl rfl ?_
    refine e_aload_n 0 dX10_weighsRow_121 rfl rfl ?_
    refine s_getr dX10_weighsRow_122 fl_RX10_67 h_a0 (r_10_33 h_a0).1 ?_
    refine e_iload_n 1 dX10_weighsRow_125 rfl rfl ?_
    obtain ⟨q3, h⟩ := gd_some h
    refine s_iald dX10_weighsRow_126 (r_10_33 (w := 0) h_a0).2 q3 ?_
    refine e_iconst (v := (1 : Int32)) dX10_weighsRow_127 (by decide) ?_
    refine e_isub dX10_weighsRow_128 ?_
    obtain ⟨q4, h⟩ := gd_some h
    refine s_iast dX10_weighsRow_129 (r_10_34 (w := 0) h_a0).2 q4 ?_
    obtain ⟨σ5, q6, h⟩ := lt_some h
    refine s_nms q6 ?_
    obtain ⟨x7, q8, h⟩ := lt_some h
    refine e_iinc (v := x7) (L' := [(0, .ref a0), (3, .int x7)]) 1 dX10_weighsRow_130 rfl q8.symm (by decide) rfl ?_
    refine e_goto 106 dX10_weighsRow_133 (by decide) ?_
    refine s_pick (L' := [(0, .ref a0), (3, .int x7)]) [0, 1] rfl ?_
    exact H106 x7 σ5 h
def f_X10_weighsRow_91 (a0 : Nat) (i1 : Int32) (i2 : Int32) (σ : mm_S) : Option (mm_S) :=
    bd (f_X10_bits i1 σ) fun r11 σ10 =>
    lt (su_i σ10 a0 35 r11) fun σ12 =>
    lt (su_i σ12 a0 36 i2) fun σ14 =>
    f_X10_weighsRow_106 a0 (0 : Int32) σ14
theorem v_X10_weighsRow_91 {g : mm_G} (d : Nat) {a0 : Nat} {i1 : Int32} {i2 : Int32} {σ : mm_S} {res : mm_S}  (h_a0 : (mm_K a0).1 = 10) (h : f_X10_weighsRow_91 a0 i1 i2 σ = some res) : SV g (d + 1) yy_X10_weighsRow 91 [(0, .ref a0), (1, .int i1), (2, .int i2)] [] σ .null res := by
  unfold f_X10_weighsRow_91 at h
  refine e_aload_n 0 dX10_weighsRow_91 rfl rfl ?_
  refine e_iload_n 1 dX10_weighsRow_92 rfl rfl ?_
  obtain ⟨r11, σ10, q9, h⟩ := bd_some h
  refine s_callSi [.int i1] dX10_weighsRow_93 ml_RX10_338 ⟨_, rfl, by decide⟩ rfl (v_X10_bits (d + 0)  q9) (Nat.le_of_ble_eq_true rfl) ?_
  refine s_puti dX10_weighsRow_96 fl_RX10_402 h_a0 rfl rfl rfl ?_
  obtain ⟨σ12, q13, h⟩ := lt_some h
  refine s_nms q13 ?_
  refine e_aload_n 0 dX10_weighsRow_99 rfl rfl ?_
  refine e_iload_n 2 dX10_weighsRow_100 rfl rfl ?_
  refine s_puti dX10_weighsRow_101 fl_RX10_405 h_a0 rfl rfl rfl ?_
  obtain ⟨σ14, q15, h⟩ := lt_some h
  refine s_nms q15 ?_
  refine e_iconst (v := (0 : Int32)) dX10_weighsRow_104 (by decide) ?_
  refine e_istore_n (L' := [(0, .ref a0), (1, .int i1), (2, .int i2), (3, .int (0 : Int32))]) dX10_weighsRow_105 rfl (by decide) rfl ?_
  refine s_pick (L' := [(0, .ref a0), (3, .int (0 : Int32))]) [0, 3] rfl ?_
  exact v_X10_weighsRow_106 d h_a0 h
def f_X10_weighsRow_6 (a0 : Nat) (i1 : Int32) (i2 : Int32) (i3 : Int32) (σ : mm_S) : Option (mm_S) :=
  lp lpN (fun (k6 : (Int32 × Int32 × Int32) → mm_S → Option (mm_S)) (v : Int32 × Int32 × Int32) (σ : mm_S) =>
    gd (3 : Int32) 121 <|
    if (σ.1 224 (3 : Int32).toNatClampNeg) ≤ v.2.2 then
      gd (2 : Int32) 121 <|
      if (σ.1 224 (2 : Int32).toNatClampNeg) < v.2.1 then
        some σ
      else
        bd (f_X10_bits v.1 σ) fun r22 σ21 =>
        if r22 < (σ21.1 a0 35) then
          some σ21
        else
          bd (f_X10_bits v.1 σ21) fun r26 σ25 =>
          if r26 = (σ25.1 a0 35) then
            if v.2.1 < (σ25.1 a0 36) then
              f_X10_weighsRow_91 a0 v.1 v.2.1 σ25
            else
              some σ25
          else
            f_X10_weighsRow_91 a0 v.1 v.2.1 σ25
    else
      gd v.2.2 7 <|
      if (σ.1 230 v.2.2.toNatClampNeg) = 0 then
        lt (v.2.2 + Int32.ofInt (1)) fun x38 =>
        k6 (v.1, v.2.1, x38) σ
      else
        gd v.2.2 7 <|
        lt ((v.1 ||| ((1 : Int32) <<< (((σ.1 230 v.2.2.toNatClampNeg) - (1 : Int32)) &&& 31)))) fun x32 =>
        lt (v.2.1 + Int32.ofInt (1)) fun x34 =>
        lt (v.2.2 + Int32.ofInt (1)) fun x36 =>
        k6 (x32, x34, x36) σ) (i1, i2, i3) σ
theorem v_X10_weighsRow_6 {g : mm_G} (d : Nat) {a0 : Nat} {i1 : Int32} {i2 : Int32} {i3 : Int32} {σ : mm_S} {res : mm_S}  (h_a0 : (mm_K a0).1 = 10) (h : f_X10_weighsRow_6 a0 i1 i2 i3 σ = some res) : SV g (d + 1) yy_X10_weighsRow 6 [(0, .ref a0), (1, .int i1), (2, .int i2), (3, .int i3)] [] σ .null res := by
  unfold f_X10_weighsRow_6 at h
  refine lp_ind (P := fun v σ => SV g (d + 1) yy_X10_weighsRow 6 [(0, .ref a0), (1, .int v.1), (2, .int v.2.1), (3, .int v.2.2)] [] σ .null res) (fun k6 H6 v σ h => ?_) _ (i1, i2, i3) σ h
  refine e_iload_n 3 dX10_weighsRow_6 rfl rfl ?_
  refine e_aload_n 0 dX10_weighsRow_7 rfl rfl ?_
  refine s_getr dX10_weighsRow_8 fl_RX10_39 h_a0 (r_10_20 h_a0).1 ?_
  refine e_iconst (v := (3 : Int32)) dX10_weighsRow_11 (by decide) ?_
  obtain ⟨q16, h⟩ := gd_some h
  refine s_iald dX10_weighsRow_12 (r_10_20 (w := 0) h_a0).2 q16 ?_
  refine e_icmp_ge 50 dX10_weighsRow_13 (by decide) (fun c17 => ?_) (fun c17 => ?_)
  · rw [if_pos c17] at h
    refine e_iload_n 2 dX10_weighsRow_50 rfl rfl ?_
    refine e_aload_n 0 dX10_weighsRow_51 rfl rfl ?_
    refine s_getr dX10_weighsRow_52 fl_RX10_39 h_a0 (r_10_20 h_a0).1 ?_
    refine e_iconst (v := (2 : Int32)) dX10_weighsRow_55 (by decide) ?_
    obtain ⟨q18, h⟩ := gd_some h
    refine s_iald dX10_weighsRow_56 (r_10_20 (w := 0) h_a0).2 q18 ?_
    refine e_icmp_gt 90 dX10_weighsRow_57 (by decide) (fun c19 => ?_) (fun c19 => ?_)
    · rw [if_pos c19] at h
      obtain rfl := Option.some.inj h
      exact s_ret rfl rfl dX10_weighsRow_90
    · rw [if_neg c19] at h
      refine e_iload_n 1 dX10_weighsRow_60 rfl rfl ?_
      obtain ⟨r22, σ21, q20, h⟩ := bd_some h
      refine s_callSi [.int v.1] dX10_weighsRow_61 ml_RX10_338 ⟨_, rfl, by decide⟩ rfl (v_X10_bits (d + 0)  q20) (Nat.le_of_ble_eq_true rfl) ?_
      refine e_aload_n 0 dX10_weighsRow_64 rfl rfl ?_
      refine s_geti dX10_weighsRow_65 fl_RX10_402 h_a0 ?_
      refine e_icmp_lt 90 dX10_weighsRow_68 (by decide) (fun c23 => ?_) (fun c23 => ?_)
      · rw [if_pos c23] at h
        obtain rfl := Option.some.inj h
        exact s_ret rfl rfl dX10_weighsRow_90
      · rw [if_neg c23] at h
        refine e_iload_n 1 dX10_weighsRow_71 rfl rfl ?_
        obtain ⟨r26, σ25, q24, h⟩ := bd_some h
        refine s_callSi [.int v.1] dX10_weighsRow_72 ml_RX10_338 ⟨_, rfl, by decide⟩ rfl (v_X10_bits (d + 0)  q24) (Nat.le_of_ble_eq_true rfl) ?_
        refine e_aload_n 0 dX10_weighsRow_75 rfl rfl ?_
        refine s_geti dX10_weighsRow_76 fl_RX10_402 h_a0 ?_
        refine e_icmp_ne 91 dX10_weighsRow_79 (by decide) (fun c27 => ?_) (fun c27 => ?_)
        · rw [if_neg c27] at h
          refine s_pick (L' := [(0, .ref a0), (1, .int v.1), (2, .int v.2.1)]) [0, 1, 2] rfl ?_
          exact v_X10_weighsRow_91 d h_a0 h
        · rw [if_pos c27] at h
          refine e_iload_n 2 dX10_weighsRow_82 rfl rfl ?_
          refine e_aload_n 0 dX10_weighsRow_83 rfl rfl ?_
          refine s_geti dX10_weighsRow_84 fl_RX10_405 h_a0 ?_
          refine e_icmp_lt 91 dX10_weighsRow_87 (by decide) (fun c28 => ?_) (fun c28 => ?_)
          · rw [if_pos c28] at h
            refine s_pick (L' := [(0, .ref a0), (1, .int v.1), (2, .int v.2.1)]) [0, 1, 2] rfl ?_
            exact v_X10_weighsRow_91 d h_a0 h
          · rw [if_neg c28] at h
            obtain rfl := Option.some.inj h
            exact s_ret rfl rfl dX10_weighsRow_90
  · rw [if_neg c17] at h
    refine e_aload_n 0 dX10_weighsRow_16 rfl rfl ?_
    refine s_getr dX10_weighsRow_17 fl_RX10_67 h_a0 (r_10_33 h_a0).1 ?_
    refine e_iload_n 3 dX10_weighsRow_20 rfl rfl ?_
    obtain ⟨q29, h⟩ := gd_some h
    refine s_iald dX10_weighsRow_21 (r_10_33 (w := 0) h_a0).2 q29 ?_
    refine e_if_ne 28 dX10_weighsRow_22 (by decide) (fun c30 => ?_) (fun c30 => ?_)
    · rw [if_neg c30] at h
      refine e_iload_n 1 dX10_weighsRow_28 rfl rfl ?_
      refine e_iconst (v := (1 : Int32)) dX10_weighsRow_29 (by decide) ?_
      refine e_aload_n 0 dX10_weighsRow_30 rfl rfl ?_
      refine s_getr dX10_weighsRow_31 fl_RX10_67 h_a0 (r_10_33 h_a0).1 ?_
      refine e_iload_n 3 dX10_weighsRow_34 rfl rfl ?_
      obtain ⟨q31, h⟩ := gd_some h
      refine s_iald dX10_weighsRow_35 (r_10_33 (w := 0) h_a0).2 q31 ?_
      refine e_iconst (v := (1 : Int32)) dX10_weighsRow_36 (by decide) ?_
      refine e_isub dX10_weighsRow_37 ?_
      refine e_ishl dX10_weighsRow_38 ?_
      refine e_ior dX10_weighsRow_39 ?_
      obtain ⟨x32, q33, h⟩ := lt_some h
      refine s_nmi q33 ?_
      refine e_istore_n (L' := [(0, .ref a0), (1, .int x32), (2, .int v.2.1), (3, .int v.2.2)]) dX10_weighsRow_40 rfl (by decide) rfl ?_
      obtain ⟨x34, q35, h⟩ := lt_some h
      refine e_iinc (v := x34) (L' := [(0, .ref a0), (1, .int x32), (2, .int x34), (3, .int v.2.2)]) 2 dX10_weighsRow_41 rfl q35.symm (by decide) rfl ?_
      obtain ⟨x36, q37, h⟩ := lt_some h
      refine e_iinc (v := x36) (L' := [(0, .ref a0), (1, .int x32), (2, .int x34), (3, .int x36)]) 3 dX10_weighsRow_44 rfl q37.symm (by decide) rfl ?_
      refine e_goto 6 dX10_weighsRow_47 (by decide) ?_
      refine s_pick (L' := [(0, .ref a0), (1, .int x32), (2, .int x34), (3, .int x36)]) [0, 1, 2, 3] rfl ?_
      exact H6 (x32, x34, x36) σ h
    · rw [if_pos c30] at h
      refine e_goto 44 dX10_weighsRow_25 (by decide) ?_
      obtain ⟨x38, q39, h⟩ := lt_some h
      refine e_iinc (v := x38) (L' := [(0, .ref a0), (1, .int v.1), (2, .int v.2.1), (3, .int x38)]) 3 dX10_weighsRow_44 rfl q39.symm (by decide) rfl ?_
      refine e_goto 6 dX10_weighsRow_47 (by decide) ?_
      refine s_pick (L' := [(0, .ref a0), (1, .int v.1), (2, .int v.2.1), (3, .int x38)]) [0, 1, 2, 3] rfl ?_
      exact H6 (v.1, v.2.1, x38) σ h
def f_X10_weighsRow (a0 : Nat) (σ : mm_S) : Option (mm_S) :=
    f_X10_weighsRow_6 a0 (0 : Int32) (0 : Int32) (0 : Int32) σ
theorem v_X10_weighsRow {g : mm_G} (d : Nat) {a0 : Nat} {σ : mm_S} {res : mm_S} (h_a0 : (mm_K a0).1 = 10) (h : f_X10_weighsRow a0 σ = some res) : SM g (d + 1) yy_X10_weighsRow [.ref a0] σ .null res := by
  refine s_of (by decide) (Nat.le_of_ble_eq_true rfl) (L := [(0, .ref a0)]) rfl ?_
  unfold f_X10_weighsRow at h
  refine e_iconst (v := (0 : Int32)) dX10_weighsRow_0 (by decide) ?_
  refine e_istore_n (L' := [(0, .ref a0), (1, .int (0 : Int32))]) dX10_weighsRow_1 rfl (by decide) rfl ?_
  refine e_iconst (v := (0 : Int32)) dX10_weighsRow_2 (by decide) ?_
  refine e_istore_n (L' := [(0, .ref a0), (1, .int (0 : Int32)), (2, .int (0 : Int32))]) dX10_weighsRow_3 rfl (by decide) rfl ?_
  refine e_iconst (v := (0 : Int32)) dX10_weighsRow_4 (by decide) ?_
  refine e_istore_n (L' := [(0, .ref a0), (1, .int (0 : Int32)), (2, .int (0 : Int32)), (3, .int (0 : Int32))]) dX10_weighsRow_5 rfl (by decide) rfl ?_
  refine s_pick (L' := [(0, .ref a0), (1, .int (0 : Int32)), (2, .int (0 : Int32)), (3, .int (0 : Int32))]) [0, 1, 2, 3] rfl ?_
  exact v_X10_weighsRow_6 d h_a0 h
