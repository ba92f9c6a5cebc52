abbrev yy_X10_stays : mm_Y := (yX10_stays, cX10_stays, 3, (some .int))
theorem dX10_stays_0 : decode cX10_stays 0 = .ok (.aload_n 0, 1) := by decide +kernel
theorem dX10_stays_1 : decode cX10_stays 1 = .ok (.invokevirtual 379, 3) := by decide +kernel
theorem dX10_stays_4 : decode cX10_stays 4 = .ok (.ifCond .eq 15, 3) := by decide +kernel
theorem dX10_stays_7 : decode cX10_stays 7 = .ok (.iload_n 1, 1) := by decide +kernel
theorem dX10_stays_8 : decode cX10_stays 8 = .ok (.i2l, 1) := by decide +kernel
theorem dX10_stays_9 : decode cX10_stays 9 = .ok (.lconst 0, 1) := by decide +kernel
theorem dX10_stays_10 : decode cX10_stays 10 = .ok (.ldc2_w 420, 3) := by decide +kernel
theorem dX10_stays_13 : decode cX10_stays 13 = .ok (.invokestatic 136, 3) := by decide +kernel
theorem dX10_stays_16 : decode cX10_stays 16 = .ok (.ifCond .ne 5, 3) := by decide +kernel
theorem dX10_stays_19 : decode cX10_stays 19 = .ok (.iconst (-1), 1) := by decide +kernel
theorem dX10_stays_20 : decode cX10_stays 20 = .ok (.ireturn, 1) := by decide +kernel
theorem dX10_stays_21 : decode cX10_stays 21 = .ok (.aload_n 0, 1) := by decide +kernel
theorem dX10_stays_22 : decode cX10_stays 22 = .ok (.invokevirtual 393, 3) := by decide +kernel
theorem dX10_stays_25 : decode cX10_stays 25 = .ok (.aload_n 0, 1) := by decide +kernel
theorem dX10_stays_26 : decode cX10_stays 26 = .ok (.iload_n 1, 1) := by decide +kernel
theorem dX10_stays_27 : decode cX10_stays 27 = .ok (.invokevirtual 396, 3) := by decide +kernel
theorem dX10_stays_30 : decode cX10_stays 30 = .ok (.aload_n 0, 1) := by decide +kernel
theorem dX10_stays_31 : decode cX10_stays 31 = .ok (.invokevirtual 335, 3) := by decide +kernel
theorem dX10_stays_34 : decode cX10_stays 34 = .ok (.istore_n 2, 1) := by decide +kernel
theorem dX10_stays_35 : decode cX10_stays 35 = .ok (.iload_n 2, 1) := by decide +kernel
theorem dX10_stays_36 : decode cX10_stays 36 = .ok (.aload_n 0, 1) := by decide +kernel
theorem dX10_stays_37 : decode cX10_stays 37 = .ok (.invokevirtual 376, 3) := by decide +kernel
theorem dX10_stays_40 : decode cX10_stays 40 = .ok (.iand, 1) := by decide +kernel
theorem dX10_stays_41 : decode cX10_stays 41 = .ok (.istore_n 2, 1) := by decide +kernel
theorem dX10_stays_42 : decode cX10_stays 42 = .ok (.iload_n 2, 1) := by decide +kernel
theorem dX10_stays_43 : decode cX10_stays 43 = .ok (.aload_n 0, 1) := by decide +kernel
theorem dX10_stays_44 : decode cX10_stays 44 = .ok (.invokevirtual 376, 3) := by decide +kernel
theorem dX10_stays_47 : decode cX10_stays 47 = .ok (.iand, 1) := by decide +kernel
theorem dX10_stays_48 : decode cX10_stays 48 = .ok (.istore_n 2, 1) := by decide +kernel
theorem dX10_stays_49 : decode cX10_stays 49 = .ok (.aload_n 0, 1) := by decide +kernel
theorem dX10_stays_50 : decode cX10_stays 50 = .ok (.invokevirtual 399, 3) := by decide +kernel
theorem dX10_stays_53 : decode cX10_stays 53 = .ok (.iload_n 2, 1) := by decide +kernel
theorem dX10_stays_54 : decode cX10_stays 54 = .ok (.ireturn, 1) := by decide +kernel
def f_X10_stays (a0 : Nat) (i1 : Int32) (σ : mm_S) : Option (Int32 × mm_S) :=
    bd (f_X10_isHouse a0 σ) fun r30 σ29 =>
    if r30 = 0 then
      some ((-1 : Int32), σ29)
    else
      bd (f_X10_in (i1 : Int32).toInt64 (0 : Int64) (60 : Int64) σ29) fun r34 σ33 =>
      if r34 = 0 then
        some ((-1 : Int32), σ33)
      else
        bv (f_X10_keeps a0 σ33) fun σ37 =>
        bv (f_X10_passesAll a0 i1 σ37) fun σ39 =>
        bd (f_X10_inside a0 σ39) fun r42 σ41 =>
        bd (f_X10_passes a0 σ41) fun r45 σ44 =>
        lt ((r42 &&& r45)) fun x46 =>
        bd (f_X10_passes a0 σ44) fun r50 σ49 =>
        lt ((x46 &&& r50)) fun x51 =>
        bv (f_X10_laysBack a0 σ49) fun σ54 =>
        some (x51, σ54)
theorem v_X10_stays {g : mm_G} (d : Nat) {a0 : Nat} {i1 : Int32} {σ : mm_S} {res : Int32 × mm_S} (h_a0 : (mm_K a0).1 = 10) (h : f_X10_stays a0 i1 σ = some res) : SM g (d + 8) yy_X10_stays [.ref a0, .int i1] σ (.int res.1) res.2 := by
  refine s_of (by decide) (Nat.le_of_ble_eq_true rfl) (L := [(0, .ref a0), (1, .int i1)]) rfl ?_
  unfold f_X10_stays at h
  refine e_aload_n 0 dX10_stays_0 rfl rfl ?_
  obtain ⟨r30, σ29, q28, h⟩ := bd_some h
  refine s_callVi [] dX10_stays_1 ml_RX10_379 h_a0 ⟨_, rfl, by decide⟩ rfl (v_X10_isHouse (d + 7) h_a0 q28) (Nat.le_of_ble_eq_true rfl) ?_
  refine e_if_eq 19 dX10_stays_4 (by decide) (fun c31 => ?_) (fun c31 => ?_)
  · rw [if_pos c31] at h
    refine e_iconst (v := (-1 : Int32)) dX10_stays_19 (by decide) ?_
    obtain rfl := Option.some.inj h
    exact s_ret rfl ⟨_, rfl, rfl⟩ dX10_stays_20
  · rw [if_neg c31] at h
    refine e_iload_n 1 dX10_stays_7 rfl rfl ?_
    refine e_i2l dX10_stays_8 ?_
    refine e_lconst (v := (0 : Int64)) dX10_stays_9 (by decide) ?_
    refine e_ldc2 dX10_stays_10 co_RX10_420 ?_
    obtain ⟨r34, σ33, q32, h⟩ := bd_some h
    refine s_callSi [.long (i1 : Int32).toInt64, .long (0 : Int64), .long (60 : Int64)] dX10_stays_13 ml_RX10_136 ⟨_, rfl, by decide⟩ rfl (v_X10_in (d + 7)  q32) (Nat.le_of_ble_eq_true rfl) ?_
    refine e_if_ne 21 dX10_stays_16 (by decide) (fun c35 => ?_) (fun c35 => ?_)
    · rw [if_neg c35] at h
      refine e_aload_n 0 dX10_stays_21 rfl rfl ?_
      obtain ⟨σ37, q36, h⟩ := bv_some h
      refine s_callVv [] dX10_stays_22 ml_RX10_393 h_a0 rfl rfl (v_X10_keeps (d + 7) h_a0 q36) (Nat.le_of_ble_eq_true rfl) ?_
      refine e_aload_n 0 dX10_stays_25 rfl rfl ?_
      refine e_iload_n 1 dX10_stays_26 rfl rfl ?_
      obtain ⟨σ39, q38, h⟩ := bv_some h
      refine s_callVv [.int i1] dX10_stays_27 ml_RX10_396 h_a0 rfl rfl (v_X10_passesAll (d + 0) h_a0 q38) (Nat.le_of_ble_eq_true rfl) ?_
      refine e_aload_n 0 dX10_stays_30 rfl rfl ?_
      obtain ⟨r42, σ41, q40, h⟩ := bd_some h
      refine s_callVi [] dX10_stays_31 ml_RX10_335 h_a0 ⟨_, rfl, by decide⟩ rfl (v_X10_inside (d + 6) h_a0 q40) (Nat.le_of_ble_eq_true rfl) ?_
      refine e_istore_n (L' := [(0, .ref a0), (1, .int i1), (2, .int r42)]) dX10_stays_34 rfl (by decide) rfl ?_
      refine e_iload_n 2 dX10_stays_35 rfl rfl ?_
      refine e_aload_n 0 dX10_stays_36 rfl rfl ?_
      obtain ⟨r45, σ44, q43, h⟩ := bd_some h
      refine s_callVi [] dX10_stays_37 ml_RX10_376 h_a0 ⟨_, rfl, by decide⟩ rfl (v_X10_passes (d + 1) h_a0 q43) (Nat.le_of_ble_eq_true rfl) ?_
      refine e_iand dX10_stays_40 ?_
      obtain ⟨x46, q47, h⟩ := lt_some h
      refine s_nmi q47 ?_
      refine e_istore_n (L' := [(0, .ref a0), (1, .int i1), (2, .int x46)]) dX10_stays_41 rfl (by decide) rfl ?_
      refine e_iload_n 2 dX10_stays_42 rfl rfl ?_
      refine e_aload_n 0 dX10_stays_43 rfl rfl ?_
      obtain ⟨r50, σ49, q48, h⟩ := bd_some h
      refine s_callVi [] dX10_stays_44 ml_RX10_376 h_a0 ⟨_, rfl, by decide⟩ rfl (v_X10_passes (d + 1) h_a0 q48) (Nat.le_of_ble_eq_true rfl) ?_
      refine e_iand dX10_stays_47 ?_
      obtain ⟨x51, q52, h⟩ := lt_some h
      refine s_nmi q52 ?_
      refine e_istore_n (L' := [(0, .ref a0), (1, .int i1), (2, .int x51)]) dX10_stays_48 rfl (by decide) rfl ?_
      refine e_aload_n 0 dX10_stays_49 rfl rfl ?_
      obtain ⟨σ54, q53, h⟩ := bv_some h
      refine s_callVv [] dX10_stays_50 ml_RX10_399 h_a0 rfl rfl (v_X10_laysBack (d + 7) h_a0 q53) (Nat.le_of_ble_eq_true rfl) ?_
      refine e_iload_n 2 dX10_stays_53 rfl rfl ?_
      obtain rfl := Option.some.inj h
      exact s_ret rfl ⟨_, rfl, rfl⟩ dX10_stays_54
    · rw [if_pos c35] at h
      refine e_iconst (v := (-1 : Int32)) dX10_stays_19 (by decide) ?_
      obtain rfl := Option.some.inj h
      exact s_ret rfl ⟨_, rfl, rfl⟩ dX10_stays_20
abbrev yy_X10_note : mm_Y := (yX10_note, cX10_note, 5, (some .int))
theorem dX10_note_0 : decode cX10_note 0 = .ok (.iload_n 1, 1) := by decide +kernel
theorem dX10_note_1 : decode cX10_note 1 = .ok (.iconst (-1), 1) := by decide +kernel
theorem dX10_note_2 : decode cX10_note 2 = .ok (.if_icmp .ne 13, 3) := by decide +kernel
theorem dX10_note_5 : decode cX10_note 5 = .ok (.aload_n 0, 1) := by decide +kernel
theorem dX10_note_6 : decode cX10_note 6 = .ok (.getfield 39, 3) := by decide +kernel
theorem dX10_note_9 : decode cX10_note 9 = .ok (.bipush 120, 2) := by decide +kernel
theorem dX10_note_11 : decode cX10_note 11 = .ok (.iconst 0, 1) := by decide +kernel
theorem dX10_note_12 : decode cX10_note 12 = .ok (.iastore, 1) := by decide +kernel
theorem dX10_note_13 : decode cX10_note 13 = .ok (.iconst 0, 1) := by decide +kernel
theorem dX10_note_14 : decode cX10_note 14 = .ok (.ireturn, 1) := by decide +kernel
theorem dX10_note_15 : decode cX10_note 15 = .ok (.iload_n 1, 1) := by decide +kernel
theorem dX10_note_16 : decode cX10_note 16 = .ok (.i2l, 1) := by decide +kernel
theorem dX10_note_17 : decode cX10_note 17 = .ok (.lconst 0, 1) := by decide +kernel
theorem dX10_note_18 : decode cX10_note 18 = .ok (.ldc2_w 420, 3) := by decide +kernel
theorem dX10_note_21 : decode cX10_note 21 = .ok (.invokestatic 136, 3) := by decide +kernel
theorem dX10_note_24 : decode cX10_note 24 = .ok (.ifCond .eq 33, 3) := by decide +kernel
theorem dX10_note_27 : decode cX10_note 27 = .ok (.aload_n 0, 1) := by decide +kernel
theorem dX10_note_28 : decode cX10_note 28 = .ok (.iload_n 2, 1) := by decide +kernel
theorem dX10_note_29 : decode cX10_note 29 = .ok (.invokevirtual 320, 3) := by decide +kernel
theorem dX10_note_32 : decode cX10_note 32 = .ok (.ifCond .eq 25, 3) := by decide +kernel
theorem dX10_note_35 : decode cX10_note 35 = .ok (.iload_n 3, 1) := by decide +kernel
theorem dX10_note_36 : decode cX10_note 36 = .ok (.i2l, 1) := by decide +kernel
theorem dX10_note_37 : decode cX10_note 37 = .ok (.lconst 0, 1) := by decide +kernel
theorem dX10_note_38 : decode cX10_note 38 = .ok (.lconst 1, 1) := by decide +kernel
theorem dX10_note_39 : decode cX10_note 39 = .ok (.invokestatic 136, 3) := by decide +kernel
theorem dX10_note_42 : decode cX10_note 42 = .ok (.ifCond .eq 15, 3) := by decide +kernel
theorem dX10_note_45 : decode cX10_note 45 = .ok (.aload_n 0, 1) := by decide +kernel
theorem dX10_note_46 : decode cX10_note 46 = .ok (.getfield 39, 3) := by decide +kernel
theorem dX10_note_49 : decode cX10_note 49 = .ok (.bipush 120, 2) := by decide +kernel
theorem dX10_note_51 : decode cX10_note 51 = .ok (.iaload, 1) := by decide +kernel
theorem dX10_note_52 : decode cX10_note 52 = .ok (.bipush 10, 2) := by decide +kernel
theorem dX10_note_54 : decode cX10_note 54 = .ok (.if_icmp .ne 6, 3) := by decide +kernel
theorem dX10_note_57 : decode cX10_note 57 = .ok (.bipush (-2), 2) := by decide +kernel
theorem dX10_note_59 : decode cX10_note 59 = .ok (.ireturn, 1) := by decide +kernel
theorem dX10_note_60 : decode cX10_note 60 = .ok (.bipush 90, 2) := by decide +kernel
theorem dX10_note_62 : decode cX10_note 62 = .ok (.iconst 3, 1) := by decide +kernel
theorem dX10_note_63 : decode cX10_note 63 = .ok (.aload_n 0, 1) := by decide +kernel
theorem dX10_note_64 : decode cX10_note 64 = .ok (.getfield 39, 3) := by decide +kernel
theorem dX10_note_67 : decode cX10_note 67 = .ok (.bipush 120, 2) := by decide +kernel
theorem dX10_note_69 : decode cX10_note 69 = .ok (.iaload, 1) := by decide +kernel
theorem dX10_note_70 : decode cX10_note 70 = .ok (.imul, 1) := by decide +kernel
theorem dX10_note_71 : decode cX10_note 71 = .ok (.iadd, 1) := by decide +kernel
theorem dX10_note_72 : decode cX10_note 72 = .ok (.istore 4, 2) := by decide +kernel
theorem dX10_note_74 : decode cX10_note 74 = .ok (.aload_n 0, 1) := by decide +kernel
theorem dX10_note_75 : decode cX10_note 75 = .ok (.getfield 39, 3) := by decide +kernel
theorem dX10_note_78 : decode cX10_note 78 = .ok (.iload 4, 2) := by decide +kernel
theorem dX10_note_80 : decode cX10_note 80 = .ok (.iload_n 1, 1) := by decide +kernel
theorem dX10_note_81 : decode cX10_note 81 = .ok (.iastore, 1) := by decide +kernel
theorem dX10_note_82 : decode cX10_note 82 = .ok (.aload_n 0, 1) := by decide +kernel
theorem dX10_note_83 : decode cX10_note 83 = .ok (.getfield 39, 3) := by decide +kernel
theorem dX10_note_86 : decode cX10_note 86 = .ok (.iload 4, 2) := by decide +kernel
theorem dX10_note_88 : decode cX10_note 88 = .ok (.iconst 1, 1) := by decide +kernel
theorem dX10_note_89 : decode cX10_note 89 = .ok (.iadd, 1) := by decide +kernel
theorem dX10_note_90 : decode cX10_note 90 = .ok (.iload_n 2, 1) := by decide +kernel
theorem dX10_note_91 : decode cX10_note 91 = .ok (.iastore, 1) := by decide +kernel
theorem dX10_note_92 : decode cX10_note 92 = .ok (.aload_n 0, 1) := by decide +kernel
theorem dX10_note_93 : decode cX10_note 93 = .ok (.getfield 39, 3) := by decide +kernel
theorem dX10_note_96 : decode cX10_note 96 = .ok (.iload 4, 2) := by decide +kernel
theorem dX10_note_98 : decode cX10_note 98 = .ok (.iconst 2, 1) := by decide +kernel
theorem dX10_note_99 : decode cX10_note 99 = .ok (.iadd, 1) := by decide +kernel
theorem dX10_note_100 : decode cX10_note 100 = .ok (.iload_n 3, 1) := by decide +kernel
theorem dX10_note_101 : decode cX10_note 101 = .ok (.iastore, 1) := by decide +kernel
theorem dX10_note_102 : decode cX10_note 102 = .ok (.aload_n 0, 1) := by decide +kernel
theorem dX10_note_103 : decode cX10_note 103 = .ok (.getfield 39, 3) := by decide +kernel
theorem dX10_note_106 : decode cX10_note 106 = .ok (.bipush 120, 2) := by decide +kernel
theorem dX10_note_108 : decode cX10_note 108 = .ok (.dup2, 1) := by decide +kernel
theorem dX10_note_109 : decode cX10_note 109 = .ok (.iaload, 1) := by decide +kernel
theorem dX10_note_110 : decode cX10_note 110 = .ok (.iconst 1, 1) := by decide +kernel
theorem dX10_note_111 : decode cX10_note 111 = .ok (.iadd, 1) := by decide +kernel
theorem dX10_note_112 : decode cX10_note 112 = .ok (.iastore, 1) := by decide +kernel
theorem dX10_note_113 : decode cX10_note 113 = .ok (.aload_n 0, 1) := by decide +kernel
theorem dX10_note_114 : decode cX10_note 114 = .ok (.getfield 39, 3) := by decide +kernel
theorem dX10_note_117 : decode cX10_note 117 = .ok (.bipush 120, 2) := by decide +kernel
theorem dX10_note_119 : decode cX10_note 119 = .ok (.iaload, 1) := by decide +kernel
theorem dX10_note_120 : decode cX10_note 120 = .ok (.ireturn, 1) := by decide +kernel
def f_X10_note (a0 : Nat) (i1 : Int32) (i2 : Int32) (i3 : Int32) (σ : mm_S) : Option (Int32 × mm_S) :=
    if i1 = (-1 : Int32) then
      gd (120 : Int32) 121 <|
      lt (su_i σ 224 (120 : Int32).toNatClampNeg (0 : Int32)) fun σ69 =>
      some ((0 : Int32), σ69)
    else
      bd (f_X10_in (i1 : Int32).toInt64 (0 : Int64) (60 : Int64) σ) fun r39 σ38 =>
      if r39 = 0 then
        some ((-2 : Int32), σ38)
      else
        bd (f_X10_isLodger a0 i2 σ38) fun r43 σ42 =>
        if r43 = 0 then
          some ((-2 : Int32), σ42)
        else
          bd (f_X10_in (i3 : Int32).toInt64 (0 : Int64) (1 : Int64) σ42) fun r47 σ46 =>
          if r47 = 0 then
            some ((-2 : Int32), σ46)
          else
            gd (120 : Int32) 121 <|
            if (σ46.1 224 (120 : Int32).toNatClampNeg) = (10 : Int32) then
              some ((-2 : Int32), σ46)
            else
              gd (120 : Int32) 121 <|
              lt (((90 : Int32) + ((3 : Int32) * (σ46.1 224 (120 : Int32).toNatClampNeg)))) fun x52 =>
              gd x52 121 <|
              lt (su_i σ46 224 x52.toNatClampNeg i1) fun σ55 =>
              gd (x52 + (1 : Int32)) 121 <|
              lt (su_i σ55 224 (x52 + (1 : Int32)).toNatClampNeg i2) fun σ58 =>
              gd (x52 + (2 : Int32)) 121 <|
              lt (su_i σ58 224 (x52 + (2 : Int32)).toNatClampNeg i3) fun σ61 =>
              gd (120 : Int32) 121 <|
              gd (120 : Int32) 121 <|
              lt (su_i σ61 224 (120 : Int32).toNatClampNeg ((σ61.1 224 (120 : Int32).toNatClampNeg) + (1 : Int32))) fun σ65 =>
              gd (120 : Int32) 121 <|
              some ((σ65.1 224 (120 : Int32).toNatClampNeg), σ65)
theorem v_X10_note {g : mm_G} (d : Nat) {a0 : Nat} {i1 : Int32} {i2 : Int32} {i3 : Int32} {σ : mm_S} {res : Int32 × mm_S} (h_a0 : (mm_K a0).1 = 10) (h : f_X10_note a0 i1 i2 i3 σ = some res) : SM g (d + 1) yy_X10_note [.ref a0, .int i1, .int i2, .int i3] σ (.int res.1) res.2 := by
  refine s_of (by decide) (Nat.le_of_ble_eq_true rfl) (L := [(0, .ref a0), (1, .int i1), (2, .int i2), (3, .int i3)]) rfl ?_
  unfold f_X10_note at h
  refine e_iload_n 1 dX10_note_0 rfl rfl ?_
  refine e_iconst (v := (-1 : Int32)) dX10_note_1 (by decide) ?_
  refine e_icmp_ne 15 dX10_note_2 (by decide) (fun c36 => ?_) (fun c36 => ?_)
  · rw [if_neg c36] at h
    refine e_iload_n 1 dX10_note_15 rfl rfl ?_
    refine e_i2l dX10_note_16 ?_
    refine e_lconst (v := (0 : Int64)) dX10_note_17 (by decide) ?_
    refine e_ldc2 dX10_note_18 co_RX10_420 ?_
    obtain ⟨r39, σ38, q37, h⟩ := bd_some h
    refine s_callSi [.long (i1 : Int32).toInt64, .long (0 : Int64), .long (60 : Int64)] dX10_note_21 ml_RX10_136 ⟨_, rfl, by decide⟩ rfl (v_X10_in (d + 0)  q37) (Nat.le_of_ble_eq_true rfl) ?_
    refine e_if_eq 57 dX10_note_24 (by decide) (fun c40 => ?_) (fun c40 => ?_)
    · rw [if_pos c40] at h
      refine e_bipush (v := (-2 : Int32)) dX10_note_57 (by decide) ?_
      obtain rfl := Option.some.inj h
      exact s_ret rfl ⟨_, rfl, rfl⟩ dX10_note_59
    · rw [if_neg c40] at h
      refine e_aload_n 0 dX10_note_27 rfl rfl ?_
      refine e_iload_n 2 dX10_note_28 rfl rfl ?_
      obtain ⟨r43, σ42, q41, h⟩ := bd_some h
      refine s_callVi [.int i2] dX10_note_29 ml_RX10_320 h_a0 ⟨_, rfl, by decide⟩ rfl (v_X10_isLodger (d + 0) h_a0 q41) (Nat.le_of_ble_eq_true rfl) ?_
      refine e_if_eq 57 dX10_note_32 (by decide) (fun c44 => ?_) (fun c44 => ?_)
      · rw [if_pos c44] at h
        refine e_bipush (v := (-2 : Int32)) dX10_note_57 (by decide) ?_
        obtain rfl := Option.some.inj h
        exact s_ret rfl ⟨_, rfl, rfl⟩ dX10_note_59
      · rw [if_neg c44] at h
        refine e_iload_n 3 dX10_note_35 rfl rfl ?_
        refine e_i2l dX10_note_36 ?_
        refine e_lconst (v := (0 : Int64)) dX10_note_37 (by decide) ?_
        refine e_lconst (v := (1 : Int64)) dX10_note_38 (by decide) ?_
        obtain ⟨r47, σ46, q45, h⟩ := bd_some h
        refine s_callSi [.long (i3 : Int32).toInt64, .long (0 : Int64), .long (1 : Int64)] dX10_note_39 ml_RX10_136 ⟨_, rfl, by decide⟩ rfl (v_X10_in (d + 0)  q45) (Nat.le_of_ble_eq_true rfl) ?_
        refine e_if_eq 57 dX10_note_42 (by decide) (fun c48 => ?_) (fun c48 => ?_)
        · rw [if_pos c48] at h
          refine e_bipush (v := (-2 : Int32)) dX10_note_57 (by decide) ?_
          obtain rfl := Option.some.inj h
          exact s_ret rfl ⟨_, rfl, rfl⟩ dX10_note_59
        · rw [if_neg c48] at h
          refine e_aload_n 0 dX10_note_45 rfl rfl ?_
          refine s_getr dX10_note_46 fl_RX10_39 h_a0 (r_10_20 h_a0).1 ?_
          refine e_bipush (v := (120 : Int32)) dX10_note_49 (by decide) ?_
          obtain ⟨q49, h⟩ := gd_some h
          refine s_iald dX10_note_51 (r_10_20 (w := 0) h_a0).2 q49 ?_
          refine e_bipush (v := (10 : Int32)) dX10_note_52 (by decide) ?_
          refine e_icmp_ne 60 dX10_note_54 (by decide) (fun c50 => ?_) (fun c50 => ?_)
          · rw [if_neg c50] at h
            refine e_bipush (v := (90 : Int32)) dX10_note_60 (by decide) ?_
            refine e_iconst (v := (3 : Int32)) dX10_note_62 (by decide) ?_
            refine e_aload_n 0 dX10_note_63 rfl rfl ?_
            refine s_getr dX10_note_64 fl_RX10_39 h_a0 (r_10_20 h_a0).1 ?_
            refine e_bipush (v := (120 : Int32)) dX10_note_67 (by decide) ?_
            obtain ⟨q51, h⟩ := gd_some h
            refine s_iald dX10_note_69 (r_10_20 (w := 0) h_a0).2 q51 ?_
            refine e_imul dX10_note_70 ?_
            refine e_iadd dX10_note_71 ?_
            obtain ⟨x52, q53, h⟩ := lt_some h
            refine s_nmi q53 ?_
            refine e_istore (L' := [(0, .ref a0), (1, .int i1), (2, .int i2), (3, .int i3), (4, .int x52)]) dX10_note_72  (by decide) rfl ?_
            refine e_aload_n 0 dX10_note_74 rfl rfl ?_
            refine s_getr dX10_note_75 fl_RX10_39 h_a0 (r_10_20 h_a0).1 ?_
            refine e_iload 4 dX10_note_78  rfl ?_
            refine e_iload_n 1 dX10_note_80 rfl rfl ?_
            obtain ⟨q54, h⟩ := gd_some h
            refine s_iast dX10_note_81 (r_10_20 (w := 0) h_a0).2 q54 ?_
            obtain ⟨σ55, q56, h⟩ := lt_some h
            refine s_nms q56 ?_
            refine e_aload_n 0 dX10_note_82 rfl rfl ?_
            refine s_getr dX10_note_83 fl_RX10_39 h_a0 (r_10_20 h_a0).1 ?_
            refine e_iload 4 dX10_note_86  rfl ?_
            refine e_iconst (v := (1 : Int32)) dX10_note_88 (by decide) ?_
            refine e_iadd dX10_note_89 ?_
            refine e_iload_n 2 dX10_note_90 rfl rfl ?_
            obtain ⟨q57, h⟩ := gd_some h
            refine s_iast dX10_note_91 (r_10_20 (w := 0) h_a0).2 q57 ?_
            obtain ⟨σ58, q59, h⟩ := lt_some h
            refine s_nms q59 ?_
            refine e_aload_n 0 dX10_note_92 rfl rfl ?_
            refine s_getr dX10_note_93 fl_RX10_39 h_a0 (r_10_20 h_a0).1 ?_
            refine e_iload 4 dX10_note_96  rfl ?_
            refine e_iconst (v := (2 : Int32)) dX10_note_98 (by decide) ?_
            refine e_iadd dX10_note_99 ?_
            refine e_iload_n 3 dX10_note_100 rfl rfl ?_
            obtain ⟨q60, h⟩ := gd_some h
            refine s_iast dX10_note_101 (r_10_20 (w := 0) h_a0).2 q60 ?_
            obtain ⟨σ61, q62, h⟩ := lt_some h
            refine s_nms q62 ?_
            refine e_aload_n 0 dX10_note_102 rfl rfl ?_
            refine s_getr dX10_note_103 fl_RX10_39 h_a0 (r_10_20 h_a0).1 ?_
            refine e_bipush (v := (120 : Int32)) dX10_note_106 (by decide) ?_
            refine e_dup2 dX10_note_108 rfl rfl ?_
            obtain ⟨q63, h⟩ := gd_some h
            refine s_iald dX10_note_109 (r_10_20 (w := 0) h_a0).2 q63 ?_
            refine e_iconst (v := (1 : Int32)) dX10_note_110 (by decide) ?_
            refine e_iadd dX10_note_111 ?_
            obtain ⟨q64, h⟩ := gd_some h
            refine s_iast dX10_note_112 (r_10_20 (w := 0) h_a0).2 q64 ?_
            obtain ⟨σ65, q66, h⟩ := lt_some h
            refine s_nms q66 ?_
            refine e_aload_n 0 dX10_note_113 rfl rfl ?_
            refine s_getr dX10_note_114 fl_RX10_39 h_a0 (r_10_20 h_a0).1 ?_
            refine e_bipush (v := (120 : Int32)) dX10_note_117 (by decide) ?_
            obtain ⟨q67, h⟩ := gd_some h
            refine s_iald dX10_note_119 (r_10_20 (w := 0) h_a0).2 q67 ?_
            obtain rfl := Option.some.inj h
            exact s_ret rfl ⟨_, rfl, rfl⟩ dX10_note_120
          · rw [if_pos c50] at h
            refine e_bipush (v := (-2 : Int32)) dX10_note_57 (by decide) ?_
            obtain rfl := Option.some.inj h
            exact s_ret rfl ⟨_, rfl, rfl⟩ dX10_note_59
  · rw [if_pos c36] at h
    refine e_aload_n 0 dX10_note_5 rfl rfl ?_
    refine s_getr dX10_note_6 fl_RX10_39 h_a0 (r_10_20 h_a0).1 ?_
    refine e_bipush (v := (120 : Int32)) dX10_note_9 (by decide) ?_
    refine e_iconst (v := (0 : Int32)) dX10_note_11 (by decide) ?_
    obtain ⟨q68, h⟩ := gd_some h
    refine s_iast dX10_note_12 (r_10_20 (w := 0) h_a0).2 q68 ?_
    obtain ⟨σ69, q70, h⟩ := lt_some h
    refine s_nms q70 ?_
    refine e_iconst (v := (0 : Int32)) dX10_note_13 (by decide) ?_
    obtain rfl := Option.some.inj h
    exact s_ret rfl ⟨_, rfl, rfl⟩ dX10_note_14
abbrev yy_X10_spot : mm_Y := (yX10_spot, cX10_spot, 2, (some .int))
theorem dX10_spot_0 : decode cX10_spot 0 = .ok (.bipush 61, 2) := by decide +kernel
theorem dX10_spot_2 : decode cX10_spot 2 = .ok (.iload_n 0, 1) := by decide +kernel
theorem dX10_spot_3 : decode cX10_spot 3 = .ok (.imul, 1) := by decide +kernel
theorem dX10_spot_4 : decode cX10_spot 4 = .ok (.iload_n 1, 1) := by decide +kernel
theorem dX10_spot_5 : decode cX10_spot 5 = .ok (.iadd, 1) := by decide +kernel
theorem dX10_spot_6 : decode cX10_spot 6 = .ok (.ireturn, 1) := by decide +kernel
def f_X10_spot (i0 : Int32) (i1 : Int32) (σ : mm_S) : Option (Int32 × mm_S) :=
    some ((((61 : Int32) * i0) + i1), σ)
theorem v_X10_spot {g : mm_G} (d : Nat) {i0 : Int32} {i1 : Int32} {σ : mm_S} {res : Int32 × mm_S}  (h : f_X10_spot i0 i1 σ = some res) : SM g (d + 0) yy_X10_spot [.int i0, .int i1] σ (.int res.1) res.2 := by
  refine s_of (by decide) (Nat.le_of_ble_eq_true rfl) (L := [(0, .int i0), (1, .int i1)]) rfl ?_
  unfold f_X10_spot at h
  refine e_bipush (v := (61 : Int32)) dX10_spot_0 (by decide) ?_
  refine e_iload_n 0 dX10_spot_2 rfl rfl ?_
  refine e_imul dX10_spot_3 ?_
  refine e_iload_n 1 dX10_spot_4 rfl rfl ?_
  refine e_iadd dX10_spot_5 ?_
  obtain rfl := Option.some.inj h
  exact s_ret rfl ⟨_, rfl, rfl⟩ dX10_spot_6
abbrev yy_X10_areNotesSo : mm_Y := (yX10_areNotesSo, cX10_areNotesSo, 3, (some .boolean))
theorem dX10_areNotesSo_0 : decode cX10_areNotesSo 0 = .ok (.iconst 0, 1) := by decide +kernel
theorem dX10_areNotesSo_1 : decode cX10_areNotesSo 1 = .ok (.istore_n 2, 1) := by decide +kernel
theorem dX10_areNotesSo_2 : decode cX10_areNotesSo 2 = .ok (.iload_n 2, 1) := by decide +kernel
theorem dX10_areNotesSo_3 : decode cX10_areNotesSo 3 = .ok (.iconst 3, 1) := by decide +kernel
theorem dX10_areNotesSo_4 : decode cX10_areNotesSo 4 = .ok (.aload_n 0, 1) := by decide +kernel
theorem dX10_areNotesSo_5 : decode cX10_areNotesSo 5 = .ok (.getfield 39, 3) := by decide +kernel
theorem dX10_areNotesSo_8 : decode cX10_areNotesSo 8 = .ok (.bipush 120, 2) := by decide +kernel
theorem dX10_areNotesSo_10 : decode cX10_areNotesSo 10 = .ok (.iaload, 1) := by decide +kernel
theorem dX10_areNotesSo_11 : decode cX10_areNotesSo 11 = .ok (.imul, 1) := by decide +kernel
theorem dX10_areNotesSo_12 : decode cX10_areNotesSo 12 = .ok (.if_icmp .ge 57, 3) := by decide +kernel
theorem dX10_areNotesSo_15 : decode cX10_areNotesSo 15 = .ok (.aload_n 0, 1) := by decide +kernel
theorem dX10_areNotesSo_16 : decode cX10_areNotesSo 16 = .ok (.getfield 83, 3) := by decide +kernel
theorem dX10_areNotesSo_19 : decode cX10_areNotesSo 19 = .ok (.iload_n 1, 1) := by decide +kernel
theorem dX10_areNotesSo_20 : decode cX10_areNotesSo 20 = .ok (.aload_n 0, 1) := by decide +kernel
theorem dX10_areNotesSo_21 : decode cX10_areNotesSo 21 = .ok (.getfield 39, 3) := by decide +kernel
theorem dX10_areNotesSo_24 : decode cX10_areNotesSo 24 = .ok (.bipush 90, 2) := by decide +kernel
theorem dX10_areNotesSo_26 : decode cX10_areNotesSo 26 = .ok (.iload_n 2, 1) := by decide +kernel
theorem dX10_areNotesSo_27 : decode cX10_areNotesSo 27 = .ok (.iadd, 1) := by decide +kernel
theorem dX10_areNotesSo_28 : decode cX10_areNotesSo 28 = .ok (.iaload, 1) := by decide +kernel
theorem dX10_areNotesSo_29 : decode cX10_areNotesSo 29 = .ok (.invokestatic 444, 3) := by decide +kernel
theorem dX10_areNotesSo_32 : decode cX10_areNotesSo 32 = .ok (.iaload, 1) := by decide +kernel
theorem dX10_areNotesSo_33 : decode cX10_areNotesSo 33 = .ok (.aload_n 0, 1) := by decide +kernel
theorem dX10_areNotesSo_34 : decode cX10_areNotesSo 34 = .ok (.getfield 39, 3) := by decide +kernel
theorem dX10_areNotesSo_37 : decode cX10_areNotesSo 37 = .ok (.bipush 90, 2) := by decide +kernel
theorem dX10_areNotesSo_39 : decode cX10_areNotesSo 39 = .ok (.iload_n 2, 1) := by decide +kernel
theorem dX10_areNotesSo_40 : decode cX10_areNotesSo 40 = .ok (.iadd, 1) := by decide +kernel
theorem dX10_areNotesSo_41 : decode cX10_areNotesSo 41 = .ok (.iconst 1, 1) := by decide +kernel
theorem dX10_areNotesSo_42 : decode cX10_areNotesSo 42 = .ok (.iadd, 1) := by decide +kernel
theorem dX10_areNotesSo_43 : decode cX10_areNotesSo 43 = .ok (.iaload, 1) := by decide +kernel
theorem dX10_areNotesSo_44 : decode cX10_areNotesSo 44 = .ok (.ishr, 1) := by decide +kernel
theorem dX10_areNotesSo_45 : decode cX10_areNotesSo 45 = .ok (.iconst 1, 1) := by decide +kernel
theorem dX10_areNotesSo_46 : decode cX10_areNotesSo 46 = .ok (.iand, 1) := by decide +kernel
theorem dX10_areNotesSo_47 : decode cX10_areNotesSo 47 = .ok (.aload_n 0, 1) := by decide +kernel
theorem dX10_areNotesSo_48 : decode cX10_areNotesSo 48 = .ok (.getfield 39, 3) := by decide +kernel
theorem dX10_areNotesSo_51 : decode cX10_areNotesSo 51 = .ok (.bipush 90, 2) := by decide +kernel
theorem dX10_areNotesSo_53 : decode cX10_areNotesSo 53 = .ok (.iload_n 2, 1) := by decide +kernel
theorem dX10_areNotesSo_54 : decode cX10_areNotesSo 54 = .ok (.iadd, 1) := by decide +kernel
theorem dX10_areNotesSo_55 : decode cX10_areNotesSo 55 = .ok (.iconst 2, 1) := by decide +kernel
theorem dX10_areNotesSo_56 : decode cX10_areNotesSo 56 = .ok (.iadd, 1) := by decide +kernel
theorem dX10_areNotesSo_57 : decode cX10_areNotesSo 57 = .ok (.iaload, 1) := by decide +kernel
theorem dX10_areNotesSo_58 : decode cX10_areNotesSo 58 = .ok (.if_icmp .eq 5, 3) := by decide +kernel
theorem dX10_areNotesSo_61 : decode cX10_areNotesSo 61 = .ok (.iconst 0, 1) := by decide +kernel
theorem dX10_areNotesSo_62 : decode cX10_areNotesSo 62 = .ok (.ireturn, 1) := by decide +kernel
theorem dX10_areNotesSo_63 : decode cX10_areNotesSo 63 = .ok (.iinc 2 3, 3) := by decide +kernel
theorem dX10_areNotesSo_66 : decode cX10_areNotesSo 66 = .ok (.goto (-64), 3) := by decide +kernel
theorem dX10_areNotesSo_69 : decode cX10_areNotesSo 69 = .ok (.iconst 1, 1) := by decide +kernel
theorem dX10_areNotesSo_70 : decode cX10_areNotesSo 70 = .ok (.ireturn, 1) := by decide +kernel
def f_X10_areNotesSo_2 (a0 : Nat) (i1 : Int32) (i2 : Int32) (σ : mm_S) : Option (Int32 × mm_S) :=
  lp lpN (fun (k2 : (Int32) → mm_S → Option (Int32 × mm_S)) (v : Int32) (σ : mm_S) =>
    gd (120 : Int32) 121 <|
    if ((3 : Int32) * (σ.1 224 (120 : Int32).toNatClampNeg)) ≤ v then
      some ((1 : Int32), σ)
    else
      gd ((90 : Int32) + v) 121 <|
      bd (f_X10_spot i1 (σ.1 224 ((90 : Int32) + v).toNatClampNeg) σ) fun r6 σ5 =>
      gd r6 427 <|
      gd (((90 : Int32) + v) + (1 : Int32)) 121 <|
      gd (((90 : Int32) + v) + (2 : Int32)) 121 <|
      if (((σ5.1 235 r6.toNatClampNeg) >>> ((σ5.1 224 (((90 : Int32) + v) + (1 : Int32)).toNatClampNeg) &&& 31)) &&& (1 : Int32)) = (σ5.1 224 (((90 : Int32) + v) + (2 : Int32)).toNatClampNeg) then
        lt (v + Int32.ofInt (3)) fun x11 =>
        k2 x11 σ5
      else
        some ((0 : Int32), σ5)) i2 σ
theorem v_X10_areNotesSo_2 {g : mm_G} (d : Nat) {a0 : Nat} {i1 : Int32} {i2 : Int32} {σ : mm_S} {res : Int32 × mm_S}  (h_a0 : (mm_K a0).1 = 10) (h : f_X10_areNotesSo_2 a0 i1 i2 σ = some res) : SV g (d + 1) yy_X10_areNotesSo 2 [(0, .ref a0), (1, .int i1), (2, .int i2)] [] σ (.int res.1) res.2 := by
  unfold f_X10_areNotesSo_2 at h
  refine lp_ind (P := fun v σ => SV g (d + 1) yy_X10_areNotesSo 2 [(0, .ref a0), (1, .int i1), (2, .int v)] [] σ (.int res.1) res.2) (fun k2 H2 v σ h => ?_) _ i2 σ h
  refine e_iload_n 2 dX10_areNotesSo_2 rfl rfl ?_
  refine e_iconst (v := (3 : Int32)) dX10_areNotesSo_3 (by decide) ?_
  refine e_aload_n 0 dX10_areNotesSo_4 rfl rfl ?_
  refine s_getr dX10_areNotesSo_5 fl_RX10_39 h_a0 (r_10_20 h_a0).1 ?_
  refine e_bipush (v := (120 : Int32)) dX10_areNotesSo_8 (by decide) ?_
  obtain ⟨q1, h⟩ := gd_some h
  refine s_iald dX10_areNotesSo_10 (r_10_20 (w := 0) h_a0).2 q1 ?_
  refine e_imul dX10_areNotesSo_11 ?_
  refine e_icmp_ge 69 dX10_areNotesSo_12 (by decide) (fun c2 => ?_) (fun c2 => ?_)
  · rw [if_pos c2] at h
    refine e_iconst (v := (1 : Int32)) dX10_areNotesSo_69 (by decide) ?_
    obtain rfl := Option.some.inj h
    exact s_ret rfl ⟨_, rfl, nb1 (Or.inr rfl)⟩ dX10_areNotesSo_70
  · rw [if_neg c2] at h
    refine e_aload_n 0 dX10_areNotesSo_15 rfl rfl ?_
    refine s_getr dX10_areNotesSo_16 fl_RX10_83 h_a0 (r_10_40 h_a0).1 ?_
    refine e_iload_n 1 dX10_areNotesSo_19 rfl rfl ?_
    refine e_aload_n 0 dX10_areNotesSo_20 rfl rfl ?_
    refine s_getr dX10_areNotesSo_21 fl_RX10_39 h_a0 (r_10_20 h_a0).1 ?_
    refine e_bipush (v := (90 : Int32)) dX10_areNotesSo_24 (by decide) ?_
    refine e_iload_n 2 dX10_areNotesSo_26 rfl rfl ?_
    refine e_iadd dX10_areNotesSo_27 ?_
    obtain ⟨q3, h⟩ := gd_some h
    refine s_iald dX10_areNotesSo_28 (r_10_20 (w := 0) h_a0).2 q3 ?_
    obtain ⟨r6, σ5, q4, h⟩ := bd_some h
    refine s_callSi [.int i1, .int (σ.1 224 ((90 : Int32) + v).toNatClampNeg)] dX10_areNotesSo_29 ml_RX10_444 ⟨_, rfl, by decide⟩ rfl (v_X10_spot (d + 0)  q4) (Nat.le_of_ble_eq_true rfl) ?_
    obtain ⟨q7, h⟩ := gd_some h
    refine s_iald dX10_areNotesSo_32 (r_10_40 (w := 0) h_a0).2 q7 ?_
    refine e_aload_n 0 dX10_areNotesSo_33 rfl rfl ?_
    refine s_getr dX10_areNotesSo_34 fl_RX10_39 h_a0 (r_10_20 h_a0).1 ?_
    refine e_bipush (v := (90 : Int32)) dX10_areNotesSo_37 (by decide) ?_
    refine e_iload_n 2 dX10_areNotesSo_39 rfl rfl ?_
    refine e_iadd dX10_areNotesSo_40 ?_
    refine e_iconst (v := (1 : Int32)) dX10_areNotesSo_41 (by decide) ?_
    refine e_iadd dX10_areNotesSo_42 ?_
    obtain ⟨q8, h⟩ := gd_some h
    refine s_iald dX10_areNotesSo_43 (r_10_20 (w := 0) h_a0).2 q8 ?_
    refine e_ishr dX10_areNotesSo_44 ?_
    refine e_iconst (v := (1 : Int32)) dX10_areNotesSo_45 (by decide) ?_
    refine e_iand dX10_areNotesSo_46 ?_
    refine e_aload_n 0 dX10_areNotesSo_47 rfl rfl ?_
    refine s_getr dX10_areNotesSo_48 fl_RX10_39 h_a0 (r_10_20 h_a0).1 ?_
    refine e_bipush (v := (90 : Int32)) dX10_areNotesSo_51 (by decide) ?_
    refine e_iload_n 2 dX10_areNotesSo_53 rfl rfl ?_
    refine e_iadd dX10_areNotesSo_54 ?_
    refine e_iconst (v := (2 : Int32)) dX10_areNotesSo_55 (by decide) ?_
    refine e_iadd dX10_areNotesSo_56 ?_
    obtain ⟨q9, h⟩ := gd_some h
    refine s_iald dX10_areNotesSo_57 (r_10_20 (w := 0) h_a0).2 q9 ?_
    refine e_icmp_eq 63 dX10_areNotesSo_58 (by decide) (fun c10 => ?_) (fun c10 => ?_)
    · rw [if_pos c10] at h
      obtain ⟨x11, q12, h⟩ := lt_some h
      refine e_iinc (v := x11) (L' := [(0, .ref a0), (1, .int i1), (2, .int x11)]) 2 dX10_areNotesSo_63 rfl q12.symm (by decide) rfl ?_
      refine e_goto 2 dX10_areNotesSo_66 (by decide) ?_
      refine s_pick (L' := [(0, .ref a0), (1, .int i1), (2, .int x11)]) [0, 1, 2] rfl ?_
      exact H2 x11 σ5 h
    · rw [if_neg c10] at h
      refine e_iconst (v := (0 : Int32)) dX10_areNotesSo_61 (by decide) ?_
      obtain rfl := Option.some.inj h
      exact s_ret rfl ⟨_, rfl, nb1 (Or.inl rfl)⟩ dX10_areNotesSo_62
def f_X10_areNotesSo (a0 : Nat) (i1 : Int32) (σ : mm_S) : Option (Int32 × mm_S) :=
    f_X10_areNotesSo_2 a0 i1 (0 : Int32) σ
theorem v_X10_areNotesSo {g : mm_G} (d : Nat) {a0 : Nat} {i1 : Int32} {σ : mm_S} {res : Int32 × mm_S} (h_a0 : (mm_K a0).1 = 10) (h : f_X10_areNotesSo a0 i1 σ = some res) : SM g (d + 1) yy_X10_areNotesSo [.ref a0, .int i1] σ (.int res.1) res.2 := by
  refine s_of (by decide) (Nat.le_of_ble_eq_true rfl) (L := [(0, .ref a0), (1, .int i1)]) rfl ?_
  unfold f_X10_areNotesSo at h
  refine e_iconst (v := (0 : Int32)) dX10_areNotesSo_0 (by decide) ?_
  refine e_istore_n (L' := [(0, .ref a0), (1, .int i1), (2, .int (0 : Int32))]) dX10_areNotesSo_1 rfl (by decide) rfl ?_
  refine s_pick (L' := [(0, .ref a0), (1, .int i1), (2, .int (0 : Int32))]) [0, 1, 2] rfl ?_
  exact v_X10_areNotesSo_2 d h_a0 h
abbrev yy_X10_fillsFits : mm_Y := (yX10_fillsFits, cX10_fillsFits, 4, none)
theorem dX10_fillsFits_0 : decode cX10_fillsFits 0 = .ok (.aload_n 0, 1) := by decide +kernel
theorem dX10_fillsFits_1 : decode cX10_fillsFits 1 = .ok (.getfield 42, 3) := by decide +kernel
theorem dX10_fillsFits_4 : decode cX10_fillsFits 4 = .ok (.istore_n 1, 1) := by decide +kernel
theorem dX10_fillsFits_5 : decode cX10_fillsFits 5 = .ok (.aload_n 0, 1) := by decide +kernel
theorem dX10_fillsFits_6 : decode cX10_fillsFits 6 = .ok (.invokevirtual 393, 3) := by decide +kernel
theorem dX10_fillsFits_9 : decode cX10_fillsFits 9 = .ok (.iconst 0, 1) := by decide +kernel
theorem dX10_fillsFits_10 : decode cX10_fillsFits 10 = .ok (.istore_n 2, 1) := by decide +kernel
theorem dX10_fillsFits_11 : decode cX10_fillsFits 11 = .ok (.iload_n 2, 1) := by decide +kernel
theorem dX10_fillsFits_12 : decode cX10_fillsFits 12 = .ok (.aload_n 0, 1) := by decide +kernel
theorem dX10_fillsFits_13 : decode cX10_fillsFits 13 = .ok (.getfield 275, 3) := by decide +kernel
theorem dX10_fillsFits_16 : decode cX10_fillsFits 16 = .ok (.if_icmp .gt 59, 3) := by decide +kernel
theorem dX10_fillsFits_19 : decode cX10_fillsFits 19 = .ok (.aload_n 0, 1) := by decide +kernel
theorem dX10_fillsFits_20 : decode cX10_fillsFits 20 = .ok (.iload_n 2, 1) := by decide +kernel
theorem dX10_fillsFits_21 : decode cX10_fillsFits 21 = .ok (.iconst 1, 1) := by decide +kernel
theorem dX10_fillsFits_22 : decode cX10_fillsFits 22 = .ok (.isub, 1) := by decide +kernel
theorem dX10_fillsFits_23 : decode cX10_fillsFits 23 = .ok (.putfield 42, 3) := by decide +kernel
theorem dX10_fillsFits_26 : decode cX10_fillsFits 26 = .ok (.aload_n 0, 1) := by decide +kernel
theorem dX10_fillsFits_27 : decode cX10_fillsFits 27 = .ok (.invokevirtual 281, 3) := by decide +kernel
theorem dX10_fillsFits_30 : decode cX10_fillsFits 30 = .ok (.iconst 0, 1) := by decide +kernel
theorem dX10_fillsFits_31 : decode cX10_fillsFits 31 = .ok (.istore_n 3, 1) := by decide +kernel
theorem dX10_fillsFits_32 : decode cX10_fillsFits 32 = .ok (.iload_n 3, 1) := by decide +kernel
theorem dX10_fillsFits_33 : decode cX10_fillsFits 33 = .ok (.bipush 60, 2) := by decide +kernel
theorem dX10_fillsFits_35 : decode cX10_fillsFits 35 = .ok (.if_icmp .gt 23, 3) := by decide +kernel
theorem dX10_fillsFits_38 : decode cX10_fillsFits 38 = .ok (.aload_n 0, 1) := by decide +kernel
theorem dX10_fillsFits_39 : decode cX10_fillsFits 39 = .ok (.getfield 83, 3) := by decide +kernel
theorem dX10_fillsFits_42 : decode cX10_fillsFits 42 = .ok (.iload_n 2, 1) := by decide +kernel
theorem dX10_fillsFits_43 : decode cX10_fillsFits 43 = .ok (.iload_n 3, 1) := by decide +kernel
theorem dX10_fillsFits_44 : decode cX10_fillsFits 44 = .ok (.invokestatic 444, 3) := by decide +kernel
theorem dX10_fillsFits_47 : decode cX10_fillsFits 47 = .ok (.aload_n 0, 1) := by decide +kernel
theorem dX10_fillsFits_48 : decode cX10_fillsFits 48 = .ok (.invokevirtual 376, 3) := by decide +kernel
theorem dX10_fillsFits_51 : decode cX10_fillsFits 51 = .ok (.iastore, 1) := by decide +kernel
theorem dX10_fillsFits_52 : decode cX10_fillsFits 52 = .ok (.iinc 3 1, 3) := by decide +kernel
theorem dX10_fillsFits_55 : decode cX10_fillsFits 55 = .ok (.goto (-23), 3) := by decide +kernel
theorem dX10_fillsFits_58 : decode cX10_fillsFits 58 = .ok (.aload_n 0, 1) := by decide +kernel
theorem dX10_fillsFits_59 : decode cX10_fillsFits 59 = .ok (.getfield 79, 3) := by decide +kernel
theorem dX10_fillsFits_62 : decode cX10_fillsFits 62 = .ok (.iload_n 2, 1) := by decide +kernel
theorem dX10_fillsFits_63 : decode cX10_fillsFits 63 = .ok (.aload_n 0, 1) := by decide +kernel
theorem dX10_fillsFits_64 : decode cX10_fillsFits 64 = .ok (.iload_n 2, 1) := by decide +kernel
theorem dX10_fillsFits_65 : decode cX10_fillsFits 65 = .ok (.invokevirtual 448, 3) := by decide +kernel
theorem dX10_fillsFits_68 : decode cX10_fillsFits 68 = .ok (.bastore, 1) := by decide +kernel
theorem dX10_fillsFits_69 : decode cX10_fillsFits 69 = .ok (.iinc 2 1, 3) := by decide +kernel
theorem dX10_fillsFits_72 : decode cX10_fillsFits 72 = .ok (.goto (-61), 3) := by decide +kernel
theorem dX10_fillsFits_75 : decode cX10_fillsFits 75 = .ok (.aload_n 0, 1) := by decide +kernel
theorem dX10_fillsFits_76 : decode cX10_fillsFits 76 = .ok (.iload_n 1, 1) := by decide +kernel
theorem dX10_fillsFits_77 : decode cX10_fillsFits 77 = .ok (.putfield 42, 3) := by decide +kernel
theorem dX10_fillsFits_80 : decode cX10_fillsFits 80 = .ok (.aload_n 0, 1) := by decide +kernel
theorem dX10_fillsFits_81 : decode cX10_fillsFits 81 = .ok (.invokevirtual 399, 3) := by decide +kernel
theorem dX10_fillsFits_84 : decode cX10_fillsFits 84 = .ok (.return_, 1) := by decide +kernel
def f_X10_fillsFits_32 (k11 : (Int32) → mm_S → Option (mm_S)) (a0 : Nat) (i1 : Int32) (i2 : Int32) (i3 : Int32) (σ : mm_S) : Option (mm_S) :=
  lp lpN (fun (k32 : (Int32) → mm_S → Option (mm_S)) (v : Int32) (σ : mm_S) =>
    if (60 : Int32) < v then
      bd (f_X10_areNotesSo a0 i2 σ) fun r4 σ3 =>
      gd i2 7 <|
      lt (su_i σ3 234 i2.toNatClampNeg (vp_nar .boolean r4)) fun σ6 =>
      lt (i2 + Int32.ofInt (1)) fun x8 =>
      k11 x8 σ6
    else
      bd (f_X10_spot i2 v σ) fun r12 σ11 =>
      bd (f_X10_passes a0 σ11) fun r15 σ14 =>
      gd r12 427 <|
      lt (su_i σ14 235 r12.toNatClampNeg r15) fun σ17 =>
      lt (v + Int32.ofInt (1)) fun x19 =>
      k32 x19 σ17) i3 σ
theorem v_X10_fillsFits_32 {g : mm_G} (d : Nat) {k11 : (Int32) → mm_S → Option (mm_S)} {a0 : Nat} {i1 : Int32} {i2 : Int32} {i3 : Int32} {σ : mm_S} {res : mm_S} (H11 : ∀ v σ, k11 v σ = some res → SV g (d + 7) yy_X10_fillsFits 11 [(0, .ref a0), (1, .int i1), (2, .int v)] [] σ .null res) (h_a0 : (mm_K a0).1 = 10) (h : f_X10_fillsFits_32 k11 a0 i1 i2 i3 σ = some res) : SV g (d + 7) yy_X10_fillsFits 32 [(0, .ref a0), (1, .int i1), (2, .int i2), (3, .int i3)] [] σ .null res := by
  unfold f_X10_fillsFits_32 at h
  refine lp_ind (P := fun v σ => SV g (d + 7) yy_X10_fillsFits 32 [(0, .ref a0), (1, .int i1), (2, .int i2), (3, .int v)] [] σ .null res) (fun k32 H32 v σ h => ?_) _ i3 σ h
  refine e_iload_n 3 dX10_fillsFits_32 rfl rfl ?_
  refine e_bipush (v := (60 : Int32)) dX10_fillsFits_33 (by decide) ?_
  refine e_icmp_gt 58 dX10_fillsFits_35 (by decide) (fun c1 => ?_) (fun c1 => ?_)
  · rw [if_pos c1] at h
    refine e_aload_n 0 dX10_fillsFits_58 rfl rfl ?_
    refine s_getr dX10_fillsFits_59 fl_RX10_79 h_a0 (r_10_39 h_a0).1 ?_
    refine e_iload_n 2 dX10_fillsFits_62 rfl rfl ?_
    refine e_aload_n 0 dX10_fillsFits_63 rfl rfl ?_
    refine e_iload_n 2 dX10_fillsFits_64 rfl rfl ?_
    obtain ⟨r4, σ3, q2, h⟩ := bd_some h
    refine s_callVi [.int i2] dX10_fillsFits_65 ml_RX10_448 h_a0 ⟨_, rfl, by decide⟩ rfl (v_X10_areNotesSo (d + 5) h_a0 q2) (Nat.le_of_ble_eq_true rfl) ?_
    obtain ⟨q5, h⟩ := gd_some h
    refine s_zast dX10_fillsFits_68 (r_10_39 (w := 0) h_a0).2 q5 ?_
    obtain ⟨σ6, q7, h⟩ := lt_some h
    refine s_nms q7 ?_
    obtain ⟨x8, q9, h⟩ := lt_some h
    refine e_iinc (v := x8) (L' := [(0, .ref a0), (1, .int i1), (2, .int x8), (3, .int v)]) 2 dX10_fillsFits_69 rfl q9.symm (by decide) rfl ?_
    refine e_goto 11 dX10_fillsFits_72 (by decide) ?_
    refine s_pick (L' := [(0, .ref a0), (1, .int i1), (2, .int x8)]) [0, 1, 2] rfl ?_
    exact H11 x8 σ6 h
  · rw [if_neg c1] at h
    refine e_aload_n 0 dX10_fillsFits_38 rfl rfl ?_
    refine s_getr dX10_fillsFits_39 fl_RX10_83 h_a0 (r_10_40 h_a0).1 ?_
    refine e_iload_n 2 dX10_fillsFits_42 rfl rfl ?_
    refine e_iload_n 3 dX10_fillsFits_43 rfl rfl ?_
    obtain ⟨r12, σ11, q10, h⟩ := bd_some h
    refine s_callSi [.int i2, .int v] dX10_fillsFits_44 ml_RX10_444 ⟨_, rfl, by decide⟩ rfl (v_X10_spot (d + 6)  q10) (Nat.le_of_ble_eq_true rfl) ?_
    refine e_aload_n 0 dX10_fillsFits_47 rfl rfl ?_
    obtain ⟨r15, σ14, q13, h⟩ := bd_some h
    refine s_callVi [] dX10_fillsFits_48 ml_RX10_376 h_a0 ⟨_, rfl, by decide⟩ rfl (v_X10_passes (d + 0) h_a0 q13) (Nat.le_of_ble_eq_true rfl) ?_
    obtain ⟨q16, h⟩ := gd_some h
    refine s_iast dX10_fillsFits_51 (r_10_40 (w := 0) h_a0).2 q16 ?_
    obtain ⟨σ17, q18, h⟩ := lt_some h
    refine s_nms q18 ?_
    obtain ⟨x19, q20, h⟩ := lt_some h
    refine e_iinc (v := x19) (L' := [(0, .ref a0), (1, .int i1), (2, .int i2), (3, .int x19)]) 3 dX10_fillsFits_52 rfl q20.symm (by decide) rfl ?_
    refine e_goto 32 dX10_fillsFits_55 (by decide) ?_
    refine s_pick (L' := [(0, .ref a0), (1, .int i1), (2, .int i2), (3, .int x19)]) [0, 1, 2, 3] rfl ?_
    exact H32 x19 σ17 h
def f_X10_fillsFits_11 (a0 : Nat) (i1 : Int32) (i2 : Int32) (σ : mm_S) : Option (mm_S) :=
  lp lpN (fun (k11 : (Int32) → mm_S → Option (mm_S)) (v : Int32) (σ : mm_S) =>
    if (σ.1 a0 2) < v then
      lt (su_i σ a0 21 i1) fun σ22 =>
      bv (f_X10_laysBack a0 σ22) fun σ25 =>
      some σ25
    else
      lt (su_i σ a0 21 (v - (1 : Int32))) fun σ26 =>
      bv (f_X10_begins a0 σ26) fun σ29 =>
      f_X10_fillsFits_32 k11 a0 i1 v (0 : Int32) σ29) i2 σ
theorem v_X10_fillsFits_11 {g : mm_G} (d : Nat) {a0 : Nat} {i1 : Int32} {i2 : Int32} {σ : mm_S} {res : mm_S}  (h_a0 : (mm_K a0).1 = 10) (h : f_X10_fillsFits_11 a0 i1 i2 σ = some res) : SV g (d + 7) yy_X10_fillsFits 11 [(0, .ref a0), (1, .int i1), (2, .int i2)] [] σ .null res := by
  unfold f_X10_fillsFits_11 at h
  refine lp_ind (P := fun v σ => SV g (d + 7) yy_X10_fillsFits 11 [(0, .ref a0), (1, .int i1), (2, .int v)] [] σ .null res) (fun k11 H11 v σ h => ?_) _ i2 σ h
  refine e_iload_n 2 dX10_fillsFits_11 rfl rfl ?_
  refine e_aload_n 0 dX10_fillsFits_12 rfl rfl ?_
  refine s_geti dX10_fillsFits_13 fl_RX10_275 h_a0 ?_
  refine e_icmp_gt 75 dX10_fillsFits_16 (by decide) (fun c21 => ?_) (fun c21 => ?_)
  · rw [if_pos c21] at h
    refine e_aload_n 0 dX10_fillsFits_75 rfl rfl ?_
    refine e_iload_n 1 dX10_fillsFits_76 rfl rfl ?_
    refine s_puti dX10_fillsFits_77 fl_RX10_42 h_a0 rfl rfl rfl ?_
    obtain ⟨σ22, q23, h⟩ := lt_some h
    refine s_nms q23 ?_
    refine e_aload_n 0 dX10_fillsFits_80 rfl rfl ?_
    obtain ⟨σ25, q24, h⟩ := bv_some h
    refine s_callVv [] dX10_fillsFits_81 ml_RX10_399 h_a0 rfl rfl (v_X10_laysBack (d + 6) h_a0 q24) (Nat.le_of_ble_eq_true rfl) ?_
    obtain rfl := Option.some.inj h
    exact s_ret rfl rfl dX10_fillsFits_84
  · rw [if_neg c21] at h
    refine e_aload_n 0 dX10_fillsFits_19 rfl rfl ?_
    refine e_iload_n 2 dX10_fillsFits_20 rfl rfl ?_
    refine e_iconst (v := (1 : Int32)) dX10_fillsFits_21 (by decide) ?_
    refine e_isub dX10_fillsFits_22 ?_
    refine s_puti dX10_fillsFits_23 fl_RX10_42 h_a0 rfl rfl rfl ?_
    obtain ⟨σ26, q27, h⟩ := lt_some h
    refine s_nms q27 ?_
    refine e_aload_n 0 dX10_fillsFits_26 rfl rfl ?_
    obtain ⟨σ29, q28, h⟩ := bv_some h
    refine s_callVv [] dX10_fillsFits_27 ml_RX10_281 h_a0 rfl rfl (v_X10_begins (d + 6) h_a0 q28) (Nat.le_of_ble_eq_true rfl) ?_
    refine e_iconst (v := (0 : Int32)) dX10_fillsFits_30 (by decide) ?_
    refine e_istore_n (L' := [(0, .ref a0), (1, .int i1), (2, .int v), (3, .int (0 : Int32))]) dX10_fillsFits_31 rfl (by decide) rfl ?_
    refine s_pick (L' := [(0, .ref a0), (1, .int i1), (2, .int v), (3, .int (0 : Int32))]) [0, 1, 2, 3] rfl ?_
    exact v_X10_fillsFits_32 d H11 h_a0 h
def f_X10_fillsFits (a0 : Nat) (σ : mm_S) : Option (mm_S) :=
    lt ((σ.1 a0 21)) fun x34 =>
    bv (f_X10_keeps a0 σ) fun σ37 =>
    f_X10_fillsFits_11 a0 x34 (0 : Int32) σ37
theorem v_X10_fillsFits {g : mm_G} (d : Nat) {a0 : Nat} {σ : mm_S} {res : mm_S} (h_a0 : (mm_K a0).1 = 10) (h : f_X10_fillsFits a0 σ = some res) : SM g (d + 7) yy_X10_fillsFits [.ref a0] σ .null res := by
  refine s_of (by decide) (Nat.le_of_ble_eq_true rfl) (L := [(0, .ref a0)]) rfl ?_
  unfold f_X10_fillsFits at h
  refine e_aload_n 0 dX10_fillsFits_0 rfl rfl ?_
  refine s_geti dX10_fillsFits_1 fl_RX10_42 h_a0 ?_
  obtain ⟨x34, q35, h⟩ := lt_some h
  refine s_nmi q35 ?_
  refine e_istore_n (L' := [(0, .ref a0), (1, .int x34)]) dX10_fillsFits_4 rfl (by decide) rfl ?_
  refine e_aload_n 0 dX10_fillsFits_5 rfl rfl ?_
  obtain ⟨σ37, q36, h⟩ := bv_some h
  refine s_callVv [] dX10_fillsFits_6 ml_RX10_393 h_a0 rfl rfl (v_X10_keeps (d + 6) h_a0 q36) (Nat.le_of_ble_eq_true rfl) ?_
  refine e_iconst (v := (0 : Int32)) dX10_fillsFits_9 (by decide) ?_
  refine e_istore_n (L' := [(0, .ref a0), (1, .int x34), (2, .int (0 : Int32))]) dX10_fillsFits_10 rfl (by decide) rfl ?_
  refine s_pick (L' := [(0, .ref a0), (1, .int x34), (2, .int (0 : Int32))]) [0, 1, 2] rfl ?_
  exact v_X10_fillsFits_11 d h_a0 h
