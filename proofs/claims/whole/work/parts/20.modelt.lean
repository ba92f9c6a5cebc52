abbrev yy_X10_ruled : mm_Y := (yX10_ruled, cX10_ruled, 5, (some .int))
theorem dX10_ruled_0 : decode cX10_ruled 0 = .ok (.aload_n 0, 1) := by decide +kernel
theorem dX10_ruled_1 : decode cX10_ruled 1 = .ok (.invokevirtual 379, 3) := by decide +kernel
theorem dX10_ruled_4 : decode cX10_ruled 4 = .ok (.ifCond .eq 13, 3) := by decide +kernel
theorem dX10_ruled_7 : decode cX10_ruled 7 = .ok (.iload_n 1, 1) := by decide +kernel
theorem dX10_ruled_8 : decode cX10_ruled 8 = .ok (.i2l, 1) := by decide +kernel
theorem dX10_ruled_9 : decode cX10_ruled 9 = .ok (.lconst 0, 1) := by decide +kernel
theorem dX10_ruled_10 : decode cX10_ruled 10 = .ok (.lconst 1, 1) := by decide +kernel
theorem dX10_ruled_11 : decode cX10_ruled 11 = .ok (.invokestatic 136, 3) := by decide +kernel
theorem dX10_ruled_14 : decode cX10_ruled 14 = .ok (.ifCond .ne 6, 3) := by decide +kernel
theorem dX10_ruled_17 : decode cX10_ruled 17 = .ok (.bipush (-3), 2) := by decide +kernel
theorem dX10_ruled_19 : decode cX10_ruled 19 = .ok (.ireturn, 1) := by decide +kernel
theorem dX10_ruled_20 : decode cX10_ruled 20 = .ok (.aload_n 0, 1) := by decide +kernel
theorem dX10_ruled_21 : decode cX10_ruled 21 = .ok (.invokevirtual 451, 3) := by decide +kernel
theorem dX10_ruled_24 : decode cX10_ruled 24 = .ok (.iconst 0, 1) := by decide +kernel
theorem dX10_ruled_25 : decode cX10_ruled 25 = .ok (.istore_n 2, 1) := by decide +kernel
theorem dX10_ruled_26 : decode cX10_ruled 26 = .ok (.bipush (-2), 2) := by decide +kernel
theorem dX10_ruled_28 : decode cX10_ruled 28 = .ok (.istore_n 3, 1) := by decide +kernel
theorem dX10_ruled_29 : decode cX10_ruled 29 = .ok (.aload_n 0, 1) := by decide +kernel
theorem dX10_ruled_30 : decode cX10_ruled 30 = .ok (.getfield 275, 3) := by decide +kernel
theorem dX10_ruled_33 : decode cX10_ruled 33 = .ok (.istore 4, 2) := by decide +kernel
theorem dX10_ruled_35 : decode cX10_ruled 35 = .ok (.iload 4, 2) := by decide +kernel
theorem dX10_ruled_37 : decode cX10_ruled 37 = .ok (.ifCond .lt 30, 3) := by decide +kernel
theorem dX10_ruled_40 : decode cX10_ruled 40 = .ok (.aload_n 0, 1) := by decide +kernel
theorem dX10_ruled_41 : decode cX10_ruled 41 = .ok (.getfield 79, 3) := by decide +kernel
theorem dX10_ruled_44 : decode cX10_ruled 44 = .ok (.iload 4, 2) := by decide +kernel
theorem dX10_ruled_46 : decode cX10_ruled 46 = .ok (.baload, 1) := by decide +kernel
theorem dX10_ruled_47 : decode cX10_ruled 47 = .ok (.ifCond .ne 6, 3) := by decide +kernel
theorem dX10_ruled_50 : decode cX10_ruled 50 = .ok (.goto 11, 3) := by decide +kernel
theorem dX10_ruled_53 : decode cX10_ruled 53 = .ok (.iload 4, 2) := by decide +kernel
theorem dX10_ruled_55 : decode cX10_ruled 55 = .ok (.iconst 1, 1) := by decide +kernel
theorem dX10_ruled_56 : decode cX10_ruled 56 = .ok (.isub, 1) := by decide +kernel
theorem dX10_ruled_57 : decode cX10_ruled 57 = .ok (.istore_n 3, 1) := by decide +kernel
theorem dX10_ruled_58 : decode cX10_ruled 58 = .ok (.iinc 2 1, 3) := by decide +kernel
theorem dX10_ruled_61 : decode cX10_ruled 61 = .ok (.iinc 4 (-1), 3) := by decide +kernel
theorem dX10_ruled_64 : decode cX10_ruled 64 = .ok (.goto (-29), 3) := by decide +kernel
theorem dX10_ruled_67 : decode cX10_ruled 67 = .ok (.iload_n 1, 1) := by decide +kernel
theorem dX10_ruled_68 : decode cX10_ruled 68 = .ok (.ifCond .ne 7, 3) := by decide +kernel
theorem dX10_ruled_71 : decode cX10_ruled 71 = .ok (.iload_n 2, 1) := by decide +kernel
theorem dX10_ruled_72 : decode cX10_ruled 72 = .ok (.goto 4, 3) := by decide +kernel
theorem dX10_ruled_75 : decode cX10_ruled 75 = .ok (.iload_n 3, 1) := by decide +kernel
theorem dX10_ruled_76 : decode cX10_ruled 76 = .ok (.ireturn, 1) := by decide +kernel
def f_X10_ruled_35 (a0 : Nat) (i1 : Int32) (i2 : Int32) (i3 : Int32) (i4 : Int32) (σ : mm_S) : Option (Int32 × mm_S) :=
  lp lpN (fun (k35 : (Int32 × Int32 × Int32) → mm_S → Option (Int32 × mm_S)) (v : Int32 × Int32 × Int32) (σ : mm_S) =>
    if v.2.2 < 0 then
      if i1 = 0 then
        some (v.1, σ)
      else
        some (v.2.1, σ)
    else
      gd v.2.2 7 <|
      if (σ.1 234 v.2.2.toNatClampNeg) = 0 then
        lt (v.2.2 + Int32.ofInt (-1)) fun x11 =>
        k35 (v.1, v.2.1, x11) σ
      else
        lt ((v.2.2 - (1 : Int32))) fun x5 =>
        lt (v.1 + Int32.ofInt (1)) fun x7 =>
        lt (v.2.2 + Int32.ofInt (-1)) fun x9 =>
        k35 (x7, x5, x9) σ) (i2, i3, i4) σ
theorem v_X10_ruled_35 {g : mm_G} (d : Nat) {a0 : Nat} {i1 : Int32} {i2 : Int32} {i3 : Int32} {i4 : Int32} {σ : mm_S} {res : Int32 × mm_S}  (h_a0 : (mm_K a0).1 = 10) (h : f_X10_ruled_35 a0 i1 i2 i3 i4 σ = some res) : SV g (d + 8) yy_X10_ruled 35 [(0, .ref a0), (1, .int i1), (2, .int i2), (3, .int i3), (4, .int i4)] [] σ (.int res.1) res.2 := by
  unfold f_X10_ruled_35 at h
  refine lp_ind (P := fun v σ => SV g (d + 8) yy_X10_ruled 35 [(0, .ref a0), (1, .int i1), (2, .int v.1), (3, .int v.2.1), (4, .int v.2.2)] [] σ (.int res.1) res.2) (fun k35 H35 v σ h => ?_) _ (i2, i3, i4) σ h
  refine e_iload 4 dX10_ruled_35  rfl ?_
  refine e_if_lt 67 dX10_ruled_37 (by decide) (fun c1 => ?_) (fun c1 => ?_)
  · rw [if_pos c1] at h
    refine e_iload_n 1 dX10_ruled_67 rfl rfl ?_
    refine e_if_ne 75 dX10_ruled_68 (by decide) (fun c2 => ?_) (fun c2 => ?_)
    · rw [if_neg c2] at h
      refine e_iload_n 3 dX10_ruled_75 rfl rfl ?_
      obtain rfl := Option.some.inj h
      exact s_ret rfl ⟨_, rfl, rfl⟩ dX10_ruled_76
    · rw [if_pos c2] at h
      refine e_iload_n 2 dX10_ruled_71 rfl rfl ?_
      refine e_goto 76 dX10_ruled_72 (by decide) ?_
      obtain rfl := Option.some.inj h
      exact s_ret rfl ⟨_, rfl, rfl⟩ dX10_ruled_76
  · rw [if_neg c1] at h
    refine e_aload_n 0 dX10_ruled_40 rfl rfl ?_
    refine s_getr dX10_ruled_41 fl_RX10_79 h_a0 (r_10_39 h_a0).1 ?_
    refine e_iload 4 dX10_ruled_44  rfl ?_
    obtain ⟨q3, h⟩ := gd_some h
    refine s_zald dX10_ruled_46 (r_10_39 (w := 0) h_a0).2 q3 ?_
    refine e_if_ne 53 dX10_ruled_47 (by decide) (fun c4 => ?_) (fun c4 => ?_)
    · rw [if_neg c4] at h
      refine e_iload 4 dX10_ruled_53  rfl ?_
      refine e_iconst (v := (1 : Int32)) dX10_ruled_55 (by decide) ?_
      refine e_isub dX10_ruled_56 ?_
      obtain ⟨x5, q6, h⟩ := lt_some h
      refine s_nmi q6 ?_
      refine e_istore_n (L' := [(0, .ref a0), (1, .int i1), (2, .int v.1), (3, .int x5), (4, .int v.2.2)]) dX10_ruled_57 rfl (by decide) rfl ?_
      obtain ⟨x7, q8, h⟩ := lt_some h
      refine e_iinc (v := x7) (L' := [(0, .ref a0), (1, .int i1), (2, .int x7), (3, .int x5), (4, .int v.2.2)]) 2 dX10_ruled_58 rfl q8.symm (by decide) rfl ?_
      obtain ⟨x9, q10, h⟩ := lt_some h
      refine e_iinc (v := x9) (L' := [(0, .ref a0), (1, .int i1), (2, .int x7), (3, .int x5), (4, .int x9)]) 4 dX10_ruled_61 rfl q10.symm (by decide) rfl ?_
      refine e_goto 35 dX10_ruled_64 (by decide) ?_
      refine s_pick (L' := [(0, .ref a0), (1, .int i1), (2, .int x7), (3, .int x5), (4, .int x9)]) [0, 1, 2, 3, 4] rfl ?_
      exact H35 (x7, x5, x9) σ h
    · rw [if_pos c4] at h
      refine e_goto 61 dX10_ruled_50 (by decide) ?_
      obtain ⟨x11, q12, h⟩ := lt_some h
      refine e_iinc (v := x11) (L' := [(0, .ref a0), (1, .int i1), (2, .int v.1), (3, .int v.2.1), (4, .int x11)]) 4 dX10_ruled_61 rfl q12.symm (by decide) rfl ?_
      refine e_goto 35 dX10_ruled_64 (by decide) ?_
      refine s_pick (L' := [(0, .ref a0), (1, .int i1), (2, .int v.1), (3, .int v.2.1), (4, .int x11)]) [0, 1, 2, 3, 4] rfl ?_
      exact H35 (v.1, v.2.1, x11) σ h
def f_X10_ruled (a0 : Nat) (i1 : Int32) (σ : mm_S) : Option (Int32 × mm_S) :=
    bd (f_X10_isHouse a0 σ) fun r27 σ26 =>
    if r27 = 0 then
      some ((-3 : Int32), σ26)
    else
      bd (f_X10_in (i1 : Int32).toInt64 (0 : Int64) (1 : Int64) σ26) fun r31 σ30 =>
      if r31 = 0 then
        some ((-3 : Int32), σ30)
      else
        bv (f_X10_fillsFits a0 σ30) fun σ34 =>
        lt ((σ34.1 a0 2)) fun x35 =>
        f_X10_ruled_35 a0 i1 (0 : Int32) (-2 : Int32) x35 σ34
theorem v_X10_ruled {g : mm_G} (d : Nat) {a0 : Nat} {i1 : Int32} {σ : mm_S} {res : Int32 × mm_S} (h_a0 : (mm_K a0).1 = 10) (h : f_X10_ruled a0 i1 σ = some res) : SM g (d + 8) yy_X10_ruled [.ref a0, .int i1] σ (.int res.1) res.2 := by
  refine s_of (by decide) (Nat.le_of_ble_eq_true rfl) (L := [(0, .ref a0), (1, .int i1)]) rfl ?_
  unfold f_X10_ruled at h
  refine e_aload_n 0 dX10_ruled_0 rfl rfl ?_
  obtain ⟨r27, σ26, q25, h⟩ := bd_some h
  refine s_callVi [] dX10_ruled_1 ml_RX10_379 h_a0 ⟨_, rfl, by decide⟩ rfl (v_X10_isHouse (d + 7) h_a0 q25) (Nat.le_of_ble_eq_true rfl) ?_
  refine e_if_eq 17 dX10_ruled_4 (by decide) (fun c28 => ?_) (fun c28 => ?_)
  · rw [if_pos c28] at h
    refine e_bipush (v := (-3 : Int32)) dX10_ruled_17 (by decide) ?_
    obtain rfl := Option.some.inj h
    exact s_ret rfl ⟨_, rfl, rfl⟩ dX10_ruled_19
  · rw [if_neg c28] at h
    refine e_iload_n 1 dX10_ruled_7 rfl rfl ?_
    refine e_i2l dX10_ruled_8 ?_
    refine e_lconst (v := (0 : Int64)) dX10_ruled_9 (by decide) ?_
    refine e_lconst (v := (1 : Int64)) dX10_ruled_10 (by decide) ?_
    obtain ⟨r31, σ30, q29, h⟩ := bd_some h
    refine s_callSi [.long (i1 : Int32).toInt64, .long (0 : Int64), .long (1 : Int64)] dX10_ruled_11 ml_RX10_136 ⟨_, rfl, by decide⟩ rfl (v_X10_in (d + 7)  q29) (Nat.le_of_ble_eq_true rfl) ?_
    refine e_if_ne 20 dX10_ruled_14 (by decide) (fun c32 => ?_) (fun c32 => ?_)
    · rw [if_neg c32] at h
      refine e_aload_n 0 dX10_ruled_20 rfl rfl ?_
      obtain ⟨σ34, q33, h⟩ := bv_some h
      refine s_callVv [] dX10_ruled_21 ml_RX10_451 h_a0 rfl rfl (v_X10_fillsFits (d + 0) h_a0 q33) (Nat.le_of_ble_eq_true rfl) ?_
      refine e_iconst (v := (0 : Int32)) dX10_ruled_24 (by decide) ?_
      refine e_istore_n (L' := [(0, .ref a0), (1, .int i1), (2, .int (0 : Int32))]) dX10_ruled_25 rfl (by decide) rfl ?_
      refine e_bipush (v := (-2 : Int32)) dX10_ruled_26 (by decide) ?_
      refine e_istore_n (L' := [(0, .ref a0), (1, .int i1), (2, .int (0 : Int32)), (3, .int (-2 : Int32))]) dX10_ruled_28 rfl (by decide) rfl ?_
      refine e_aload_n 0 dX10_ruled_29 rfl rfl ?_
      refine s_geti dX10_ruled_30 fl_RX10_275 h_a0 ?_
      obtain ⟨x35, q36, h⟩ := lt_some h
      refine s_nmi q36 ?_
      refine e_istore (L' := [(0, .ref a0), (1, .int i1), (2, .int (0 : Int32)), (3, .int (-2 : Int32)), (4, .int x35)]) dX10_ruled_33  (by decide) rfl ?_
      refine s_pick (L' := [(0, .ref a0), (1, .int i1), (2, .int (0 : Int32)), (3, .int (-2 : Int32)), (4, .int x35)]) [0, 1, 2, 3, 4] rfl ?_
      exact v_X10_ruled_35 d h_a0 h
    · rw [if_pos c32] at h
      refine e_bipush (v := (-3 : Int32)) dX10_ruled_17 (by decide) ?_
      obtain rfl := Option.some.inj h
      exact s_ret rfl ⟨_, rfl, rfl⟩ dX10_ruled_19
abbrev yy_X10_alikeAt : mm_Y := (yX10_alikeAt, cX10_alikeAt, 6, (some .int))
theorem dX10_alikeAt_0 : decode cX10_alikeAt 0 = .ok (.iconst 0, 1) := by decide +kernel
theorem dX10_alikeAt_1 : decode cX10_alikeAt 1 = .ok (.istore_n 2, 1) := by decide +kernel
theorem dX10_alikeAt_2 : decode cX10_alikeAt 2 = .ok (.iconst 0, 1) := by decide +kernel
theorem dX10_alikeAt_3 : decode cX10_alikeAt 3 = .ok (.istore_n 3, 1) := by decide +kernel
theorem dX10_alikeAt_4 : decode cX10_alikeAt 4 = .ok (.iload_n 3, 1) := by decide +kernel
theorem dX10_alikeAt_5 : decode cX10_alikeAt 5 = .ok (.aload_n 0, 1) := by decide +kernel
theorem dX10_alikeAt_6 : decode cX10_alikeAt 6 = .ok (.getfield 275, 3) := by decide +kernel
theorem dX10_alikeAt_9 : decode cX10_alikeAt 9 = .ok (.if_icmp .gt 96, 3) := by decide +kernel
theorem dX10_alikeAt_12 : decode cX10_alikeAt 12 = .ok (.iconst 0, 1) := by decide +kernel
theorem dX10_alikeAt_13 : decode cX10_alikeAt 13 = .ok (.istore 4, 2) := by decide +kernel
theorem dX10_alikeAt_15 : decode cX10_alikeAt 15 = .ok (.iconst 0, 1) := by decide +kernel
theorem dX10_alikeAt_16 : decode cX10_alikeAt 16 = .ok (.istore 5, 2) := by decide +kernel
theorem dX10_alikeAt_18 : decode cX10_alikeAt 18 = .ok (.iload 5, 2) := by decide +kernel
theorem dX10_alikeAt_20 : decode cX10_alikeAt 20 = .ok (.aload_n 0, 1) := by decide +kernel
theorem dX10_alikeAt_21 : decode cX10_alikeAt 21 = .ok (.getfield 275, 3) := by decide +kernel
theorem dX10_alikeAt_24 : decode cX10_alikeAt 24 = .ok (.if_icmp .gt 62, 3) := by decide +kernel
theorem dX10_alikeAt_27 : decode cX10_alikeAt 27 = .ok (.aload_n 0, 1) := by decide +kernel
theorem dX10_alikeAt_28 : decode cX10_alikeAt 28 = .ok (.getfield 79, 3) := by decide +kernel
theorem dX10_alikeAt_31 : decode cX10_alikeAt 31 = .ok (.iload_n 3, 1) := by decide +kernel
theorem dX10_alikeAt_32 : decode cX10_alikeAt 32 = .ok (.baload, 1) := by decide +kernel
theorem dX10_alikeAt_33 : decode cX10_alikeAt 33 = .ok (.ifCond .eq 53, 3) := by decide +kernel
theorem dX10_alikeAt_36 : decode cX10_alikeAt 36 = .ok (.iload 4, 2) := by decide +kernel
theorem dX10_alikeAt_38 : decode cX10_alikeAt 38 = .ok (.aload_n 0, 1) := by decide +kernel
theorem dX10_alikeAt_39 : decode cX10_alikeAt 39 = .ok (.getfield 79, 3) := by decide +kernel
theorem dX10_alikeAt_42 : decode cX10_alikeAt 42 = .ok (.iload 5, 2) := by decide +kernel
theorem dX10_alikeAt_44 : decode cX10_alikeAt 44 = .ok (.baload, 1) := by decide +kernel
theorem dX10_alikeAt_45 : decode cX10_alikeAt 45 = .ok (.ifCond .eq 31, 3) := by decide +kernel
theorem dX10_alikeAt_48 : decode cX10_alikeAt 48 = .ok (.aload_n 0, 1) := by decide +kernel
theorem dX10_alikeAt_49 : decode cX10_alikeAt 49 = .ok (.getfield 83, 3) := by decide +kernel
theorem dX10_alikeAt_52 : decode cX10_alikeAt 52 = .ok (.iload_n 3, 1) := by decide +kernel
theorem dX10_alikeAt_53 : decode cX10_alikeAt 53 = .ok (.iload_n 1, 1) := by decide +kernel
theorem dX10_alikeAt_54 : decode cX10_alikeAt 54 = .ok (.invokestatic 444, 3) := by decide +kernel
theorem dX10_alikeAt_57 : decode cX10_alikeAt 57 = .ok (.iaload, 1) := by decide +kernel
theorem dX10_alikeAt_58 : decode cX10_alikeAt 58 = .ok (.aload_n 0, 1) := by decide +kernel
theorem dX10_alikeAt_59 : decode cX10_alikeAt 59 = .ok (.getfield 83, 3) := by decide +kernel
theorem dX10_alikeAt_62 : decode cX10_alikeAt 62 = .ok (.iload 5, 2) := by decide +kernel
theorem dX10_alikeAt_64 : decode cX10_alikeAt 64 = .ok (.iload_n 1, 1) := by decide +kernel
theorem dX10_alikeAt_65 : decode cX10_alikeAt 65 = .ok (.invokestatic 444, 3) := by decide +kernel
theorem dX10_alikeAt_68 : decode cX10_alikeAt 68 = .ok (.iaload, 1) := by decide +kernel
theorem dX10_alikeAt_69 : decode cX10_alikeAt 69 = .ok (.if_icmp .ne 7, 3) := by decide +kernel
theorem dX10_alikeAt_72 : decode cX10_alikeAt 72 = .ok (.iconst 1, 1) := by decide +kernel
theorem dX10_alikeAt_73 : decode cX10_alikeAt 73 = .ok (.goto 4, 3) := by decide +kernel
theorem dX10_alikeAt_76 : decode cX10_alikeAt 76 = .ok (.iconst 0, 1) := by decide +kernel
theorem dX10_alikeAt_77 : decode cX10_alikeAt 77 = .ok (.iadd, 1) := by decide +kernel
theorem dX10_alikeAt_78 : decode cX10_alikeAt 78 = .ok (.istore 4, 2) := by decide +kernel
theorem dX10_alikeAt_80 : decode cX10_alikeAt 80 = .ok (.iinc 5 1, 3) := by decide +kernel
theorem dX10_alikeAt_83 : decode cX10_alikeAt 83 = .ok (.goto (-65), 3) := by decide +kernel
theorem dX10_alikeAt_86 : decode cX10_alikeAt 86 = .ok (.iload 4, 2) := by decide +kernel
theorem dX10_alikeAt_88 : decode cX10_alikeAt 88 = .ok (.iload_n 2, 1) := by decide +kernel
theorem dX10_alikeAt_89 : decode cX10_alikeAt 89 = .ok (.if_icmp .le 8, 3) := by decide +kernel
theorem dX10_alikeAt_92 : decode cX10_alikeAt 92 = .ok (.iload 4, 2) := by decide +kernel
theorem dX10_alikeAt_94 : decode cX10_alikeAt 94 = .ok (.goto 4, 3) := by decide +kernel
theorem dX10_alikeAt_97 : decode cX10_alikeAt 97 = .ok (.iload_n 2, 1) := by decide +kernel
theorem dX10_alikeAt_98 : decode cX10_alikeAt 98 = .ok (.istore_n 2, 1) := by decide +kernel
theorem dX10_alikeAt_99 : decode cX10_alikeAt 99 = .ok (.iinc 3 1, 3) := by decide +kernel
theorem dX10_alikeAt_102 : decode cX10_alikeAt 102 = .ok (.goto (-98), 3) := by decide +kernel
theorem dX10_alikeAt_105 : decode cX10_alikeAt 105 = .ok (.iload_n 2, 1) := by decide +kernel
theorem dX10_alikeAt_106 : decode cX10_alikeAt 106 = .ok (.ireturn, 1) := by decide +kernel
def f_X10_alikeAt_86 (k4 : (Int32 × Int32) → mm_S → Option (Int32 × mm_S)) (a0 : Nat) (i1 : Int32) (i2 : Int32) (i3 : Int32) (i4 : Int32) (σ : mm_S) : Option (Int32 × mm_S) :=
    if i4 ≤ i2 then
      lt (i3 + Int32.ofInt (1)) fun x2 =>
      k4 (i2, x2) σ
    else
      lt (i3 + Int32.ofInt (1)) fun x4 =>
      k4 (i4, x4) σ
theorem v_X10_alikeAt_86 {g : mm_G} (d : Nat) {k4 : (Int32 × Int32) → mm_S → Option (Int32 × mm_S)} {a0 : Nat} {i1 : Int32} {i2 : Int32} {i3 : Int32} {i4 : Int32} {σ : mm_S} {res : Int32 × mm_S} (H4 : ∀ v σ, k4 v σ = some res → SV g (d + 1) yy_X10_alikeAt 4 [(0, .ref a0), (1, .int i1), (2, .int v.1), (3, .int v.2)] [] σ (.int res.1) res.2) (h_a0 : (mm_K a0).1 = 10) (h : f_X10_alikeAt_86 k4 a0 i1 i2 i3 i4 σ = some res) : SV g (d + 1) yy_X10_alikeAt 86 [(0, .ref a0), (1, .int i1), (2, .int i2), (3, .int i3), (4, .int i4)] [] σ (.int res.1) res.2 := by
  unfold f_X10_alikeAt_86 at h
  refine e_iload 4 dX10_alikeAt_86  rfl ?_
  refine e_iload_n 2 dX10_alikeAt_88 rfl rfl ?_
  refine e_icmp_le 97 dX10_alikeAt_89 (by decide) (fun c1 => ?_) (fun c1 => ?_)
  · rw [if_pos c1] at h
    refine e_iload_n 2 dX10_alikeAt_97 rfl rfl ?_
    refine e_istore_n (L' := [(0, .ref a0), (1, .int i1), (2, .int i2), (3, .int i3), (4, .int i4)]) dX10_alikeAt_98 rfl (by decide) rfl ?_
    obtain ⟨x2, q3, h⟩ := lt_some h
    refine e_iinc (v := x2) (L' := [(0, .ref a0), (1, .int i1), (2, .int i2), (3, .int x2), (4, .int i4)]) 3 dX10_alikeAt_99 rfl q3.symm (by decide) rfl ?_
    refine e_goto 4 dX10_alikeAt_102 (by decide) ?_
    refine s_pick (L' := [(0, .ref a0), (1, .int i1), (2, .int i2), (3, .int x2)]) [0, 1, 2, 3] rfl ?_
    exact H4 (i2, x2) σ h
  · rw [if_neg c1] at h
    refine e_iload 4 dX10_alikeAt_92  rfl ?_
    refine e_goto 98 dX10_alikeAt_94 (by decide) ?_
    refine e_istore_n (L' := [(0, .ref a0), (1, .int i1), (2, .int i4), (3, .int i3), (4, .int i4)]) dX10_alikeAt_98 rfl (by decide) rfl ?_
    obtain ⟨x4, q5, h⟩ := lt_some h
    refine e_iinc (v := x4) (L' := [(0, .ref a0), (1, .int i1), (2, .int i4), (3, .int x4), (4, .int i4)]) 3 dX10_alikeAt_99 rfl q5.symm (by decide) rfl ?_
    refine e_goto 4 dX10_alikeAt_102 (by decide) ?_
    refine s_pick (L' := [(0, .ref a0), (1, .int i1), (2, .int i4), (3, .int x4)]) [0, 1, 2, 3] rfl ?_
    exact H4 (i4, x4) σ h
def f_X10_alikeAt_76 (k4 : (Int32 × Int32) → mm_S → Option (Int32 × mm_S)) (k18 : (Int32 × Int32) → mm_S → Option (Int32 × mm_S)) (a0 : Nat) (i1 : Int32) (i2 : Int32) (i3 : Int32) (i5 : Int32) (s0 : Int32) (σ : mm_S) : Option (Int32 × mm_S) :=
    lt ((s0 + (0 : Int32))) fun x6 =>
    lt (i5 + Int32.ofInt (1)) fun x8 =>
    k18 (x6, x8) σ
theorem v_X10_alikeAt_76 {g : mm_G} (d : Nat) {k4 : (Int32 × Int32) → mm_S → Option (Int32 × mm_S)} {k18 : (Int32 × Int32) → mm_S → Option (Int32 × mm_S)} {a0 : Nat} {i1 : Int32} {i2 : Int32} {i3 : Int32} {i5 : Int32} {s0 : Int32} {σ : mm_S} {res : Int32 × mm_S} (H4 : ∀ v σ, k4 v σ = some res → SV g (d + 1) yy_X10_alikeAt 4 [(0, .ref a0), (1, .int i1), (2, .int v.1), (3, .int v.2)] [] σ (.int res.1) res.2) (H18 : ∀ v σ, k18 v σ = some res → SV g (d + 1) yy_X10_alikeAt 18 [(0, .ref a0), (1, .int i1), (2, .int i2), (3, .int i3), (4, .int v.1), (5, .int v.2)] [] σ (.int res.1) res.2) (h_a0 : (mm_K a0).1 = 10) (h : f_X10_alikeAt_76 k4 k18 a0 i1 i2 i3 i5 s0 σ = some res) : SV g (d + 1) yy_X10_alikeAt 76 [(0, .ref a0), (1, .int i1), (2, .int i2), (3, .int i3), (5, .int i5)] [.int s0] σ (.int res.1) res.2 := by
  unfold f_X10_alikeAt_76 at h
  refine e_iconst (v := (0 : Int32)) dX10_alikeAt_76 (by decide) ?_
  refine e_iadd dX10_alikeAt_77 ?_
  obtain ⟨x6, q7, h⟩ := lt_some h
  refine s_nmi q7 ?_
  refine e_istore (L' := [(0, .ref a0), (1, .int i1), (2, .int i2), (3, .int i3), (4, .int x6), (5, .int i5)]) dX10_alikeAt_78  (by decide) rfl ?_
  obtain ⟨x8, q9, h⟩ := lt_some h
  refine e_iinc (v := x8) (L' := [(0, .ref a0), (1, .int i1), (2, .int i2), (3, .int i3), (4, .int x6), (5, .int x8)]) 5 dX10_alikeAt_80 rfl q9.symm (by decide) rfl ?_
  refine e_goto 18 dX10_alikeAt_83 (by decide) ?_
  refine s_pick (L' := [(0, .ref a0), (1, .int i1), (2, .int i2), (3, .int i3), (4, .int x6), (5, .int x8)]) [0, 1, 2, 3, 4, 5] rfl ?_
  exact H18 (x6, x8) σ h
def f_X10_alikeAt_18 (k4 : (Int32 × Int32) → mm_S → Option (Int32 × mm_S)) (a0 : Nat) (i1 : Int32) (i2 : Int32) (i3 : Int32) (i4 : Int32) (i5 : Int32) (σ : mm_S) : Option (Int32 × mm_S) :=
  lp lpN (fun (k18 : (Int32 × Int32) → mm_S → Option (Int32 × mm_S)) (v : Int32 × Int32) (σ : mm_S) =>
    if (σ.1 a0 2) < v.2 then
      f_X10_alikeAt_86 k4 a0 i1 i2 i3 v.1 σ
    else
      gd i3 7 <|
      if (σ.1 234 i3.toNatClampNeg) = 0 then
        f_X10_alikeAt_86 k4 a0 i1 i2 i3 v.1 σ
      else
        gd v.2 7 <|
        if (σ.1 234 v.2.toNatClampNeg) = 0 then
          f_X10_alikeAt_76 k4 k18 a0 i1 i2 i3 v.2 v.1 σ
        else
          bd (f_X10_spot i3 i1 σ) fun r17 σ16 =>
          gd r17 427 <|
          bd (f_X10_spot v.2 i1 σ16) fun r21 σ20 =>
          gd r21 427 <|
          if (σ16.1 235 r17.toNatClampNeg) = (σ20.1 235 r21.toNatClampNeg) then
            lt ((v.1 + (1 : Int32))) fun x24 =>
            lt (v.2 + Int32.ofInt (1)) fun x26 =>
            k18 (x24, x26) σ20
          else
            f_X10_alikeAt_76 k4 k18 a0 i1 i2 i3 v.2 v.1 σ20) (i4, i5) σ
theorem v_X10_alikeAt_18 {g : mm_G} (d : Nat) {k4 : (Int32 × Int32) → mm_S → Option (Int32 × mm_S)} {a0 : Nat} {i1 : Int32} {i2 : Int32} {i3 : Int32} {i4 : Int32} {i5 : Int32} {σ : mm_S} {res : Int32 × mm_S} (H4 : ∀ v σ, k4 v σ = some res → SV g (d + 1) yy_X10_alikeAt 4 [(0, .ref a0), (1, .int i1), (2, .int v.1), (3, .int v.2)] [] σ (.int res.1) res.2) (h_a0 : (mm_K a0).1 = 10) (h : f_X10_alikeAt_18 k4 a0 i1 i2 i3 i4 i5 σ = some res) : SV g (d + 1) yy_X10_alikeAt 18 [(0, .ref a0), (1, .int i1), (2, .int i2), (3, .int i3), (4, .int i4), (5, .int i5)] [] σ (.int res.1) res.2 := by
  unfold f_X10_alikeAt_18 at h
  refine lp_ind (P := fun v σ => SV g (d + 1) yy_X10_alikeAt 18 [(0, .ref a0), (1, .int i1), (2, .int i2), (3, .int i3), (4, .int v.1), (5, .int v.2)] [] σ (.int res.1) res.2) (fun k18 H18 v σ h => ?_) _ (i4, i5) σ h
  refine e_iload 5 dX10_alikeAt_18  rfl ?_
  refine e_aload_n 0 dX10_alikeAt_20 rfl rfl ?_
  refine s_geti dX10_alikeAt_21 fl_RX10_275 h_a0 ?_
  refine e_icmp_gt 86 dX10_alikeAt_24 (by decide) (fun c10 => ?_) (fun c10 => ?_)
  · rw [if_pos c10] at h
    refine s_pick (L' := [(0, .ref a0), (1, .int i1), (2, .int i2), (3, .int i3), (4, .int v.1)]) [0, 1, 2, 3, 4] rfl ?_
    exact v_X10_alikeAt_86 d H4 h_a0 h
  · rw [if_neg c10] at h
    refine e_aload_n 0 dX10_alikeAt_27 rfl rfl ?_
    refine s_getr dX10_alikeAt_28 fl_RX10_79 h_a0 (r_10_39 h_a0).1 ?_
    refine e_iload_n 3 dX10_alikeAt_31 rfl rfl ?_
    obtain ⟨q11, h⟩ := gd_some h
    refine s_zald dX10_alikeAt_32 (r_10_39 (w := 0) h_a0).2 q11 ?_
    refine e_if_eq 86 dX10_alikeAt_33 (by decide) (fun c12 => ?_) (fun c12 => ?_)
    · rw [if_pos c12] at h
      refine s_pick (L' := [(0, .ref a0), (1, .int i1), (2, .int i2), (3, .int i3), (4, .int v.1)]) [0, 1, 2, 3, 4] rfl ?_
      exact v_X10_alikeAt_86 d H4 h_a0 h
    · rw [if_neg c12] at h
      refine e_iload 4 dX10_alikeAt_36  rfl ?_
      refine e_aload_n 0 dX10_alikeAt_38 rfl rfl ?_
      refine s_getr dX10_alikeAt_39 fl_RX10_79 h_a0 (r_10_39 h_a0).1 ?_
      refine e_iload 5 dX10_alikeAt_42  rfl ?_
      obtain ⟨q13, h⟩ := gd_some h
      refine s_zald dX10_alikeAt_44 (r_10_39 (w := 0) h_a0).2 q13 ?_
      refine e_if_eq 76 dX10_alikeAt_45 (by decide) (fun c14 => ?_) (fun c14 => ?_)
      · rw [if_pos c14] at h
        refine s_pick (L' := [(0, .ref a0), (1, .int i1), (2, .int i2), (3, .int i3), (5, .int v.2)]) [0, 1, 2, 3, 5] rfl ?_
        exact v_X10_alikeAt_76 d H4 H18 h_a0 h
      · rw [if_neg c14] at h
        refine e_aload_n 0 dX10_alikeAt_48 rfl rfl ?_
        refine s_getr dX10_alikeAt_49 fl_RX10_83 h_a0 (r_10_40 h_a0).1 ?_
        refine e_iload_n 3 dX10_alikeAt_52 rfl rfl ?_
        refine e_iload_n 1 dX10_alikeAt_53 rfl rfl ?_
        obtain ⟨r17, σ16, q15, h⟩ := bd_some h
        refine s_callSi [.int i3, .int i1] dX10_alikeAt_54 ml_RX10_444 ⟨_, rfl, by decide⟩ rfl (v_X10_spot (d + 0)  q15) (Nat.le_of_ble_eq_true rfl) ?_
        obtain ⟨q18, h⟩ := gd_some h
        refine s_iald dX10_alikeAt_57 (r_10_40 (w := 0) h_a0).2 q18 ?_
        refine e_aload_n 0 dX10_alikeAt_58 rfl rfl ?_
        refine s_getr dX10_alikeAt_59 fl_RX10_83 h_a0 (r_10_40 h_a0).1 ?_
        refine e_iload 5 dX10_alikeAt_62  rfl ?_
        refine e_iload_n 1 dX10_alikeAt_64 rfl rfl ?_
        obtain ⟨r21, σ20, q19, h⟩ := bd_some h
        refine s_callSi [.int v.2, .int i1] dX10_alikeAt_65 ml_RX10_444 ⟨_, rfl, by decide⟩ rfl (v_X10_spot (d + 0)  q19) (Nat.le_of_ble_eq_true rfl) ?_
        obtain ⟨q22, h⟩ := gd_some h
        refine s_iald dX10_alikeAt_68 (r_10_40 (w := 0) h_a0).2 q22 ?_
        refine e_icmp_ne 76 dX10_alikeAt_69 (by decide) (fun c23 => ?_) (fun c23 => ?_)
        · rw [if_neg c23] at h
          refine s_pick (L' := [(0, .ref a0), (1, .int i1), (2, .int i2), (3, .int i3), (5, .int v.2)]) [0, 1, 2, 3, 5] rfl ?_
          exact v_X10_alikeAt_76 d H4 H18 h_a0 h
        · rw [if_pos c23] at h
          refine e_iconst (v := (1 : Int32)) dX10_alikeAt_72 (by decide) ?_
          refine e_goto 77 dX10_alikeAt_73 (by decide) ?_
          refine e_iadd dX10_alikeAt_77 ?_
          obtain ⟨x24, q25, h⟩ := lt_some h
          refine s_nmi q25 ?_
          refine e_istore (L' := [(0, .ref a0), (1, .int i1), (2, .int i2), (3, .int i3), (4, .int x24), (5, .int v.2)]) dX10_alikeAt_78  (by decide) rfl ?_
          obtain ⟨x26, q27, h⟩ := lt_some h
          refine e_iinc (v := x26) (L' := [(0, .ref a0), (1, .int i1), (2, .int i2), (3, .int i3), (4, .int x24), (5, .int x26)]) 5 dX10_alikeAt_80 rfl q27.symm (by decide) rfl ?_
          refine e_goto 18 dX10_alikeAt_83 (by decide) ?_
          refine s_pick (L' := [(0, .ref a0), (1, .int i1), (2, .int i2), (3, .int i3), (4, .int x24), (5, .int x26)]) [0, 1, 2, 3, 4, 5] rfl ?_
          exact H18 (x24, x26) σ20 h
def f_X10_alikeAt_4 (a0 : Nat) (i1 : Int32) (i2 : Int32) (i3 : Int32) (σ : mm_S) : Option (Int32 × mm_S) :=
  lp lpN (fun (k4 : (Int32 × Int32) → mm_S → Option (Int32 × mm_S)) (v : Int32 × Int32) (σ : mm_S) =>
    if (σ.1 a0 2) < v.2 then
      some (v.1, σ)
    else
      f_X10_alikeAt_18 k4 a0 i1 v.1 v.2 (0 : Int32) (0 : Int32) σ) (i2, i3) σ
theorem v_X10_alikeAt_4 {g : mm_G} (d : Nat) {a0 : Nat} {i1 : Int32} {i2 : Int32} {i3 : Int32} {σ : mm_S} {res : Int32 × mm_S}  (h_a0 : (mm_K a0).1 = 10) (h : f_X10_alikeAt_4 a0 i1 i2 i3 σ = some res) : SV g (d + 1) yy_X10_alikeAt 4 [(0, .ref a0), (1, .int i1), (2, .int i2), (3, .int i3)] [] σ (.int res.1) res.2 := by
  unfold f_X10_alikeAt_4 at h
  refine lp_ind (P := fun v σ => SV g (d + 1) yy_X10_alikeAt 4 [(0, .ref a0), (1, .int i1), (2, .int v.1), (3, .int v.2)] [] σ (.int res.1) res.2) (fun k4 H4 v σ h => ?_) _ (i2, i3) σ h
  refine e_iload_n 3 dX10_alikeAt_4 rfl rfl ?_
  refine e_aload_n 0 dX10_alikeAt_5 rfl rfl ?_
  refine s_geti dX10_alikeAt_6 fl_RX10_275 h_a0 ?_
  refine e_icmp_gt 105 dX10_alikeAt_9 (by decide) (fun c28 => ?_) (fun c28 => ?_)
  · rw [if_pos c28] at h
    refine e_iload_n 2 dX10_alikeAt_105 rfl rfl ?_
    obtain rfl := Option.some.inj h
    exact s_ret rfl ⟨_, rfl, rfl⟩ dX10_alikeAt_106
  · rw [if_neg c28] at h
    refine e_iconst (v := (0 : Int32)) dX10_alikeAt_12 (by decide) ?_
    refine e_istore (L' := [(0, .ref a0), (1, .int i1), (2, .int v.1), (3, .int v.2), (4, .int (0 : Int32))]) dX10_alikeAt_13  (by decide) rfl ?_
    refine e_iconst (v := (0 : Int32)) dX10_alikeAt_15 (by decide) ?_
    refine e_istore (L' := [(0, .ref a0), (1, .int i1), (2, .int v.1), (3, .int v.2), (4, .int (0 : Int32)), (5, .int (0 : Int32))]) dX10_alikeAt_16  (by decide) rfl ?_
    refine s_pick (L' := [(0, .ref a0), (1, .int i1), (2, .int v.1), (3, .int v.2), (4, .int (0 : Int32)), (5, .int (0 : Int32))]) [0, 1, 2, 3, 4, 5] rfl ?_
    exact v_X10_alikeAt_18 d H4 h_a0 h
def f_X10_alikeAt (a0 : Nat) (i1 : Int32) (σ : mm_S) : Option (Int32 × mm_S) :=
    f_X10_alikeAt_4 a0 i1 (0 : Int32) (0 : Int32) σ
theorem v_X10_alikeAt {g : mm_G} (d : Nat) {a0 : Nat} {i1 : Int32} {σ : mm_S} {res : Int32 × mm_S} (h_a0 : (mm_K a0).1 = 10) (h : f_X10_alikeAt a0 i1 σ = some res) : SM g (d + 1) yy_X10_alikeAt [.ref a0, .int i1] σ (.int res.1) res.2 := by
  refine s_of (by decide) (Nat.le_of_ble_eq_true rfl) (L := [(0, .ref a0), (1, .int i1)]) rfl ?_
  unfold f_X10_alikeAt at h
  refine e_iconst (v := (0 : Int32)) dX10_alikeAt_0 (by decide) ?_
  refine e_istore_n (L' := [(0, .ref a0), (1, .int i1), (2, .int (0 : Int32))]) dX10_alikeAt_1 rfl (by decide) rfl ?_
  refine e_iconst (v := (0 : Int32)) dX10_alikeAt_2 (by decide) ?_
  refine e_istore_n (L' := [(0, .ref a0), (1, .int i1), (2, .int (0 : Int32)), (3, .int (0 : Int32))]) dX10_alikeAt_3 rfl (by decide) rfl ?_
  refine s_pick (L' := [(0, .ref a0), (1, .int i1), (2, .int (0 : Int32)), (3, .int (0 : Int32))]) [0, 1, 2, 3] rfl ?_
  exact v_X10_alikeAt_4 d h_a0 h
abbrev yy_X10_look : mm_Y := (yX10_look, cX10_look, 4, (some .int))
theorem dX10_look_0 : decode cX10_look 0 = .ok (.aload_n 0, 1) := by decide +kernel
theorem dX10_look_1 : decode cX10_look 1 = .ok (.invokevirtual 379, 3) := by decide +kernel
theorem dX10_look_4 : decode cX10_look 4 = .ok (.ifCond .eq 13, 3) := by decide +kernel
theorem dX10_look_7 : decode cX10_look 7 = .ok (.iload_n 1, 1) := by decide +kernel
theorem dX10_look_8 : decode cX10_look 8 = .ok (.i2l, 1) := by decide +kernel
theorem dX10_look_9 : decode cX10_look 9 = .ok (.lconst 0, 1) := by decide +kernel
theorem dX10_look_10 : decode cX10_look 10 = .ok (.lconst 1, 1) := by decide +kernel
theorem dX10_look_11 : decode cX10_look 11 = .ok (.invokestatic 136, 3) := by decide +kernel
theorem dX10_look_14 : decode cX10_look 14 = .ok (.ifCond .ne 5, 3) := by decide +kernel
theorem dX10_look_17 : decode cX10_look 17 = .ok (.iconst (-1), 1) := by decide +kernel
theorem dX10_look_18 : decode cX10_look 18 = .ok (.ireturn, 1) := by decide +kernel
theorem dX10_look_19 : decode cX10_look 19 = .ok (.aload_n 0, 1) := by decide +kernel
theorem dX10_look_20 : decode cX10_look 20 = .ok (.invokevirtual 451, 3) := by decide +kernel
theorem dX10_look_23 : decode cX10_look 23 = .ok (.iconst 0, 1) := by decide +kernel
theorem dX10_look_24 : decode cX10_look 24 = .ok (.istore_n 2, 1) := by decide +kernel
theorem dX10_look_25 : decode cX10_look 25 = .ok (.iconst 1, 1) := by decide +kernel
theorem dX10_look_26 : decode cX10_look 26 = .ok (.istore_n 3, 1) := by decide +kernel
theorem dX10_look_27 : decode cX10_look 27 = .ok (.iload_n 3, 1) := by decide +kernel
theorem dX10_look_28 : decode cX10_look 28 = .ok (.bipush 60, 2) := by decide +kernel
theorem dX10_look_30 : decode cX10_look 30 = .ok (.if_icmp .gt 24, 3) := by decide +kernel
theorem dX10_look_33 : decode cX10_look 33 = .ok (.aload_n 0, 1) := by decide +kernel
theorem dX10_look_34 : decode cX10_look 34 = .ok (.iload_n 3, 1) := by decide +kernel
theorem dX10_look_35 : decode cX10_look 35 = .ok (.invokevirtual 454, 3) := by decide +kernel
theorem dX10_look_38 : decode cX10_look 38 = .ok (.aload_n 0, 1) := by decide +kernel
theorem dX10_look_39 : decode cX10_look 39 = .ok (.iload_n 2, 1) := by decide +kernel
theorem dX10_look_40 : decode cX10_look 40 = .ok (.invokevirtual 454, 3) := by decide +kernel
theorem dX10_look_43 : decode cX10_look 43 = .ok (.if_icmp .ge 5, 3) := by decide +kernel
theorem dX10_look_46 : decode cX10_look 46 = .ok (.iload_n 3, 1) := by decide +kernel
theorem dX10_look_47 : decode cX10_look 47 = .ok (.istore_n 2, 1) := by decide +kernel
theorem dX10_look_48 : decode cX10_look 48 = .ok (.iinc 3 1, 3) := by decide +kernel
theorem dX10_look_51 : decode cX10_look 51 = .ok (.goto (-24), 3) := by decide +kernel
theorem dX10_look_54 : decode cX10_look 54 = .ok (.aload_n 0, 1) := by decide +kernel
theorem dX10_look_55 : decode cX10_look 55 = .ok (.iload_n 2, 1) := by decide +kernel
theorem dX10_look_56 : decode cX10_look 56 = .ok (.invokevirtual 454, 3) := by decide +kernel
theorem dX10_look_59 : decode cX10_look 59 = .ok (.ifCond .ne 8, 3) := by decide +kernel
theorem dX10_look_62 : decode cX10_look 62 = .ok (.bipush (-2), 2) := by decide +kernel
theorem dX10_look_64 : decode cX10_look 64 = .ok (.goto 16, 3) := by decide +kernel
theorem dX10_look_67 : decode cX10_look 67 = .ok (.iload_n 1, 1) := by decide +kernel
theorem dX10_look_68 : decode cX10_look 68 = .ok (.ifCond .ne 7, 3) := by decide +kernel
theorem dX10_look_71 : decode cX10_look 71 = .ok (.iload_n 2, 1) := by decide +kernel
theorem dX10_look_72 : decode cX10_look 72 = .ok (.goto 8, 3) := by decide +kernel
theorem dX10_look_75 : decode cX10_look 75 = .ok (.aload_n 0, 1) := by decide +kernel
theorem dX10_look_76 : decode cX10_look 76 = .ok (.iload_n 2, 1) := by decide +kernel
theorem dX10_look_77 : decode cX10_look 77 = .ok (.invokevirtual 454, 3) := by decide +kernel
theorem dX10_look_80 : decode cX10_look 80 = .ok (.ireturn, 1) := by decide +kernel
def f_X10_look_27 (a0 : Nat) (i1 : Int32) (i2 : Int32) (i3 : Int32) (σ : mm_S) : Option (Int32 × mm_S) :=
  lp lpN (fun (k27 : (Int32 × Int32) → mm_S → Option (Int32 × mm_S)) (v : Int32 × Int32) (σ : mm_S) =>
    if (60 : Int32) < v.2 then
      bd (f_X10_alikeAt a0 v.1 σ) fun r4 σ3 =>
      if r4 = 0 then
        some ((-2 : Int32), σ3)
      else
        if i1 = 0 then
          some (v.1, σ3)
        else
          bd (f_X10_alikeAt a0 v.1 σ3) fun r9 σ8 =>
          some (r9, σ8)
    else
      bd (f_X10_alikeAt a0 v.2 σ) fun r12 σ11 =>
      bd (f_X10_alikeAt a0 v.1 σ11) fun r15 σ14 =>
      if r15 ≤ r12 then
        lt (v.2 + Int32.ofInt (1)) fun x17 =>
        k27 (v.1, x17) σ14
      else
        lt (v.2 + Int32.ofInt (1)) fun x19 =>
        k27 (v.2, x19) σ14) (i2, i3) σ
theorem v_X10_look_27 {g : mm_G} (d : Nat) {a0 : Nat} {i1 : Int32} {i2 : Int32} {i3 : Int32} {σ : mm_S} {res : Int32 × mm_S}  (h_a0 : (mm_K a0).1 = 10) (h : f_X10_look_27 a0 i1 i2 i3 σ = some res) : SV g (d + 8) yy_X10_look 27 [(0, .ref a0), (1, .int i1), (2, .int i2), (3, .int i3)] [] σ (.int res.1) res.2 := by
  unfold f_X10_look_27 at h
  refine lp_ind (P := fun v σ => SV g (d + 8) yy_X10_look 27 [(0, .ref a0), (1, .int i1), (2, .int v.1), (3, .int v.2)] [] σ (.int res.1) res.2) (fun k27 H27 v σ h => ?_) _ (i2, i3) σ h
  refine e_iload_n 3 dX10_look_27 rfl rfl ?_
  refine e_bipush (v := (60 : Int32)) dX10_look_28 (by decide) ?_
  refine e_icmp_gt 54 dX10_look_30 (by decide) (fun c1 => ?_) (fun c1 => ?_)
  · rw [if_pos c1] at h
    refine e_aload_n 0 dX10_look_54 rfl rfl ?_
    refine e_iload_n 2 dX10_look_55 rfl rfl ?_
    obtain ⟨r4, σ3, q2, h⟩ := bd_some h
    refine s_callVi [.int v.1] dX10_look_56 ml_RX10_454 h_a0 ⟨_, rfl, by decide⟩ rfl (v_X10_alikeAt (d + 6) h_a0 q2) (Nat.le_of_ble_eq_true rfl) ?_
    refine e_if_ne 67 dX10_look_59 (by decide) (fun c5 => ?_) (fun c5 => ?_)
    · rw [if_neg c5] at h
      refine e_iload_n 1 dX10_look_67 rfl rfl ?_
      refine e_if_ne 75 dX10_look_68 (by decide) (fun c6 => ?_) (fun c6 => ?_)
      · rw [if_neg c6] at h
        refine e_aload_n 0 dX10_look_75 rfl rfl ?_
        refine e_iload_n 2 dX10_look_76 rfl rfl ?_
        obtain ⟨r9, σ8, q7, h⟩ := bd_some h
        refine s_callVi [.int v.1] dX10_look_77 ml_RX10_454 h_a0 ⟨_, rfl, by decide⟩ rfl (v_X10_alikeAt (d + 6) h_a0 q7) (Nat.le_of_ble_eq_true rfl) ?_
        obtain rfl := Option.some.inj h
        exact s_ret rfl ⟨_, rfl, rfl⟩ dX10_look_80
      · rw [if_pos c6] at h
        refine e_iload_n 2 dX10_look_71 rfl rfl ?_
        refine e_goto 80 dX10_look_72 (by decide) ?_
        obtain rfl := Option.some.inj h
        exact s_ret rfl ⟨_, rfl, rfl⟩ dX10_look_80
    · rw [if_pos c5] at h
      refine e_bipush (v := (-2 : Int32)) dX10_look_62 (by decide) ?_
      refine e_goto 80 dX10_look_64 (by decide) ?_
      obtain rfl := Option.some.inj h
      exact s_ret rfl ⟨_, rfl, rfl⟩ dX10_look_80
  · rw [if_neg c1] at h
    refine e_aload_n 0 dX10_look_33 rfl rfl ?_
    refine e_iload_n 3 dX10_look_34 rfl rfl ?_
    obtain ⟨r12, σ11, q10, h⟩ := bd_some h
    refine s_callVi [.int v.2] dX10_look_35 ml_RX10_454 h_a0 ⟨_, rfl, by decide⟩ rfl (v_X10_alikeAt (d + 6) h_a0 q10) (Nat.le_of_ble_eq_true rfl) ?_
    refine e_aload_n 0 dX10_look_38 rfl rfl ?_
    refine e_iload_n 2 dX10_look_39 rfl rfl ?_
    obtain ⟨r15, σ14, q13, h⟩ := bd_some h
    refine s_callVi [.int v.1] dX10_look_40 ml_RX10_454 h_a0 ⟨_, rfl, by decide⟩ rfl (v_X10_alikeAt (d + 6) h_a0 q13) (Nat.le_of_ble_eq_true rfl) ?_
    refine e_icmp_ge 48 dX10_look_43 (by decide) (fun c16 => ?_) (fun c16 => ?_)
    · rw [if_pos c16] at h
      obtain ⟨x17, q18, h⟩ := lt_some h
      refine e_iinc (v := x17) (L' := [(0, .ref a0), (1, .int i1), (2, .int v.1), (3, .int x17)]) 3 dX10_look_48 rfl q18.symm (by decide) rfl ?_
      refine e_goto 27 dX10_look_51 (by decide) ?_
      refine s_pick (L' := [(0, .ref a0), (1, .int i1), (2, .int v.1), (3, .int x17)]) [0, 1, 2, 3] rfl ?_
      exact H27 (v.1, x17) σ14 h
    · rw [if_neg c16] at h
      refine e_iload_n 3 dX10_look_46 rfl rfl ?_
      refine e_istore_n (L' := [(0, .ref a0), (1, .int i1), (2, .int v.2), (3, .int v.2)]) dX10_look_47 rfl (by decide) rfl ?_
      obtain ⟨x19, q20, h⟩ := lt_some h
      refine e_iinc (v := x19) (L' := [(0, .ref a0), (1, .int i1), (2, .int v.2), (3, .int x19)]) 3 dX10_look_48 rfl q20.symm (by decide) rfl ?_
      refine e_goto 27 dX10_look_51 (by decide) ?_
      refine s_pick (L' := [(0, .ref a0), (1, .int i1), (2, .int v.2), (3, .int x19)]) [0, 1, 2, 3] rfl ?_
      exact H27 (v.2, x19) σ14 h
def f_X10_look (a0 : Nat) (i1 : Int32) (σ : mm_S) : Option (Int32 × mm_S) :=
    bd (f_X10_isHouse a0 σ) fun r33 σ32 =>
    if r33 = 0 then
      some ((-1 : Int32), σ32)
    else
      bd (f_X10_in (i1 : Int32).toInt64 (0 : Int64) (1 : Int64) σ32) fun r37 σ36 =>
      if r37 = 0 then
        some ((-1 : Int32), σ36)
      else
        bv (f_X10_fillsFits a0 σ36) fun σ40 =>
        f_X10_look_27 a0 i1 (0 : Int32) (1 : Int32) σ40
theorem v_X10_look {g : mm_G} (d : Nat) {a0 : Nat} {i1 : Int32} {σ : mm_S} {res : Int32 × mm_S} (h_a0 : (mm_K a0).1 = 10) (h : f_X10_look a0 i1 σ = some res) : SM g (d + 8) yy_X10_look [.ref a0, .int i1] σ (.int res.1) res.2 := by
  refine s_of (by decide) (Nat.le_of_ble_eq_true rfl) (L := [(0, .ref a0), (1, .int i1)]) rfl ?_
  unfold f_X10_look at h
  refine e_aload_n 0 dX10_look_0 rfl rfl ?_
  obtain ⟨r33, σ32, q31, h⟩ := bd_some h
  refine s_callVi [] dX10_look_1 ml_RX10_379 h_a0 ⟨_, rfl, by decide⟩ rfl (v_X10_isHouse (d + 7) h_a0 q31) (Nat.le_of_ble_eq_true rfl) ?_
  refine e_if_eq 17 dX10_look_4 (by decide) (fun c34 => ?_) (fun c34 => ?_)
  · rw [if_pos c34] at h
    refine e_iconst (v := (-1 : Int32)) dX10_look_17 (by decide) ?_
    obtain rfl := Option.some.inj h
    exact s_ret rfl ⟨_, rfl, rfl⟩ dX10_look_18
  · rw [if_neg c34] at h
    refine e_iload_n 1 dX10_look_7 rfl rfl ?_
    refine e_i2l dX10_look_8 ?_
    refine e_lconst (v := (0 : Int64)) dX10_look_9 (by decide) ?_
    refine e_lconst (v := (1 : Int64)) dX10_look_10 (by decide) ?_
    obtain ⟨r37, σ36, q35, h⟩ := bd_some h
    refine s_callSi [.long (i1 : Int32).toInt64, .long (0 : Int64), .long (1 : Int64)] dX10_look_11 ml_RX10_136 ⟨_, rfl, by decide⟩ rfl (v_X10_in (d + 7)  q35) (Nat.le_of_ble_eq_true rfl) ?_
    refine e_if_ne 19 dX10_look_14 (by decide) (fun c38 => ?_) (fun c38 => ?_)
    · rw [if_neg c38] at h
      refine e_aload_n 0 dX10_look_19 rfl rfl ?_
      obtain ⟨σ40, q39, h⟩ := bv_some h
      refine s_callVv [] dX10_look_20 ml_RX10_451 h_a0 rfl rfl (v_X10_fillsFits (d + 0) h_a0 q39) (Nat.le_of_ble_eq_true rfl) ?_
      refine e_iconst (v := (0 : Int32)) dX10_look_23 (by decide) ?_
      refine e_istore_n (L' := [(0, .ref a0), (1, .int i1), (2, .int (0 : Int32))]) dX10_look_24 rfl (by decide) rfl ?_
      refine e_iconst (v := (1 : Int32)) dX10_look_25 (by decide) ?_
      refine e_istore_n (L' := [(0, .ref a0), (1, .int i1), (2, .int (0 : Int32)), (3, .int (1 : Int32))]) dX10_look_26 rfl (by decide) rfl ?_
      refine s_pick (L' := [(0, .ref a0), (1, .int i1), (2, .int (0 : Int32)), (3, .int (1 : Int32))]) [0, 1, 2, 3] rfl ?_
      exact v_X10_look_27 d h_a0 h
    · rw [if_pos c38] at h
      refine e_iconst (v := (-1 : Int32)) dX10_look_17 (by decide) ?_
      obtain rfl := Option.some.inj h
      exact s_ret rfl ⟨_, rfl, rfl⟩ dX10_look_18
abbrev yy_X10_seed : mm_Y := (yX10_seed, cX10_seed, 3, (some .int))
theorem dX10_seed_0 : decode cX10_seed 0 = .ok (.iload_n 1, 1) := by decide +kernel
theorem dX10_seed_1 : decode cX10_seed 1 = .ok (.ifCond .ge 5, 3) := by decide +kernel
theorem dX10_seed_4 : decode cX10_seed 4 = .ok (.iconst (-1), 1) := by decide +kernel
theorem dX10_seed_5 : decode cX10_seed 5 = .ok (.ireturn, 1) := by decide +kernel
theorem dX10_seed_6 : decode cX10_seed 6 = .ok (.aload_n 0, 1) := by decide +kernel
theorem dX10_seed_7 : decode cX10_seed 7 = .ok (.getfield 457, 3) := by decide +kernel
theorem dX10_seed_10 : decode cX10_seed 10 = .ok (.istore_n 2, 1) := by decide +kernel
theorem dX10_seed_11 : decode cX10_seed 11 = .ok (.aload_n 0, 1) := by decide +kernel
theorem dX10_seed_12 : decode cX10_seed 12 = .ok (.iload_n 1, 1) := by decide +kernel
theorem dX10_seed_13 : decode cX10_seed 13 = .ok (.putfield 457, 3) := by decide +kernel
theorem dX10_seed_16 : decode cX10_seed 16 = .ok (.iload_n 2, 1) := by decide +kernel
theorem dX10_seed_17 : decode cX10_seed 17 = .ok (.ireturn, 1) := by decide +kernel
def f_X10_seed (a0 : Nat) (i1 : Int32) (σ : mm_S) : Option (Int32 × mm_S) :=
    if 0 ≤ i1 then
      lt ((σ.1 a0 22)) fun x7 =>
      lt (su_i σ a0 22 i1) fun σ9 =>
      some (x7, σ9)
    else
      some ((-1 : Int32), σ)
theorem v_X10_seed {g : mm_G} (d : Nat) {a0 : Nat} {i1 : Int32} {σ : mm_S} {res : Int32 × mm_S} (h_a0 : (mm_K a0).1 = 10) (h : f_X10_seed a0 i1 σ = some res) : SM g (d + 0) yy_X10_seed [.ref a0, .int i1] σ (.int res.1) res.2 := by
  refine s_of (by decide) (Nat.le_of_ble_eq_true rfl) (L := [(0, .ref a0), (1, .int i1)]) rfl ?_
  unfold f_X10_seed at h
  refine e_iload_n 1 dX10_seed_0 rfl rfl ?_
  refine e_if_ge 6 dX10_seed_1 (by decide) (fun c6 => ?_) (fun c6 => ?_)
  · rw [if_pos c6] at h
    refine e_aload_n 0 dX10_seed_6 rfl rfl ?_
    refine s_geti dX10_seed_7 fl_RX10_457 h_a0 ?_
    obtain ⟨x7, q8, h⟩ := lt_some h
    refine s_nmi q8 ?_
    refine e_istore_n (L' := [(0, .ref a0), (1, .int i1), (2, .int x7)]) dX10_seed_10 rfl (by decide) rfl ?_
    refine e_aload_n 0 dX10_seed_11 rfl rfl ?_
    refine e_iload_n 1 dX10_seed_12 rfl rfl ?_
    refine s_puti dX10_seed_13 fl_RX10_457 h_a0 rfl rfl rfl ?_
    obtain ⟨σ9, q10, h⟩ := lt_some h
    refine s_nms q10 ?_
    refine e_iload_n 2 dX10_seed_16 rfl rfl ?_
    obtain rfl := Option.some.inj h
    exact s_ret rfl ⟨_, rfl, rfl⟩ dX10_seed_17
  · rw [if_neg c6] at h
    refine e_iconst (v := (-1 : Int32)) dX10_seed_4 (by decide) ?_
    obtain rfl := Option.some.inj h
    exact s_ret rfl ⟨_, rfl, rfl⟩ dX10_seed_5
abbrev yy_X10_draw : mm_Y := (yX10_draw, cX10_draw, 2, (some .int))
theorem dX10_draw_0 : decode cX10_draw 0 = .ok (.aload_n 0, 1) := by decide +kernel
theorem dX10_draw_1 : decode cX10_draw 1 = .ok (.aload_n 0, 1) := by decide +kernel
theorem dX10_draw_2 : decode cX10_draw 2 = .ok (.getfield 460, 3) := by decide +kernel
theorem dX10_draw_5 : decode cX10_draw 5 = .ok (.ldc2_w 464, 3) := by decide +kernel
theorem dX10_draw_8 : decode cX10_draw 8 = .ok (.lmul, 1) := by decide +kernel
theorem dX10_draw_9 : decode cX10_draw 9 = .ok (.ldc2_w 466, 3) := by decide +kernel
theorem dX10_draw_12 : decode cX10_draw 12 = .ok (.ladd, 1) := by decide +kernel
theorem dX10_draw_13 : decode cX10_draw 13 = .ok (.ldc2_w 468, 3) := by decide +kernel
theorem dX10_draw_16 : decode cX10_draw 16 = .ok (.lrem, 1) := by decide +kernel
theorem dX10_draw_17 : decode cX10_draw 17 = .ok (.putfield 460, 3) := by decide +kernel
theorem dX10_draw_20 : decode cX10_draw 20 = .ok (.aload_n 0, 1) := by decide +kernel
theorem dX10_draw_21 : decode cX10_draw 21 = .ok (.getfield 460, 3) := by decide +kernel
theorem dX10_draw_24 : decode cX10_draw 24 = .ok (.ldc2_w 470, 3) := by decide +kernel
theorem dX10_draw_27 : decode cX10_draw 27 = .ok (.ldiv, 1) := by decide +kernel
theorem dX10_draw_28 : decode cX10_draw 28 = .ok (.iload_n 1, 1) := by decide +kernel
theorem dX10_draw_29 : decode cX10_draw 29 = .ok (.i2l, 1) := by decide +kernel
theorem dX10_draw_30 : decode cX10_draw 30 = .ok (.lrem, 1) := by decide +kernel
theorem dX10_draw_31 : decode cX10_draw 31 = .ok (.l2i, 1) := by decide +kernel
theorem dX10_draw_32 : decode cX10_draw 32 = .ok (.ireturn, 1) := by decide +kernel
def f_X10_draw (a0 : Nat) (i1 : Int32) (σ : mm_S) : Option (Int32 × mm_S) :=
    lt (((((σ.2.1 a0 41) * (1103515245 : Int64)) + (12345 : Int64)) - (((σ.2.1 a0 41) * (1103515245 : Int64)) + (12345 : Int64)) / (2147483648 : Int64) * (2147483648 : Int64))) fun x6 =>
    lt (su_j σ a0 41 x6) fun σ8 =>
    gl (i1 : Int32).toInt64 <|
    some (((((σ8.2.1 a0 41) / (65536 : Int64)) - ((σ8.2.1 a0 41) / (65536 : Int64)) / (i1 : Int32).toInt64 * (i1 : Int32).toInt64) : Int64).toInt32, σ8)
theorem v_X10_draw {g : mm_G} (d : Nat) {a0 : Nat} {i1 : Int32} {σ : mm_S} {res : Int32 × mm_S} (h_a0 : (mm_K a0).1 = 10) (h : f_X10_draw a0 i1 σ = some res) : SM g (d + 0) yy_X10_draw [.ref a0, .int i1] σ (.int res.1) res.2 := by
  refine s_of (by decide) (Nat.le_of_ble_eq_true rfl) (L := [(0, .ref a0), (1, .int i1)]) rfl ?_
  unfold f_X10_draw at h
  refine e_aload_n 0 dX10_draw_0 rfl rfl ?_
  refine e_aload_n 0 dX10_draw_1 rfl rfl ?_
  refine s_getj dX10_draw_2 fl_RX10_460 h_a0 ?_
  refine e_ldc2 dX10_draw_5 co_RX10_464 ?_
  refine e_lmul dX10_draw_8 ?_
  refine e_ldc2 dX10_draw_9 co_RX10_466 ?_
  refine e_ladd dX10_draw_12 ?_
  refine e_ldc2 dX10_draw_13 co_RX10_468 ?_
  refine e_lrem dX10_draw_16 (by decide) ?_
  obtain ⟨x6, q7, h⟩ := lt_some h
  refine s_nml q7 ?_
  refine s_putj dX10_draw_17 fl_RX10_460 h_a0 rfl rfl ?_
  obtain ⟨σ8, q9, h⟩ := lt_some h
  refine s_nms q9 ?_
  refine e_aload_n 0 dX10_draw_20 rfl rfl ?_
  refine s_getj dX10_draw_21 fl_RX10_460 h_a0 ?_
  refine e_ldc2 dX10_draw_24 co_RX10_470 ?_
  refine e_ldiv dX10_draw_27 (by decide) ?_
  refine e_iload_n 1 dX10_draw_28 rfl rfl ?_
  refine e_i2l dX10_draw_29 ?_
  obtain ⟨q10, h⟩ := gl_some h
  refine e_lrem dX10_draw_30 q10 ?_
  refine e_l2i dX10_draw_31 ?_
  obtain rfl := Option.some.inj h
  exact s_ret rfl ⟨_, rfl, rfl⟩ dX10_draw_32
