abbrev yy_X10_isNobodyWeary : mm_Y := (yX10_isNobodyWeary, cX10_isNobodyWeary, 2, (some .boolean))
theorem dX10_isNobodyWeary_0 : decode cX10_isNobodyWeary 0 = .ok (.iconst 0, 1) := by decide +kernel
theorem dX10_isNobodyWeary_1 : decode cX10_isNobodyWeary 1 = .ok (.istore_n 1, 1) := by decide +kernel
theorem dX10_isNobodyWeary_2 : decode cX10_isNobodyWeary 2 = .ok (.iload_n 1, 1) := by decide +kernel
theorem dX10_isNobodyWeary_3 : decode cX10_isNobodyWeary 3 = .ok (.aload_n 0, 1) := by decide +kernel
theorem dX10_isNobodyWeary_4 : decode cX10_isNobodyWeary 4 = .ok (.getfield 39, 3) := by decide +kernel
theorem dX10_isNobodyWeary_7 : decode cX10_isNobodyWeary 7 = .ok (.iconst 3, 1) := by decide +kernel
theorem dX10_isNobodyWeary_8 : decode cX10_isNobodyWeary 8 = .ok (.iaload, 1) := by decide +kernel
theorem dX10_isNobodyWeary_9 : decode cX10_isNobodyWeary 9 = .ok (.if_icmp .ge 21, 3) := by decide +kernel
theorem dX10_isNobodyWeary_12 : decode cX10_isNobodyWeary 12 = .ok (.aload_n 0, 1) := by decide +kernel
theorem dX10_isNobodyWeary_13 : decode cX10_isNobodyWeary 13 = .ok (.iload_n 1, 1) := by decide +kernel
theorem dX10_isNobodyWeary_14 : decode cX10_isNobodyWeary 14 = .ok (.invokevirtual 308, 3) := by decide +kernel
theorem dX10_isNobodyWeary_17 : decode cX10_isNobodyWeary 17 = .ok (.bipush 40, 2) := by decide +kernel
theorem dX10_isNobodyWeary_19 : decode cX10_isNobodyWeary 19 = .ok (.if_icmp .le 5, 3) := by decide +kernel
theorem dX10_isNobodyWeary_22 : decode cX10_isNobodyWeary 22 = .ok (.iconst 0, 1) := by decide +kernel
theorem dX10_isNobodyWeary_23 : decode cX10_isNobodyWeary 23 = .ok (.ireturn, 1) := by decide +kernel
theorem dX10_isNobodyWeary_24 : decode cX10_isNobodyWeary 24 = .ok (.iinc 1 1, 3) := by decide +kernel
theorem dX10_isNobodyWeary_27 : decode cX10_isNobodyWeary 27 = .ok (.goto (-25), 3) := by decide +kernel
theorem dX10_isNobodyWeary_30 : decode cX10_isNobodyWeary 30 = .ok (.iconst 1, 1) := by decide +kernel
theorem dX10_isNobodyWeary_31 : decode cX10_isNobodyWeary 31 = .ok (.ireturn, 1) := by decide +kernel
def f_X10_isNobodyWeary_2 (a0 : Nat) (i1 : Int32) (σ : mm_S) : Option (Int32 × mm_S) :=
  lp lpN (fun (k2 : (Int32) → mm_S → Option (Int32 × mm_S)) (v : Int32) (σ : mm_S) =>
    gd (3 : Int32) 121 <|
    if (σ.1 224 (3 : Int32).toNatClampNeg) ≤ v then
      some ((1 : Int32), σ)
    else
      bd (f_X10_tiredOf a0 v σ) fun r5 σ4 =>
      if r5 ≤ (40 : Int32) then
        lt (v + Int32.ofInt (1)) fun x7 =>
        k2 x7 σ4
      else
        some ((0 : Int32), σ4)) i1 σ
theorem v_X10_isNobodyWeary_2 {g : mm_G} (d : Nat) {a0 : Nat} {i1 : Int32} {σ : mm_S} {res : Int32 × mm_S}  (h_a0 : (mm_K a0).1 = 10) (h : f_X10_isNobodyWeary_2 a0 i1 σ = some res) : SV g (d + 1) yy_X10_isNobodyWeary 2 [(0, .ref a0), (1, .int i1)] [] σ (.int res.1) res.2 := by
  unfold f_X10_isNobodyWeary_2 at h
  refine lp_ind (P := fun v σ => SV g (d + 1) yy_X10_isNobodyWeary 2 [(0, .ref a0), (1, .int v)] [] σ (.int res.1) res.2) (fun k2 H2 v σ h => ?_) _ i1 σ h
  refine e_iload_n 1 dX10_isNobodyWeary_2 rfl rfl ?_
  refine e_aload_n 0 dX10_isNobodyWeary_3 rfl rfl ?_
  refine s_getr dX10_isNobodyWeary_4 fl_RX10_39 h_a0 (r_10_20 h_a0).1 ?_
  refine e_iconst (v := (3 : Int32)) dX10_isNobodyWeary_7 (by decide) ?_
  obtain ⟨q1, h⟩ := gd_some h
  refine s_iald dX10_isNobodyWeary_8 (r_10_20 (w := 0) h_a0).2 q1 ?_
  refine e_icmp_ge 30 dX10_isNobodyWeary_9 (by decide) (fun c2 => ?_) (fun c2 => ?_)
  · rw [if_pos c2] at h
    refine e_iconst (v := (1 : Int32)) dX10_isNobodyWeary_30 (by decide) ?_
    obtain rfl := Option.some.inj h
    exact s_ret rfl ⟨_, rfl, nb1 (Or.inr rfl)⟩ dX10_isNobodyWeary_31
  · rw [if_neg c2] at h
    refine e_aload_n 0 dX10_isNobodyWeary_12 rfl rfl ?_
    refine e_iload_n 1 dX10_isNobodyWeary_13 rfl rfl ?_
    obtain ⟨r5, σ4, q3, h⟩ := bd_some h
    refine s_callVi [.int v] dX10_isNobodyWeary_14 ml_RX10_308 h_a0 ⟨_, rfl, by decide⟩ rfl (v_X10_tiredOf (d + 0) h_a0 q3) (Nat.le_of_ble_eq_true rfl) ?_
    refine e_bipush (v := (40 : Int32)) dX10_isNobodyWeary_17 (by decide) ?_
    refine e_icmp_le 24 dX10_isNobodyWeary_19 (by decide) (fun c6 => ?_) (fun c6 => ?_)
    · rw [if_pos c6] at h
      obtain ⟨x7, q8, h⟩ := lt_some h
      refine e_iinc (v := x7) (L' := [(0, .ref a0), (1, .int x7)]) 1 dX10_isNobodyWeary_24 rfl q8.symm (by decide) rfl ?_
      refine e_goto 2 dX10_isNobodyWeary_27 (by decide) ?_
      refine s_pick (L' := [(0, .ref a0), (1, .int x7)]) [0, 1] rfl ?_
      exact H2 x7 σ4 h
    · rw [if_neg c6] at h
      refine e_iconst (v := (0 : Int32)) dX10_isNobodyWeary_22 (by decide) ?_
      obtain rfl := Option.some.inj h
      exact s_ret rfl ⟨_, rfl, nb1 (Or.inl rfl)⟩ dX10_isNobodyWeary_23
def f_X10_isNobodyWeary (a0 : Nat) (σ : mm_S) : Option (Int32 × mm_S) :=
    f_X10_isNobodyWeary_2 a0 (0 : Int32) σ
theorem v_X10_isNobodyWeary {g : mm_G} (d : Nat) {a0 : Nat} {σ : mm_S} {res : Int32 × mm_S} (h_a0 : (mm_K a0).1 = 10) (h : f_X10_isNobodyWeary a0 σ = some res) : SM g (d + 1) yy_X10_isNobodyWeary [.ref a0] σ (.int res.1) res.2 := by
  refine s_of (by decide) (Nat.le_of_ble_eq_true rfl) (L := [(0, .ref a0)]) rfl ?_
  unfold f_X10_isNobodyWeary at h
  refine e_iconst (v := (0 : Int32)) dX10_isNobodyWeary_0 (by decide) ?_
  refine e_istore_n (L' := [(0, .ref a0), (1, .int (0 : Int32))]) dX10_isNobodyWeary_1 rfl (by decide) rfl ?_
  refine s_pick (L' := [(0, .ref a0), (1, .int (0 : Int32))]) [0, 1] rfl ?_
  exact v_X10_isNobodyWeary_2 d h_a0 h
abbrev yy_X10_torches : mm_Y := (yX10_torches, cX10_torches, 7, (some .int))
theorem dX10_torches_0 : decode cX10_torches 0 = .ok (.aload_n 0, 1) := by decide +kernel
theorem dX10_torches_1 : decode cX10_torches 1 = .ok (.invokevirtual 379, 3) := by decide +kernel
theorem dX10_torches_4 : decode cX10_torches 4 = .ok (.ifCond .eq 15, 3) := by decide +kernel
theorem dX10_torches_7 : decode cX10_torches 7 = .ok (.iload_n 1, 1) := by decide +kernel
theorem dX10_torches_8 : decode cX10_torches 8 = .ok (.i2l, 1) := by decide +kernel
theorem dX10_torches_9 : decode cX10_torches 9 = .ok (.lconst 1, 1) := by decide +kernel
theorem dX10_torches_10 : decode cX10_torches 10 = .ok (.ldc2_w 420, 3) := by decide +kernel
theorem dX10_torches_13 : decode cX10_torches 13 = .ok (.invokestatic 136, 3) := by decide +kernel
theorem dX10_torches_16 : decode cX10_torches 16 = .ok (.ifCond .ne 5, 3) := by decide +kernel
theorem dX10_torches_19 : decode cX10_torches 19 = .ok (.iconst (-1), 1) := by decide +kernel
theorem dX10_torches_20 : decode cX10_torches 20 = .ok (.ireturn, 1) := by decide +kernel
theorem dX10_torches_21 : decode cX10_torches 21 = .ok (.aload_n 0, 1) := by decide +kernel
theorem dX10_torches_22 : decode cX10_torches 22 = .ok (.getfield 39, 3) := by decide +kernel
theorem dX10_torches_25 : decode cX10_torches 25 = .ok (.iconst 2, 1) := by decide +kernel
theorem dX10_torches_26 : decode cX10_torches 26 = .ok (.iaload, 1) := by decide +kernel
theorem dX10_torches_27 : decode cX10_torches 27 = .ok (.istore_n 2, 1) := by decide +kernel
theorem dX10_torches_28 : decode cX10_torches 28 = .ok (.bipush (-2), 2) := by decide +kernel
theorem dX10_torches_30 : decode cX10_torches 30 = .ok (.istore_n 3, 1) := by decide +kernel
theorem dX10_torches_31 : decode cX10_torches 31 = .ok (.aload_n 0, 1) := by decide +kernel
theorem dX10_torches_32 : decode cX10_torches 32 = .ok (.invokevirtual 393, 3) := by decide +kernel
theorem dX10_torches_35 : decode cX10_torches 35 = .ok (.iconst 0, 1) := by decide +kernel
theorem dX10_torches_36 : decode cX10_torches 36 = .ok (.istore 4, 2) := by decide +kernel
theorem dX10_torches_38 : decode cX10_torches 38 = .ok (.iload 4, 2) := by decide +kernel
theorem dX10_torches_40 : decode cX10_torches 40 = .ok (.bipush 7, 2) := by decide +kernel
theorem dX10_torches_42 : decode cX10_torches 42 = .ok (.if_icmp .gt 75, 3) := by decide +kernel
theorem dX10_torches_45 : decode cX10_torches 45 = .ok (.iload_n 3, 1) := by decide +kernel
theorem dX10_torches_46 : decode cX10_torches 46 = .ok (.ifCond .ge 71, 3) := by decide +kernel
theorem dX10_torches_49 : decode cX10_torches 49 = .ok (.iconst 1, 1) := by decide +kernel
theorem dX10_torches_50 : decode cX10_torches 50 = .ok (.istore 5, 2) := by decide +kernel
theorem dX10_torches_52 : decode cX10_torches 52 = .ok (.aload_n 0, 1) := by decide +kernel
theorem dX10_torches_53 : decode cX10_torches 53 = .ok (.getfield 39, 3) := by decide +kernel
theorem dX10_torches_56 : decode cX10_torches 56 = .ok (.iconst 2, 1) := by decide +kernel
theorem dX10_torches_57 : decode cX10_torches 57 = .ok (.iload 4, 2) := by decide +kernel
theorem dX10_torches_59 : decode cX10_torches 59 = .ok (.iastore, 1) := by decide +kernel
theorem dX10_torches_60 : decode cX10_torches 60 = .ok (.iconst 0, 1) := by decide +kernel
theorem dX10_torches_61 : decode cX10_torches 61 = .ok (.istore 6, 2) := by decide +kernel
theorem dX10_torches_63 : decode cX10_torches 63 = .ok (.iload 6, 2) := by decide +kernel
theorem dX10_torches_65 : decode cX10_torches 65 = .ok (.iload_n 1, 1) := by decide +kernel
theorem dX10_torches_66 : decode cX10_torches 66 = .ok (.if_icmp .ge 33, 3) := by decide +kernel
theorem dX10_torches_69 : decode cX10_torches 69 = .ok (.aload_n 0, 1) := by decide +kernel
theorem dX10_torches_70 : decode cX10_torches 70 = .ok (.invokevirtual 376, 3) := by decide +kernel
theorem dX10_torches_73 : decode cX10_torches 73 = .ok (.pop, 1) := by decide +kernel
theorem dX10_torches_74 : decode cX10_torches 74 = .ok (.iload 5, 2) := by decide +kernel
theorem dX10_torches_76 : decode cX10_torches 76 = .ok (.ifCond .eq 14, 3) := by decide +kernel
theorem dX10_torches_79 : decode cX10_torches 79 = .ok (.aload_n 0, 1) := by decide +kernel
theorem dX10_torches_80 : decode cX10_torches 80 = .ok (.invokevirtual 422, 3) := by decide +kernel
theorem dX10_torches_83 : decode cX10_torches 83 = .ok (.ifCond .eq 7, 3) := by decide +kernel
theorem dX10_torches_86 : decode cX10_torches 86 = .ok (.iconst 1, 1) := by decide +kernel
theorem dX10_torches_87 : decode cX10_torches 87 = .ok (.goto 4, 3) := by decide +kernel
theorem dX10_torches_90 : decode cX10_torches 90 = .ok (.iconst 0, 1) := by decide +kernel
theorem dX10_torches_91 : decode cX10_torches 91 = .ok (.istore 5, 2) := by decide +kernel
theorem dX10_torches_93 : decode cX10_torches 93 = .ok (.iinc 6 1, 3) := by decide +kernel
theorem dX10_torches_96 : decode cX10_torches 96 = .ok (.goto (-33), 3) := by decide +kernel
theorem dX10_torches_99 : decode cX10_torches 99 = .ok (.iload 5, 2) := by decide +kernel
theorem dX10_torches_101 : decode cX10_torches 101 = .ok (.ifCond .eq 6, 3) := by decide +kernel
theorem dX10_torches_104 : decode cX10_torches 104 = .ok (.iload 4, 2) := by decide +kernel
theorem dX10_torches_106 : decode cX10_torches 106 = .ok (.istore_n 3, 1) := by decide +kernel
theorem dX10_torches_107 : decode cX10_torches 107 = .ok (.aload_n 0, 1) := by decide +kernel
theorem dX10_torches_108 : decode cX10_torches 108 = .ok (.invokevirtual 399, 3) := by decide +kernel
theorem dX10_torches_111 : decode cX10_torches 111 = .ok (.iinc 4 1, 3) := by decide +kernel
theorem dX10_torches_114 : decode cX10_torches 114 = .ok (.goto (-76), 3) := by decide +kernel
theorem dX10_torches_117 : decode cX10_torches 117 = .ok (.aload_n 0, 1) := by decide +kernel
theorem dX10_torches_118 : decode cX10_torches 118 = .ok (.getfield 39, 3) := by decide +kernel
theorem dX10_torches_121 : decode cX10_torches 121 = .ok (.iconst 2, 1) := by decide +kernel
theorem dX10_torches_122 : decode cX10_torches 122 = .ok (.iload_n 2, 1) := by decide +kernel
theorem dX10_torches_123 : decode cX10_torches 123 = .ok (.iastore, 1) := by decide +kernel
theorem dX10_torches_124 : decode cX10_torches 124 = .ok (.iload_n 3, 1) := by decide +kernel
theorem dX10_torches_125 : decode cX10_torches 125 = .ok (.ireturn, 1) := by decide +kernel
def f_X10_torches_117 (a0 : Nat) (i2 : Int32) (i3 : Int32) (σ : mm_S) : Option (Int32 × mm_S) :=
    gd (2 : Int32) 121 <|
    lt (su_i σ 224 (2 : Int32).toNatClampNeg i2) fun σ2 =>
    some (i3, σ2)
theorem v_X10_torches_117 {g : mm_G} (d : Nat) {a0 : Nat} {i2 : Int32} {i3 : Int32} {σ : mm_S} {res : Int32 × mm_S}  (h_a0 : (mm_K a0).1 = 10) (h : f_X10_torches_117 a0 i2 i3 σ = some res) : SV g (d + 7) yy_X10_torches 117 [(0, .ref a0), (2, .int i2), (3, .int i3)] [] σ (.int res.1) res.2 := by
  unfold f_X10_torches_117 at h
  refine e_aload_n 0 dX10_torches_117 rfl rfl ?_
  refine s_getr dX10_torches_118 fl_RX10_39 h_a0 (r_10_20 h_a0).1 ?_
  refine e_iconst (v := (2 : Int32)) dX10_torches_121 (by decide) ?_
  refine e_iload_n 1 dX10_torches_122 rfl rfl ?_
  obtain ⟨q1, h⟩ := gd_some h
  refine s_iast dX10_torches_123 (r_10_20 (w := 0) h_a0).2 q1 ?_
  obtain ⟨σ2, q3, h⟩ := lt_some h
  refine s_nms q3 ?_
  refine e_iload_n 2 dX10_torches_124 rfl rfl ?_
  obtain rfl := Option.some.inj h
  exact s_ret rfl ⟨_, rfl, rfl⟩ dX10_torches_125
def f_X10_torches_63 (k38 : (Int32 × Int32) → mm_S → Option (Int32 × mm_S)) (a0 : Nat) (i1 : Int32) (i2 : Int32) (i3 : Int32) (i4 : Int32) (i5 : Int32) (i6 : Int32) (σ : mm_S) : Option (Int32 × mm_S) :=
  lp lpN (fun (k63 : (Int32 × Int32) → mm_S → Option (Int32 × mm_S)) (v : Int32 × Int32) (σ : mm_S) =>
    if i1 ≤ v.2 then
      if v.1 = 0 then
        bv (f_X10_laysBack a0 σ) fun σ7 =>
        lt (i4 + Int32.ofInt (1)) fun x8 =>
        k38 (i3, x8) σ7
      else
        bv (f_X10_laysBack a0 σ) fun σ11 =>
        lt (i4 + Int32.ofInt (1)) fun x12 =>
        k38 (i4, x12) σ11
    else
      bd (f_X10_passes a0 σ) fun r16 σ15 =>
      if v.1 = 0 then
        lt (v.2 + Int32.ofInt (1)) fun x18 =>
        k63 ((0 : Int32), x18) σ15
      else
        bd (f_X10_isNobodyWeary a0 σ15) fun r22 σ21 =>
        if r22 = 0 then
          lt (v.2 + Int32.ofInt (1)) fun x24 =>
          k63 ((0 : Int32), x24) σ21
        else
          lt (v.2 + Int32.ofInt (1)) fun x26 =>
          k63 ((1 : Int32), x26) σ21) (i5, i6) σ
theorem v_X10_torches_63 {g : mm_G} (d : Nat) {k38 : (Int32 × Int32) → mm_S → Option (Int32 × mm_S)} {a0 : Nat} {i1 : Int32} {i2 : Int32} {i3 : Int32} {i4 : Int32} {i5 : Int32} {i6 : Int32} {σ : mm_S} {res : Int32 × mm_S} (H38 : ∀ v σ, k38 v σ = some res → SV g (d + 7) yy_X10_torches 38 [(0, .ref a0), (1, .int i1), (2, .int i2), (3, .int v.1), (4, .int v.2)] [] σ (.int res.1) res.2) (h_a0 : (mm_K a0).1 = 10) (h : f_X10_torches_63 k38 a0 i1 i2 i3 i4 i5 i6 σ = some res) : SV g (d + 7) yy_X10_torches 63 [(0, .ref a0), (1, .int i1), (2, .int i2), (3, .int i3), (4, .int i4), (5, .int i5), (6, .int i6)] [] σ (.int res.1) res.2 := by
  unfold f_X10_torches_63 at h
  refine lp_ind (P := fun v σ => SV g (d + 7) yy_X10_torches 63 [(0, .ref a0), (1, .int i1), (2, .int i2), (3, .int i3), (4, .int i4), (5, .int v.1), (6, .int v.2)] [] σ (.int res.1) res.2) (fun k63 H63 v σ h => ?_) _ (i5, i6) σ h
  refine e_iload 6 dX10_torches_63  rfl ?_
  refine e_iload_n 1 dX10_torches_65 rfl rfl ?_
  refine e_icmp_ge 99 dX10_torches_66 (by decide) (fun c4 => ?_) (fun c4 => ?_)
  · rw [if_pos c4] at h
    refine e_iload 5 dX10_torches_99  rfl ?_
    refine e_if_eq 107 dX10_torches_101 (by decide) (fun c5 => ?_) (fun c5 => ?_)
    · rw [if_pos c5] at h
      refine e_aload_n 0 dX10_torches_107 rfl rfl ?_
      obtain ⟨σ7, q6, h⟩ := bv_some h
      refine s_callVv [] dX10_torches_108 ml_RX10_399 h_a0 rfl rfl (v_X10_laysBack (d + 6) h_a0 q6) (Nat.le_of_ble_eq_true rfl) ?_
      obtain ⟨x8, q9, h⟩ := lt_some h
      refine e_iinc (v := x8) (L' := [(0, .ref a0), (1, .int i1), (2, .int i2), (3, .int i3), (4, .int x8), (5, .int v.1), (6, .int v.2)]) 4 dX10_torches_111 rfl q9.symm (by decide) rfl ?_
      refine e_goto 38 dX10_torches_114 (by decide) ?_
      refine s_pick (L' := [(0, .ref a0), (1, .int i1), (2, .int i2), (3, .int i3), (4, .int x8)]) [0, 1, 2, 3, 4] rfl ?_
      exact H38 (i3, x8) σ7 h
    · rw [if_neg c5] at h
      refine e_iload 4 dX10_torches_104  rfl ?_
      refine e_istore_n (L' := [(0, .ref a0), (1, .int i1), (2, .int i2), (3, .int i4), (4, .int i4), (5, .int v.1), (6, .int v.2)]) dX10_torches_106 rfl (by decide) rfl ?_
      refine e_aload_n 0 dX10_torches_107 rfl rfl ?_
      obtain ⟨σ11, q10, h⟩ := bv_some h
      refine s_callVv [] dX10_torches_108 ml_RX10_399 h_a0 rfl rfl (v_X10_laysBack (d + 6) h_a0 q10) (Nat.le_of_ble_eq_true rfl) ?_
      obtain ⟨x12, q13, h⟩ := lt_some h
      refine e_iinc (v := x12) (L' := [(0, .ref a0), (1, .int i1), (2, .int i2), (3, .int i4), (4, .int x12), (5, .int v.1), (6, .int v.2)]) 4 dX10_torches_111 rfl q13.symm (by decide) rfl ?_
      refine e_goto 38 dX10_torches_114 (by decide) ?_
      refine s_pick (L' := [(0, .ref a0), (1, .int i1), (2, .int i2), (3, .int i4), (4, .int x12)]) [0, 1, 2, 3, 4] rfl ?_
      exact H38 (i4, x12) σ11 h
  · rw [if_neg c4] at h
    refine e_aload_n 0 dX10_torches_69 rfl rfl ?_
    obtain ⟨r16, σ15, q14, h⟩ := bd_some h
    refine s_callVi [] dX10_torches_70 ml_RX10_376 h_a0 ⟨_, rfl, by decide⟩ rfl (v_X10_passes (d + 0) h_a0 q14) (Nat.le_of_ble_eq_true rfl) ?_
    refine e_pop dX10_torches_73 rfl ?_
    refine e_iload 5 dX10_torches_74  rfl ?_
    refine e_if_eq 90 dX10_torches_76 (by decide) (fun c17 => ?_) (fun c17 => ?_)
    · rw [if_pos c17] at h
      refine e_iconst (v := (0 : Int32)) dX10_torches_90 (by decide) ?_
      refine e_istore (L' := [(0, .ref a0), (1, .int i1), (2, .int i2), (3, .int i3), (4, .int i4), (5, .int (0 : Int32)), (6, .int v.2)]) dX10_torches_91  (by decide) rfl ?_
      obtain ⟨x18, q19, h⟩ := lt_some h
      refine e_iinc (v := x18) (L' := [(0, .ref a0), (1, .int i1), (2, .int i2), (3, .int i3), (4, .int i4), (5, .int (0 : Int32)), (6, .int x18)]) 6 dX10_torches_93 rfl q19.symm (by decide) rfl ?_
      refine e_goto 63 dX10_torches_96 (by decide) ?_
      refine s_pick (L' := [(0, .ref a0), (1, .int i1), (2, .int i2), (3, .int i3), (4, .int i4), (5, .int (0 : Int32)), (6, .int x18)]) [0, 1, 2, 3, 4, 5, 6] rfl ?_
      exact H63 ((0 : Int32), x18) σ15 h
    · rw [if_neg c17] at h
      refine e_aload_n 0 dX10_torches_79 rfl rfl ?_
      obtain ⟨r22, σ21, q20, h⟩ := bd_some h
      refine s_callVi [] dX10_torches_80 ml_RX10_422 h_a0 ⟨_, rfl, by decide⟩ rfl (v_X10_isNobodyWeary (d + 5) h_a0 q20) (Nat.le_of_ble_eq_true rfl) ?_
      refine e_if_eq 90 dX10_torches_83 (by decide) (fun c23 => ?_) (fun c23 => ?_)
      · rw [if_pos c23] at h
        refine e_iconst (v := (0 : Int32)) dX10_torches_90 (by decide) ?_
        refine e_istore (L' := [(0, .ref a0), (1, .int i1), (2, .int i2), (3, .int i3), (4, .int i4), (5, .int (0 : Int32)), (6, .int v.2)]) dX10_torches_91  (by decide) rfl ?_
        obtain ⟨x24, q25, h⟩ := lt_some h
        refine e_iinc (v := x24) (L' := [(0, .ref a0), (1, .int i1), (2, .int i2), (3, .int i3), (4, .int i4), (5, .int (0 : Int32)), (6, .int x24)]) 6 dX10_torches_93 rfl q25.symm (by decide) rfl ?_
        refine e_goto 63 dX10_torches_96 (by decide) ?_
        refine s_pick (L' := [(0, .ref a0), (1, .int i1), (2, .int i2), (3, .int i3), (4, .int i4), (5, .int (0 : Int32)), (6, .int x24)]) [0, 1, 2, 3, 4, 5, 6] rfl ?_
        exact H63 ((0 : Int32), x24) σ21 h
      · rw [if_neg c23] at h
        refine e_iconst (v := (1 : Int32)) dX10_torches_86 (by decide) ?_
        refine e_goto 91 dX10_torches_87 (by decide) ?_
        refine e_istore (L' := [(0, .ref a0), (1, .int i1), (2, .int i2), (3, .int i3), (4, .int i4), (5, .int (1 : Int32)), (6, .int v.2)]) dX10_torches_91  (by decide) rfl ?_
        obtain ⟨x26, q27, h⟩ := lt_some h
        refine e_iinc (v := x26) (L' := [(0, .ref a0), (1, .int i1), (2, .int i2), (3, .int i3), (4, .int i4), (5, .int (1 : Int32)), (6, .int x26)]) 6 dX10_torches_93 rfl q27.symm (by decide) rfl ?_
        refine e_goto 63 dX10_torches_96 (by decide) ?_
        refine s_pick (L' := [(0, .ref a0), (1, .int i1), (2, .int i2), (3, .int i3), (4, .int i4), (5, .int (1 : Int32)), (6, .int x26)]) [0, 1, 2, 3, 4, 5, 6] rfl ?_
        exact H63 ((1 : Int32), x26) σ21 h
def f_X10_torches_38 (a0 : Nat) (i1 : Int32) (i2 : Int32) (i3 : Int32) (i4 : Int32) (σ : mm_S) : Option (Int32 × mm_S) :=
  lp lpN (fun (k38 : (Int32 × Int32) → mm_S → Option (Int32 × mm_S)) (v : Int32 × Int32) (σ : mm_S) =>
    if (7 : Int32) < v.2 then
      f_X10_torches_117 a0 i2 v.1 σ
    else
      if 0 ≤ v.1 then
        f_X10_torches_117 a0 i2 v.1 σ
      else
        gd (2 : Int32) 121 <|
        lt (su_i σ 224 (2 : Int32).toNatClampNeg v.2) fun σ31 =>
        f_X10_torches_63 k38 a0 i1 i2 v.1 v.2 (1 : Int32) (0 : Int32) σ31) (i3, i4) σ
theorem v_X10_torches_38 {g : mm_G} (d : Nat) {a0 : Nat} {i1 : Int32} {i2 : Int32} {i3 : Int32} {i4 : Int32} {σ : mm_S} {res : Int32 × mm_S}  (h_a0 : (mm_K a0).1 = 10) (h : f_X10_torches_38 a0 i1 i2 i3 i4 σ = some res) : SV g (d + 7) yy_X10_torches 38 [(0, .ref a0), (1, .int i1), (2, .int i2), (3, .int i3), (4, .int i4)] [] σ (.int res.1) res.2 := by
  unfold f_X10_torches_38 at h
  refine lp_ind (P := fun v σ => SV g (d + 7) yy_X10_torches 38 [(0, .ref a0), (1, .int i1), (2, .int i2), (3, .int v.1), (4, .int v.2)] [] σ (.int res.1) res.2) (fun k38 H38 v σ h => ?_) _ (i3, i4) σ h
  refine e_iload 4 dX10_torches_38  rfl ?_
  refine e_bipush (v := (7 : Int32)) dX10_torches_40 (by decide) ?_
  refine e_icmp_gt 117 dX10_torches_42 (by decide) (fun c28 => ?_) (fun c28 => ?_)
  · rw [if_pos c28] at h
    refine s_pick (L' := [(0, .ref a0), (2, .int i2), (3, .int v.1)]) [0, 2, 3] rfl ?_
    exact v_X10_torches_117 d h_a0 h
  · rw [if_neg c28] at h
    refine e_iload_n 3 dX10_torches_45 rfl rfl ?_
    refine e_if_ge 117 dX10_torches_46 (by decide) (fun c29 => ?_) (fun c29 => ?_)
    · rw [if_pos c29] at h
      refine s_pick (L' := [(0, .ref a0), (2, .int i2), (3, .int v.1)]) [0, 2, 3] rfl ?_
      exact v_X10_torches_117 d h_a0 h
    · rw [if_neg c29] at h
      refine e_iconst (v := (1 : Int32)) dX10_torches_49 (by decide) ?_
      refine e_istore (L' := [(0, .ref a0), (1, .int i1), (2, .int i2), (3, .int v.1), (4, .int v.2), (5, .int (1 : Int32))]) dX10_torches_50  (by decide) rfl ?_
      refine e_aload_n 0 dX10_torches_52 rfl rfl ?_
      refine s_getr dX10_torches_53 fl_RX10_39 h_a0 (r_10_20 h_a0).1 ?_
      refine e_iconst (v := (2 : Int32)) dX10_torches_56 (by decide) ?_
      refine e_iload 4 dX10_torches_57  rfl ?_
      obtain ⟨q30, h⟩ := gd_some h
      refine s_iast dX10_torches_59 (r_10_20 (w := 0) h_a0).2 q30 ?_
      obtain ⟨σ31, q32, h⟩ := lt_some h
      refine s_nms q32 ?_
      refine e_iconst (v := (0 : Int32)) dX10_torches_60 (by decide) ?_
      refine e_istore (L' := [(0, .ref a0), (1, .int i1), (2, .int i2), (3, .int v.1), (4, .int v.2), (5, .int (1 : Int32)), (6, .int (0 : Int32))]) dX10_torches_61  (by decide) rfl ?_
      refine s_pick (L' := [(0, .ref a0), (1, .int i1), (2, .int i2), (3, .int v.1), (4, .int v.2), (5, .int (1 : Int32)), (6, .int (0 : Int32))]) [0, 1, 2, 3, 4, 5, 6] rfl ?_
      exact v_X10_torches_63 d H38 h_a0 h
def f_X10_torches (a0 : Nat) (i1 : Int32) (σ : mm_S) : Option (Int32 × mm_S) :=
    bd (f_X10_isHouse a0 σ) fun r48 σ47 =>
    if r48 = 0 then
      some ((-1 : Int32), σ47)
    else
      bd (f_X10_in (i1 : Int32).toInt64 (1 : Int64) (60 : Int64) σ47) fun r52 σ51 =>
      if r52 = 0 then
        some ((-1 : Int32), σ51)
      else
        gd (2 : Int32) 121 <|
        lt ((σ51.1 224 (2 : Int32).toNatClampNeg)) fun x55 =>
        bv (f_X10_keeps a0 σ51) fun σ58 =>
        f_X10_torches_38 a0 i1 x55 (-2 : Int32) (0 : Int32) σ58
theorem v_X10_torches {g : mm_G} (d : Nat) {a0 : Nat} {i1 : Int32} {σ : mm_S} {res : Int32 × mm_S} (h_a0 : (mm_K a0).1 = 10) (h : f_X10_torches a0 i1 σ = some res) : SM g (d + 7) yy_X10_torches [.ref a0, .int i1] σ (.int res.1) res.2 := by
  refine s_of (by decide) (Nat.le_of_ble_eq_true rfl) (L := [(0, .ref a0), (1, .int i1)]) rfl ?_
  unfold f_X10_torches at h
  refine e_aload_n 0 dX10_torches_0 rfl rfl ?_
  obtain ⟨r48, σ47, q46, h⟩ := bd_some h
  refine s_callVi [] dX10_torches_1 ml_RX10_379 h_a0 ⟨_, rfl, by decide⟩ rfl (v_X10_isHouse (d + 6) h_a0 q46) (Nat.le_of_ble_eq_true rfl) ?_
  refine e_if_eq 19 dX10_torches_4 (by decide) (fun c49 => ?_) (fun c49 => ?_)
  · rw [if_pos c49] at h
    refine e_iconst (v := (-1 : Int32)) dX10_torches_19 (by decide) ?_
    obtain rfl := Option.some.inj h
    exact s_ret rfl ⟨_, rfl, rfl⟩ dX10_torches_20
  · rw [if_neg c49] at h
    refine e_iload_n 1 dX10_torches_7 rfl rfl ?_
    refine e_i2l dX10_torches_8 ?_
    refine e_lconst (v := (1 : Int64)) dX10_torches_9 (by decide) ?_
    refine e_ldc2 dX10_torches_10 co_RX10_420 ?_
    obtain ⟨r52, σ51, q50, h⟩ := bd_some h
    refine s_callSi [.long (i1 : Int32).toInt64, .long (1 : Int64), .long (60 : Int64)] dX10_torches_13 ml_RX10_136 ⟨_, rfl, by decide⟩ rfl (v_X10_in (d + 6)  q50) (Nat.le_of_ble_eq_true rfl) ?_
    refine e_if_ne 21 dX10_torches_16 (by decide) (fun c53 => ?_) (fun c53 => ?_)
    · rw [if_neg c53] at h
      refine e_aload_n 0 dX10_torches_21 rfl rfl ?_
      refine s_getr dX10_torches_22 fl_RX10_39 h_a0 (r_10_20 h_a0).1 ?_
      refine e_iconst (v := (2 : Int32)) dX10_torches_25 (by decide) ?_
      obtain ⟨q54, h⟩ := gd_some h
      refine s_iald dX10_torches_26 (r_10_20 (w := 0) h_a0).2 q54 ?_
      obtain ⟨x55, q56, h⟩ := lt_some h
      refine s_nmi q56 ?_
      refine e_istore_n (L' := [(0, .ref a0), (1, .int i1), (2, .int x55)]) dX10_torches_27 rfl (by decide) rfl ?_
      refine e_bipush (v := (-2 : Int32)) dX10_torches_28 (by decide) ?_
      refine e_istore_n (L' := [(0, .ref a0), (1, .int i1), (2, .int x55), (3, .int (-2 : Int32))]) dX10_torches_30 rfl (by decide) rfl ?_
      refine e_aload_n 0 dX10_torches_31 rfl rfl ?_
      obtain ⟨σ58, q57, h⟩ := bv_some h
      refine s_callVv [] dX10_torches_32 ml_RX10_393 h_a0 rfl rfl (v_X10_keeps (d + 6) h_a0 q57) (Nat.le_of_ble_eq_true rfl) ?_
      refine e_iconst (v := (0 : Int32)) dX10_torches_35 (by decide) ?_
      refine e_istore (L' := [(0, .ref a0), (1, .int i1), (2, .int x55), (3, .int (-2 : Int32)), (4, .int (0 : Int32))]) dX10_torches_36  (by decide) rfl ?_
      refine s_pick (L' := [(0, .ref a0), (1, .int i1), (2, .int x55), (3, .int (-2 : Int32)), (4, .int (0 : Int32))]) [0, 1, 2, 3, 4] rfl ?_
      exact v_X10_torches_38 d h_a0 h
    · rw [if_pos c53] at h
      refine e_iconst (v := (-1 : Int32)) dX10_torches_19 (by decide) ?_
      obtain rfl := Option.some.inj h
      exact s_ret rfl ⟨_, rfl, rfl⟩ dX10_torches_20
abbrev yy_X10_sleptIn : mm_Y := (yX10_sleptIn, cX10_sleptIn, 4, (some .int))
theorem dX10_sleptIn_0 : decode cX10_sleptIn 0 = .ok (.aload_n 0, 1) := by decide +kernel
theorem dX10_sleptIn_1 : decode cX10_sleptIn 1 = .ok (.invokevirtual 425, 3) := by decide +kernel
theorem dX10_sleptIn_4 : decode cX10_sleptIn 4 = .ok (.istore_n 2, 1) := by decide +kernel
theorem dX10_sleptIn_5 : decode cX10_sleptIn 5 = .ok (.aload_n 0, 1) := by decide +kernel
theorem dX10_sleptIn_6 : decode cX10_sleptIn 6 = .ok (.iload_n 1, 1) := by decide +kernel
theorem dX10_sleptIn_7 : decode cX10_sleptIn 7 = .ok (.invokevirtual 396, 3) := by decide +kernel
theorem dX10_sleptIn_10 : decode cX10_sleptIn 10 = .ok (.aload_n 0, 1) := by decide +kernel
theorem dX10_sleptIn_11 : decode cX10_sleptIn 11 = .ok (.invokevirtual 425, 3) := by decide +kernel
theorem dX10_sleptIn_14 : decode cX10_sleptIn 14 = .ok (.iload_n 2, 1) := by decide +kernel
theorem dX10_sleptIn_15 : decode cX10_sleptIn 15 = .ok (.isub, 1) := by decide +kernel
theorem dX10_sleptIn_16 : decode cX10_sleptIn 16 = .ok (.istore_n 3, 1) := by decide +kernel
theorem dX10_sleptIn_17 : decode cX10_sleptIn 17 = .ok (.aload_n 0, 1) := by decide +kernel
theorem dX10_sleptIn_18 : decode cX10_sleptIn 18 = .ok (.invokevirtual 399, 3) := by decide +kernel
theorem dX10_sleptIn_21 : decode cX10_sleptIn 21 = .ok (.iload_n 3, 1) := by decide +kernel
theorem dX10_sleptIn_22 : decode cX10_sleptIn 22 = .ok (.ireturn, 1) := by decide +kernel
def f_X10_sleptIn (a0 : Nat) (i1 : Int32) (σ : mm_S) : Option (Int32 × mm_S) :=
    bd (f_X10_sleptAll a0 σ) fun r15 σ14 =>
    bv (f_X10_passesAll a0 i1 σ14) fun σ17 =>
    bd (f_X10_sleptAll a0 σ17) fun r20 σ19 =>
    lt ((r20 - r15)) fun x21 =>
    bv (f_X10_laysBack a0 σ19) fun σ24 =>
    some (x21, σ24)
theorem v_X10_sleptIn {g : mm_G} (d : Nat) {a0 : Nat} {i1 : Int32} {σ : mm_S} {res : Int32 × mm_S} (h_a0 : (mm_K a0).1 = 10) (h : f_X10_sleptIn a0 i1 σ = some res) : SM g (d + 8) yy_X10_sleptIn [.ref a0, .int i1] σ (.int res.1) res.2 := by
  refine s_of (by decide) (Nat.le_of_ble_eq_true rfl) (L := [(0, .ref a0), (1, .int i1)]) rfl ?_
  unfold f_X10_sleptIn at h
  refine e_aload_n 0 dX10_sleptIn_0 rfl rfl ?_
  obtain ⟨r15, σ14, q13, h⟩ := bd_some h
  refine s_callVi [] dX10_sleptIn_1 ml_RX10_425 h_a0 ⟨_, rfl, by decide⟩ rfl (v_X10_sleptAll (d + 6) h_a0 q13) (Nat.le_of_ble_eq_true rfl) ?_
  refine e_istore_n (L' := [(0, .ref a0), (1, .int i1), (2, .int r15)]) dX10_sleptIn_4 rfl (by decide) rfl ?_
  refine e_aload_n 0 dX10_sleptIn_5 rfl rfl ?_
  refine e_iload_n 1 dX10_sleptIn_6 rfl rfl ?_
  obtain ⟨σ17, q16, h⟩ := bv_some h
  refine s_callVv [.int i1] dX10_sleptIn_7 ml_RX10_396 h_a0 rfl rfl (v_X10_passesAll (d + 0) h_a0 q16) (Nat.le_of_ble_eq_true rfl) ?_
  refine e_aload_n 0 dX10_sleptIn_10 rfl rfl ?_
  obtain ⟨r20, σ19, q18, h⟩ := bd_some h
  refine s_callVi [] dX10_sleptIn_11 ml_RX10_425 h_a0 ⟨_, rfl, by decide⟩ rfl (v_X10_sleptAll (d + 6) h_a0 q18) (Nat.le_of_ble_eq_true rfl) ?_
  refine e_iload_n 2 dX10_sleptIn_14 rfl rfl ?_
  refine e_isub dX10_sleptIn_15 ?_
  obtain ⟨x21, q22, h⟩ := lt_some h
  refine s_nmi q22 ?_
  refine e_istore_n (L' := [(0, .ref a0), (1, .int i1), (2, .int r15), (3, .int x21)]) dX10_sleptIn_16 rfl (by decide) rfl ?_
  refine e_aload_n 0 dX10_sleptIn_17 rfl rfl ?_
  obtain ⟨σ24, q23, h⟩ := bv_some h
  refine s_callVv [] dX10_sleptIn_18 ml_RX10_399 h_a0 rfl rfl (v_X10_laysBack (d + 7) h_a0 q23) (Nat.le_of_ble_eq_true rfl) ?_
  refine e_iload_n 3 dX10_sleptIn_21 rfl rfl ?_
  obtain rfl := Option.some.inj h
  exact s_ret rfl ⟨_, rfl, rfl⟩ dX10_sleptIn_22
abbrev yy_X10_out : mm_Y := (yX10_out, cX10_out, 7, (some .int))
theorem dX10_out_0 : decode cX10_out 0 = .ok (.aload_n 0, 1) := by decide +kernel
theorem dX10_out_1 : decode cX10_out 1 = .ok (.invokevirtual 379, 3) := by decide +kernel
theorem dX10_out_4 : decode cX10_out 4 = .ok (.ifCond .eq 25, 3) := by decide +kernel
theorem dX10_out_7 : decode cX10_out 7 = .ok (.iload_n 1, 1) := by decide +kernel
theorem dX10_out_8 : decode cX10_out 8 = .ok (.i2l, 1) := by decide +kernel
theorem dX10_out_9 : decode cX10_out 9 = .ok (.lconst 1, 1) := by decide +kernel
theorem dX10_out_10 : decode cX10_out 10 = .ok (.ldc2_w 418, 3) := by decide +kernel
theorem dX10_out_13 : decode cX10_out 13 = .ok (.invokestatic 136, 3) := by decide +kernel
theorem dX10_out_16 : decode cX10_out 16 = .ok (.ifCond .eq 13, 3) := by decide +kernel
theorem dX10_out_19 : decode cX10_out 19 = .ok (.iload_n 2, 1) := by decide +kernel
theorem dX10_out_20 : decode cX10_out 20 = .ok (.i2l, 1) := by decide +kernel
theorem dX10_out_21 : decode cX10_out 21 = .ok (.lconst 0, 1) := by decide +kernel
theorem dX10_out_22 : decode cX10_out 22 = .ok (.lconst 1, 1) := by decide +kernel
theorem dX10_out_23 : decode cX10_out 23 = .ok (.invokestatic 136, 3) := by decide +kernel
theorem dX10_out_26 : decode cX10_out 26 = .ok (.ifCond .ne 6, 3) := by decide +kernel
theorem dX10_out_29 : decode cX10_out 29 = .ok (.bipush (-2), 2) := by decide +kernel
theorem dX10_out_31 : decode cX10_out 31 = .ok (.ireturn, 1) := by decide +kernel
theorem dX10_out_32 : decode cX10_out 32 = .ok (.aload_n 0, 1) := by decide +kernel
theorem dX10_out_33 : decode cX10_out 33 = .ok (.invokevirtual 393, 3) := by decide +kernel
theorem dX10_out_36 : decode cX10_out 36 = .ok (.iconst (-1), 1) := by decide +kernel
theorem dX10_out_37 : decode cX10_out 37 = .ok (.istore_n 3, 1) := by decide +kernel
theorem dX10_out_38 : decode cX10_out 38 = .ok (.aload_n 0, 1) := by decide +kernel
theorem dX10_out_39 : decode cX10_out 39 = .ok (.iload_n 1, 1) := by decide +kernel
theorem dX10_out_40 : decode cX10_out 40 = .ok (.invokevirtual 428, 3) := by decide +kernel
theorem dX10_out_43 : decode cX10_out 43 = .ok (.istore 4, 2) := by decide +kernel
theorem dX10_out_45 : decode cX10_out 45 = .ok (.iconst 0, 1) := by decide +kernel
theorem dX10_out_46 : decode cX10_out 46 = .ok (.istore 5, 2) := by decide +kernel
theorem dX10_out_48 : decode cX10_out 48 = .ok (.iload 5, 2) := by decide +kernel
theorem dX10_out_50 : decode cX10_out 50 = .ok (.aload_n 0, 1) := by decide +kernel
theorem dX10_out_51 : decode cX10_out 51 = .ok (.getfield 39, 3) := by decide +kernel
theorem dX10_out_54 : decode cX10_out 54 = .ok (.iconst 3, 1) := by decide +kernel
theorem dX10_out_55 : decode cX10_out 55 = .ok (.iaload, 1) := by decide +kernel
theorem dX10_out_56 : decode cX10_out 56 = .ok (.if_icmp .ge 39, 3) := by decide +kernel
theorem dX10_out_59 : decode cX10_out 59 = .ok (.aload_n 0, 1) := by decide +kernel
theorem dX10_out_60 : decode cX10_out 60 = .ok (.iload 5, 2) := by decide +kernel
theorem dX10_out_62 : decode cX10_out 62 = .ok (.putfield 46, 3) := by decide +kernel
theorem dX10_out_65 : decode cX10_out 65 = .ok (.aload_n 0, 1) := by decide +kernel
theorem dX10_out_66 : decode cX10_out 66 = .ok (.iload_n 1, 1) := by decide +kernel
theorem dX10_out_67 : decode cX10_out 67 = .ok (.invokevirtual 428, 3) := by decide +kernel
theorem dX10_out_70 : decode cX10_out 70 = .ok (.istore 6, 2) := by decide +kernel
theorem dX10_out_72 : decode cX10_out 72 = .ok (.iload 6, 2) := by decide +kernel
theorem dX10_out_74 : decode cX10_out 74 = .ok (.iload 4, 2) := by decide +kernel
theorem dX10_out_76 : decode cX10_out 76 = .ok (.if_icmp .gt 6, 3) := by decide +kernel
theorem dX10_out_79 : decode cX10_out 79 = .ok (.goto 10, 3) := by decide +kernel
theorem dX10_out_82 : decode cX10_out 82 = .ok (.iload 5, 2) := by decide +kernel
theorem dX10_out_84 : decode cX10_out 84 = .ok (.istore_n 3, 1) := by decide +kernel
theorem dX10_out_85 : decode cX10_out 85 = .ok (.iload 6, 2) := by decide +kernel
theorem dX10_out_87 : decode cX10_out 87 = .ok (.istore 4, 2) := by decide +kernel
theorem dX10_out_89 : decode cX10_out 89 = .ok (.iinc 5 1, 3) := by decide +kernel
theorem dX10_out_92 : decode cX10_out 92 = .ok (.goto (-44), 3) := by decide +kernel
theorem dX10_out_95 : decode cX10_out 95 = .ok (.aload_n 0, 1) := by decide +kernel
theorem dX10_out_96 : decode cX10_out 96 = .ok (.iconst (-1), 1) := by decide +kernel
theorem dX10_out_97 : decode cX10_out 97 = .ok (.putfield 46, 3) := by decide +kernel
theorem dX10_out_100 : decode cX10_out 100 = .ok (.iload_n 2, 1) := by decide +kernel
theorem dX10_out_101 : decode cX10_out 101 = .ok (.ifCond .ne 7, 3) := by decide +kernel
theorem dX10_out_104 : decode cX10_out 104 = .ok (.iload_n 3, 1) := by decide +kernel
theorem dX10_out_105 : decode cX10_out 105 = .ok (.goto 5, 3) := by decide +kernel
theorem dX10_out_108 : decode cX10_out 108 = .ok (.iload 4, 2) := by decide +kernel
theorem dX10_out_110 : decode cX10_out 110 = .ok (.ireturn, 1) := by decide +kernel
def f_X10_out_48 (a0 : Nat) (i1 : Int32) (i2 : Int32) (i3 : Int32) (i4 : Int32) (i5 : Int32) (σ : mm_S) : Option (Int32 × mm_S) :=
  lp lpN (fun (k48 : (Int32 × Int32 × Int32) → mm_S → Option (Int32 × mm_S)) (v : Int32 × Int32 × Int32) (σ : mm_S) =>
    gd (3 : Int32) 121 <|
    if (σ.1 224 (3 : Int32).toNatClampNeg) ≤ v.2.2 then
      lt (su_i σ a0 23 (-1 : Int32)) fun σ3 =>
      if i2 = 0 then
        some (v.1, σ3)
      else
        some (v.2.1, σ3)
    else
      lt (su_i σ a0 23 v.2.2) fun σ6 =>
      bd (f_X10_sleptIn a0 i1 σ6) fun r10 σ9 =>
      if v.2.1 < r10 then
        lt (v.2.2 + Int32.ofInt (1)) fun x12 =>
        k48 (v.2.2, r10, x12) σ9
      else
        lt (v.2.2 + Int32.ofInt (1)) fun x14 =>
        k48 (v.1, v.2.1, x14) σ9) (i3, i4, i5) σ
theorem v_X10_out_48 {g : mm_G} (d : Nat) {a0 : Nat} {i1 : Int32} {i2 : Int32} {i3 : Int32} {i4 : Int32} {i5 : Int32} {σ : mm_S} {res : Int32 × mm_S}  (h_a0 : (mm_K a0).1 = 10) (h : f_X10_out_48 a0 i1 i2 i3 i4 i5 σ = some res) : SV g (d + 9) yy_X10_out 48 [(0, .ref a0), (1, .int i1), (2, .int i2), (3, .int i3), (4, .int i4), (5, .int i5)] [] σ (.int res.1) res.2 := by
  unfold f_X10_out_48 at h
  refine lp_ind (P := fun v σ => SV g (d + 9) yy_X10_out 48 [(0, .ref a0), (1, .int i1), (2, .int i2), (3, .int v.1), (4, .int v.2.1), (5, .int v.2.2)] [] σ (.int res.1) res.2) (fun k48 H48 v σ h => ?_) _ (i3, i4, i5) σ h
  refine e_iload 5 dX10_out_48  rfl ?_
  refine e_aload_n 0 dX10_out_50 rfl rfl ?_
  refine s_getr dX10_out_51 fl_RX10_39 h_a0 (r_10_20 h_a0).1 ?_
  refine e_iconst (v := (3 : Int32)) dX10_out_54 (by decide) ?_
  obtain ⟨q1, h⟩ := gd_some h
  refine s_iald dX10_out_55 (r_10_20 (w := 0) h_a0).2 q1 ?_
  refine e_icmp_ge 95 dX10_out_56 (by decide) (fun c2 => ?_) (fun c2 => ?_)
  · rw [if_pos c2] at h
    refine e_aload_n 0 dX10_out_95 rfl rfl ?_
    refine e_iconst (v := (-1 : Int32)) dX10_out_96 (by decide) ?_
    refine s_puti dX10_out_97 fl_RX10_46 h_a0 rfl rfl rfl ?_
    obtain ⟨σ3, q4, h⟩ := lt_some h
    refine s_nms q4 ?_
    refine e_iload_n 2 dX10_out_100 rfl rfl ?_
    refine e_if_ne 108 dX10_out_101 (by decide) (fun c5 => ?_) (fun c5 => ?_)
    · rw [if_neg c5] at h
      refine e_iload 4 dX10_out_108  rfl ?_
      obtain rfl := Option.some.inj h
      exact s_ret rfl ⟨_, rfl, rfl⟩ dX10_out_110
    · rw [if_pos c5] at h
      refine e_iload_n 3 dX10_out_104 rfl rfl ?_
      refine e_goto 110 dX10_out_105 (by decide) ?_
      obtain rfl := Option.some.inj h
      exact s_ret rfl ⟨_, rfl, rfl⟩ dX10_out_110
  · rw [if_neg c2] at h
    refine e_aload_n 0 dX10_out_59 rfl rfl ?_
    refine e_iload 5 dX10_out_60  rfl ?_
    refine s_puti dX10_out_62 fl_RX10_46 h_a0 rfl rfl rfl ?_
    obtain ⟨σ6, q7, h⟩ := lt_some h
    refine s_nms q7 ?_
    refine e_aload_n 0 dX10_out_65 rfl rfl ?_
    refine e_iload_n 1 dX10_out_66 rfl rfl ?_
    obtain ⟨r10, σ9, q8, h⟩ := bd_some h
    refine s_callVi [.int i1] dX10_out_67 ml_RX10_428 h_a0 ⟨_, rfl, by decide⟩ rfl (v_X10_sleptIn (d + 0) h_a0 q8) (Nat.le_of_ble_eq_true rfl) ?_
    refine e_istore (L' := [(0, .ref a0), (1, .int i1), (2, .int i2), (3, .int v.1), (4, .int v.2.1), (5, .int v.2.2), (6, .int r10)]) dX10_out_70  (by decide) rfl ?_
    refine e_iload 6 dX10_out_72  rfl ?_
    refine e_iload 4 dX10_out_74  rfl ?_
    refine e_icmp_gt 82 dX10_out_76 (by decide) (fun c11 => ?_) (fun c11 => ?_)
    · rw [if_pos c11] at h
      refine e_iload 5 dX10_out_82  rfl ?_
      refine e_istore_n (L' := [(0, .ref a0), (1, .int i1), (2, .int i2), (3, .int v.2.2), (4, .int v.2.1), (5, .int v.2.2), (6, .int r10)]) dX10_out_84 rfl (by decide) rfl ?_
      refine e_iload 6 dX10_out_85  rfl ?_
      refine e_istore (L' := [(0, .ref a0), (1, .int i1), (2, .int i2), (3, .int v.2.2), (4, .int r10), (5, .int v.2.2), (6, .int r10)]) dX10_out_87  (by decide) rfl ?_
      obtain ⟨x12, q13, h⟩ := lt_some h
      refine e_iinc (v := x12) (L' := [(0, .ref a0), (1, .int i1), (2, .int i2), (3, .int v.2.2), (4, .int r10), (5, .int x12), (6, .int r10)]) 5 dX10_out_89 rfl q13.symm (by decide) rfl ?_
      refine e_goto 48 dX10_out_92 (by decide) ?_
      refine s_pick (L' := [(0, .ref a0), (1, .int i1), (2, .int i2), (3, .int v.2.2), (4, .int r10), (5, .int x12)]) [0, 1, 2, 3, 4, 5] rfl ?_
      exact H48 (v.2.2, r10, x12) σ9 h
    · rw [if_neg c11] at h
      refine e_goto 89 dX10_out_79 (by decide) ?_
      obtain ⟨x14, q15, h⟩ := lt_some h
      refine e_iinc (v := x14) (L' := [(0, .ref a0), (1, .int i1), (2, .int i2), (3, .int v.1), (4, .int v.2.1), (5, .int x14), (6, .int r10)]) 5 dX10_out_89 rfl q15.symm (by decide) rfl ?_
      refine e_goto 48 dX10_out_92 (by decide) ?_
      refine s_pick (L' := [(0, .ref a0), (1, .int i1), (2, .int i2), (3, .int v.1), (4, .int v.2.1), (5, .int x14)]) [0, 1, 2, 3, 4, 5] rfl ?_
      exact H48 (v.1, v.2.1, x14) σ9 h
def f_X10_out (a0 : Nat) (i1 : Int32) (i2 : Int32) (σ : mm_S) : Option (Int32 × mm_S) :=
    bd (f_X10_isHouse a0 σ) fun r35 σ34 =>
    if r35 = 0 then
      some ((-2 : Int32), σ34)
    else
      bd (f_X10_in (i1 : Int32).toInt64 (1 : Int64) (30 : Int64) σ34) fun r39 σ38 =>
      if r39 = 0 then
        some ((-2 : Int32), σ38)
      else
        bd (f_X10_in (i2 : Int32).toInt64 (0 : Int64) (1 : Int64) σ38) fun r43 σ42 =>
        if r43 = 0 then
          some ((-2 : Int32), σ42)
        else
          bv (f_X10_keeps a0 σ42) fun σ46 =>
          bd (f_X10_sleptIn a0 i1 σ46) fun r49 σ48 =>
          f_X10_out_48 a0 i1 i2 (-1 : Int32) r49 (0 : Int32) σ48
theorem v_X10_out {g : mm_G} (d : Nat) {a0 : Nat} {i1 : Int32} {i2 : Int32} {σ : mm_S} {res : Int32 × mm_S} (h_a0 : (mm_K a0).1 = 10) (h : f_X10_out a0 i1 i2 σ = some res) : SM g (d + 9) yy_X10_out [.ref a0, .int i1, .int i2] σ (.int res.1) res.2 := by
  refine s_of (by decide) (Nat.le_of_ble_eq_true rfl) (L := [(0, .ref a0), (1, .int i1), (2, .int i2)]) rfl ?_
  unfold f_X10_out at h
  refine e_aload_n 0 dX10_out_0 rfl rfl ?_
  obtain ⟨r35, σ34, q33, h⟩ := bd_some h
  refine s_callVi [] dX10_out_1 ml_RX10_379 h_a0 ⟨_, rfl, by decide⟩ rfl (v_X10_isHouse (d + 8) h_a0 q33) (Nat.le_of_ble_eq_true rfl) ?_
  refine e_if_eq 29 dX10_out_4 (by decide) (fun c36 => ?_) (fun c36 => ?_)
  · rw [if_pos c36] at h
    refine e_bipush (v := (-2 : Int32)) dX10_out_29 (by decide) ?_
    obtain rfl := Option.some.inj h
    exact s_ret rfl ⟨_, rfl, rfl⟩ dX10_out_31
  · rw [if_neg c36] at h
    refine e_iload_n 1 dX10_out_7 rfl rfl ?_
    refine e_i2l dX10_out_8 ?_
    refine e_lconst (v := (1 : Int64)) dX10_out_9 (by decide) ?_
    refine e_ldc2 dX10_out_10 co_RX10_418 ?_
    obtain ⟨r39, σ38, q37, h⟩ := bd_some h
    refine s_callSi [.long (i1 : Int32).toInt64, .long (1 : Int64), .long (30 : Int64)] dX10_out_13 ml_RX10_136 ⟨_, rfl, by decide⟩ rfl (v_X10_in (d + 8)  q37) (Nat.le_of_ble_eq_true rfl) ?_
    refine e_if_eq 29 dX10_out_16 (by decide) (fun c40 => ?_) (fun c40 => ?_)
    · rw [if_pos c40] at h
      refine e_bipush (v := (-2 : Int32)) dX10_out_29 (by decide) ?_
      obtain rfl := Option.some.inj h
      exact s_ret rfl ⟨_, rfl, rfl⟩ dX10_out_31
    · rw [if_neg c40] at h
      refine e_iload_n 2 dX10_out_19 rfl rfl ?_
      refine e_i2l dX10_out_20 ?_
      refine e_lconst (v := (0 : Int64)) dX10_out_21 (by decide) ?_
      refine e_lconst (v := (1 : Int64)) dX10_out_22 (by decide) ?_
      obtain ⟨r43, σ42, q41, h⟩ := bd_some h
      refine s_callSi [.long (i2 : Int32).toInt64, .long (0 : Int64), .long (1 : Int64)] dX10_out_23 ml_RX10_136 ⟨_, rfl, by decide⟩ rfl (v_X10_in (d + 8)  q41) (Nat.le_of_ble_eq_true rfl) ?_
      refine e_if_ne 32 dX10_out_26 (by decide) (fun c44 => ?_) (fun c44 => ?_)
      · rw [if_neg c44] at h
        refine e_aload_n 0 dX10_out_32 rfl rfl ?_
        obtain ⟨σ46, q45, h⟩ := bv_some h
        refine s_callVv [] dX10_out_33 ml_RX10_393 h_a0 rfl rfl (v_X10_keeps (d + 8) h_a0 q45) (Nat.le_of_ble_eq_true rfl) ?_
        refine e_iconst (v := (-1 : Int32)) dX10_out_36 (by decide) ?_
        refine e_istore_n (L' := [(0, .ref a0), (1, .int i1), (2, .int i2), (3, .int (-1 : Int32))]) dX10_out_37 rfl (by decide) rfl ?_
        refine e_aload_n 0 dX10_out_38 rfl rfl ?_
        refine e_iload_n 1 dX10_out_39 rfl rfl ?_
        obtain ⟨r49, σ48, q47, h⟩ := bd_some h
        refine s_callVi [.int i1] dX10_out_40 ml_RX10_428 h_a0 ⟨_, rfl, by decide⟩ rfl (v_X10_sleptIn (d + 0) h_a0 q47) (Nat.le_of_ble_eq_true rfl) ?_
        refine e_istore (L' := [(0, .ref a0), (1, .int i1), (2, .int i2), (3, .int (-1 : Int32)), (4, .int r49)]) dX10_out_43  (by decide) rfl ?_
        refine e_iconst (v := (0 : Int32)) dX10_out_45 (by decide) ?_
        refine e_istore (L' := [(0, .ref a0), (1, .int i1), (2, .int i2), (3, .int (-1 : Int32)), (4, .int r49), (5, .int (0 : Int32))]) dX10_out_46  (by decide) rfl ?_
        refine s_pick (L' := [(0, .ref a0), (1, .int i1), (2, .int i2), (3, .int (-1 : Int32)), (4, .int r49), (5, .int (0 : Int32))]) [0, 1, 2, 3, 4, 5] rfl ?_
        exact v_X10_out_48 d h_a0 h
      · rw [if_pos c44] at h
        refine e_bipush (v := (-2 : Int32)) dX10_out_29 (by decide) ?_
        obtain rfl := Option.some.inj h
        exact s_ret rfl ⟨_, rfl, rfl⟩ dX10_out_31
abbrev yy_X10_sleeps : mm_Y := (yX10_sleeps, cX10_sleeps, 7, (some .int))
theorem dX10_sleeps_0 : decode cX10_sleeps 0 = .ok (.aload_n 0, 1) := by decide +kernel
theorem dX10_sleeps_1 : decode cX10_sleeps 1 = .ok (.invokevirtual 379, 3) := by decide +kernel
theorem dX10_sleeps_4 : decode cX10_sleeps 4 = .ok (.ifCond .eq 25, 3) := by decide +kernel
theorem dX10_sleeps_7 : decode cX10_sleeps 7 = .ok (.iload_n 1, 1) := by decide +kernel
theorem dX10_sleeps_8 : decode cX10_sleeps 8 = .ok (.i2l, 1) := by decide +kernel
theorem dX10_sleeps_9 : decode cX10_sleeps 9 = .ok (.lconst 1, 1) := by decide +kernel
theorem dX10_sleeps_10 : decode cX10_sleeps 10 = .ok (.ldc2_w 389, 3) := by decide +kernel
theorem dX10_sleeps_13 : decode cX10_sleeps 13 = .ok (.invokestatic 136, 3) := by decide +kernel
theorem dX10_sleeps_16 : decode cX10_sleeps 16 = .ok (.ifCond .eq 13, 3) := by decide +kernel
theorem dX10_sleeps_19 : decode cX10_sleeps 19 = .ok (.iload_n 2, 1) := by decide +kernel
theorem dX10_sleeps_20 : decode cX10_sleeps 20 = .ok (.i2l, 1) := by decide +kernel
theorem dX10_sleeps_21 : decode cX10_sleeps 21 = .ok (.lconst 0, 1) := by decide +kernel
theorem dX10_sleeps_22 : decode cX10_sleeps 22 = .ok (.lconst 1, 1) := by decide +kernel
theorem dX10_sleeps_23 : decode cX10_sleeps 23 = .ok (.invokestatic 136, 3) := by decide +kernel
theorem dX10_sleeps_26 : decode cX10_sleeps 26 = .ok (.ifCond .ne 5, 3) := by decide +kernel
theorem dX10_sleeps_29 : decode cX10_sleeps 29 = .ok (.iconst (-1), 1) := by decide +kernel
theorem dX10_sleeps_30 : decode cX10_sleeps 30 = .ok (.ireturn, 1) := by decide +kernel
theorem dX10_sleeps_31 : decode cX10_sleeps 31 = .ok (.bipush (-2), 2) := by decide +kernel
theorem dX10_sleeps_33 : decode cX10_sleeps 33 = .ok (.istore_n 3, 1) := by decide +kernel
theorem dX10_sleeps_34 : decode cX10_sleeps 34 = .ok (.iconst (-1), 1) := by decide +kernel
theorem dX10_sleeps_35 : decode cX10_sleeps 35 = .ok (.istore 4, 2) := by decide +kernel
theorem dX10_sleeps_37 : decode cX10_sleeps 37 = .ok (.aload_n 0, 1) := by decide +kernel
theorem dX10_sleeps_38 : decode cX10_sleeps 38 = .ok (.invokevirtual 393, 3) := by decide +kernel
theorem dX10_sleeps_41 : decode cX10_sleeps 41 = .ok (.aload_n 0, 1) := by decide +kernel
theorem dX10_sleeps_42 : decode cX10_sleeps 42 = .ok (.iload_n 1, 1) := by decide +kernel
theorem dX10_sleeps_43 : decode cX10_sleeps 43 = .ok (.invokevirtual 396, 3) := by decide +kernel
theorem dX10_sleeps_46 : decode cX10_sleeps 46 = .ok (.iconst 0, 1) := by decide +kernel
theorem dX10_sleeps_47 : decode cX10_sleeps 47 = .ok (.istore 5, 2) := by decide +kernel
theorem dX10_sleeps_49 : decode cX10_sleeps 49 = .ok (.iload 5, 2) := by decide +kernel
theorem dX10_sleeps_51 : decode cX10_sleeps 51 = .ok (.aload_n 0, 1) := by decide +kernel
theorem dX10_sleeps_52 : decode cX10_sleeps 52 = .ok (.getfield 39, 3) := by decide +kernel
theorem dX10_sleeps_55 : decode cX10_sleeps 55 = .ok (.iconst 3, 1) := by decide +kernel
theorem dX10_sleeps_56 : decode cX10_sleeps 56 = .ok (.iaload, 1) := by decide +kernel
theorem dX10_sleeps_57 : decode cX10_sleeps 57 = .ok (.if_icmp .ge 52, 3) := by decide +kernel
theorem dX10_sleeps_60 : decode cX10_sleeps 60 = .ok (.aload_n 0, 1) := by decide +kernel
theorem dX10_sleeps_61 : decode cX10_sleeps 61 = .ok (.iload 5, 2) := by decide +kernel
theorem dX10_sleeps_63 : decode cX10_sleeps 63 = .ok (.invokevirtual 311, 3) := by decide +kernel
theorem dX10_sleeps_66 : decode cX10_sleeps 66 = .ok (.aload_n 0, 1) := by decide +kernel
theorem dX10_sleeps_67 : decode cX10_sleeps 67 = .ok (.getfield 64, 3) := by decide +kernel
theorem dX10_sleeps_70 : decode cX10_sleeps 70 = .ok (.bipush 11, 2) := by decide +kernel
theorem dX10_sleeps_72 : decode cX10_sleeps 72 = .ok (.iconst 5, 1) := by decide +kernel
theorem dX10_sleeps_73 : decode cX10_sleeps 73 = .ok (.iload 5, 2) := by decide +kernel
theorem dX10_sleeps_75 : decode cX10_sleeps 75 = .ok (.imul, 1) := by decide +kernel
theorem dX10_sleeps_76 : decode cX10_sleeps 76 = .ok (.iadd, 1) := by decide +kernel
theorem dX10_sleeps_77 : decode cX10_sleeps 77 = .ok (.iconst 4, 1) := by decide +kernel
theorem dX10_sleeps_78 : decode cX10_sleeps 78 = .ok (.iadd, 1) := by decide +kernel
theorem dX10_sleeps_79 : decode cX10_sleeps 79 = .ok (.bipush 10, 2) := by decide +kernel
theorem dX10_sleeps_81 : decode cX10_sleeps 81 = .ok (.isub, 1) := by decide +kernel
theorem dX10_sleeps_82 : decode cX10_sleeps 82 = .ok (.iaload, 1) := by decide +kernel
theorem dX10_sleeps_83 : decode cX10_sleeps 83 = .ok (.isub, 1) := by decide +kernel
theorem dX10_sleeps_84 : decode cX10_sleeps 84 = .ok (.istore 6, 2) := by decide +kernel
theorem dX10_sleeps_86 : decode cX10_sleeps 86 = .ok (.iload 6, 2) := by decide +kernel
theorem dX10_sleeps_88 : decode cX10_sleeps 88 = .ok (.iload 4, 2) := by decide +kernel
theorem dX10_sleeps_90 : decode cX10_sleeps 90 = .ok (.if_icmp .gt 6, 3) := by decide +kernel
theorem dX10_sleeps_93 : decode cX10_sleeps 93 = .ok (.goto 10, 3) := by decide +kernel
theorem dX10_sleeps_96 : decode cX10_sleeps 96 = .ok (.iload 5, 2) := by decide +kernel
theorem dX10_sleeps_98 : decode cX10_sleeps 98 = .ok (.istore_n 3, 1) := by decide +kernel
theorem dX10_sleeps_99 : decode cX10_sleeps 99 = .ok (.iload 6, 2) := by decide +kernel
theorem dX10_sleeps_101 : decode cX10_sleeps 101 = .ok (.istore 4, 2) := by decide +kernel
theorem dX10_sleeps_103 : decode cX10_sleeps 103 = .ok (.iinc 5 1, 3) := by decide +kernel
theorem dX10_sleeps_106 : decode cX10_sleeps 106 = .ok (.goto (-57), 3) := by decide +kernel
theorem dX10_sleeps_109 : decode cX10_sleeps 109 = .ok (.aload_n 0, 1) := by decide +kernel
theorem dX10_sleeps_110 : decode cX10_sleeps 110 = .ok (.invokevirtual 399, 3) := by decide +kernel
theorem dX10_sleeps_113 : decode cX10_sleeps 113 = .ok (.iload_n 2, 1) := by decide +kernel
theorem dX10_sleeps_114 : decode cX10_sleeps 114 = .ok (.ifCond .ne 7, 3) := by decide +kernel
theorem dX10_sleeps_117 : decode cX10_sleeps 117 = .ok (.iload_n 3, 1) := by decide +kernel
theorem dX10_sleeps_118 : decode cX10_sleeps 118 = .ok (.goto 14, 3) := by decide +kernel
theorem dX10_sleeps_121 : decode cX10_sleeps 121 = .ok (.iload 4, 2) := by decide +kernel
theorem dX10_sleeps_123 : decode cX10_sleeps 123 = .ok (.ifCond .ge 7, 3) := by decide +kernel
theorem dX10_sleeps_126 : decode cX10_sleeps 126 = .ok (.iconst 0, 1) := by decide +kernel
theorem dX10_sleeps_127 : decode cX10_sleeps 127 = .ok (.goto 5, 3) := by decide +kernel
theorem dX10_sleeps_130 : decode cX10_sleeps 130 = .ok (.iload 4, 2) := by decide +kernel
theorem dX10_sleeps_132 : decode cX10_sleeps 132 = .ok (.ireturn, 1) := by decide +kernel
def f_X10_sleeps_49 (a0 : Nat) (i2 : Int32) (i3 : Int32) (i4 : Int32) (i5 : Int32) (σ : mm_S) : Option (Int32 × mm_S) :=
  lp lpN (fun (k49 : (Int32 × Int32 × Int32) → mm_S → Option (Int32 × mm_S)) (v : Int32 × Int32 × Int32) (σ : mm_S) =>
    gd (3 : Int32) 121 <|
    if (σ.1 224 (3 : Int32).toNatClampNeg) ≤ v.2.2 then
      bv (f_X10_laysBack a0 σ) fun σ4 =>
      if i2 = 0 then
        some (v.1, σ4)
      else
        if 0 ≤ v.2.1 then
          some (v.2.1, σ4)
        else
          some ((0 : Int32), σ4)
    else
      bd (f_X10_sleptBy a0 v.2.2 σ) fun r9 σ8 =>
      gd ((((11 : Int32) + ((5 : Int32) * v.2.2)) + (4 : Int32)) - (10 : Int32)) 31 <|
      lt ((r9 - (σ8.1 229 ((((11 : Int32) + ((5 : Int32) * v.2.2)) + (4 : Int32)) - (10 : Int32)).toNatClampNeg))) fun x11 =>
      if v.2.1 < x11 then
        lt (v.2.2 + Int32.ofInt (1)) fun x14 =>
        k49 (v.2.2, x11, x14) σ8
      else
        lt (v.2.2 + Int32.ofInt (1)) fun x16 =>
        k49 (v.1, v.2.1, x16) σ8) (i3, i4, i5) σ
theorem v_X10_sleeps_49 {g : mm_G} (d : Nat) {a0 : Nat} {i2 : Int32} {i3 : Int32} {i4 : Int32} {i5 : Int32} {σ : mm_S} {res : Int32 × mm_S}  (h_a0 : (mm_K a0).1 = 10) (h : f_X10_sleeps_49 a0 i2 i3 i4 i5 σ = some res) : SV g (d + 8) yy_X10_sleeps 49 [(0, .ref a0), (2, .int i2), (3, .int i3), (4, .int i4), (5, .int i5)] [] σ (.int res.1) res.2 := by
  unfold f_X10_sleeps_49 at h
  refine lp_ind (P := fun v σ => SV g (d + 8) yy_X10_sleeps 49 [(0, .ref a0), (2, .int i2), (3, .int v.1), (4, .int v.2.1), (5, .int v.2.2)] [] σ (.int res.1) res.2) (fun k49 H49 v σ h => ?_) _ (i3, i4, i5) σ h
  refine e_iload 4 dX10_sleeps_49  rfl ?_
  refine e_aload_n 0 dX10_sleeps_51 rfl rfl ?_
  refine s_getr dX10_sleeps_52 fl_RX10_39 h_a0 (r_10_20 h_a0).1 ?_
  refine e_iconst (v := (3 : Int32)) dX10_sleeps_55 (by decide) ?_
  obtain ⟨q1, h⟩ := gd_some h
  refine s_iald dX10_sleeps_56 (r_10_20 (w := 0) h_a0).2 q1 ?_
  refine e_icmp_ge 109 dX10_sleeps_57 (by decide) (fun c2 => ?_) (fun c2 => ?_)
  · rw [if_pos c2] at h
    refine e_aload_n 0 dX10_sleeps_109 rfl rfl ?_
    obtain ⟨σ4, q3, h⟩ := bv_some h
    refine s_callVv [] dX10_sleeps_110 ml_RX10_399 h_a0 rfl rfl (v_X10_laysBack (d + 7) h_a0 q3) (Nat.le_of_ble_eq_true rfl) ?_
    refine e_iload_n 1 dX10_sleeps_113 rfl rfl ?_
    refine e_if_ne 121 dX10_sleeps_114 (by decide) (fun c5 => ?_) (fun c5 => ?_)
    · rw [if_neg c5] at h
      refine e_iload 3 dX10_sleeps_121  rfl ?_
      refine e_if_ge 130 dX10_sleeps_123 (by decide) (fun c6 => ?_) (fun c6 => ?_)
      · rw [if_pos c6] at h
        refine e_iload 3 dX10_sleeps_130  rfl ?_
        obtain rfl := Option.some.inj h
        exact s_ret rfl ⟨_, rfl, rfl⟩ dX10_sleeps_132
      · rw [if_neg c6] at h
        refine e_iconst (v := (0 : Int32)) dX10_sleeps_126 (by decide) ?_
        refine e_goto 132 dX10_sleeps_127 (by decide) ?_
        obtain rfl := Option.some.inj h
        exact s_ret rfl ⟨_, rfl, rfl⟩ dX10_sleeps_132
    · rw [if_pos c5] at h
      refine e_iload_n 2 dX10_sleeps_117 rfl rfl ?_
      refine e_goto 132 dX10_sleeps_118 (by decide) ?_
      obtain rfl := Option.some.inj h
      exact s_ret rfl ⟨_, rfl, rfl⟩ dX10_sleeps_132
  · rw [if_neg c2] at h
    refine e_aload_n 0 dX10_sleeps_60 rfl rfl ?_
    refine e_iload 4 dX10_sleeps_61  rfl ?_
    obtain ⟨r9, σ8, q7, h⟩ := bd_some h
    refine s_callVi [.int v.2.2] dX10_sleeps_63 ml_RX10_311 h_a0 ⟨_, rfl, by decide⟩ rfl (v_X10_sleptBy (d + 7) h_a0 q7) (Nat.le_of_ble_eq_true rfl) ?_
    refine e_aload_n 0 dX10_sleeps_66 rfl rfl ?_
    refine s_getr dX10_sleeps_67 fl_RX10_64 h_a0 (r_10_32 h_a0).1 ?_
    refine e_bipush (v := (11 : Int32)) dX10_sleeps_70 (by decide) ?_
    refine e_iconst (v := (5 : Int32)) dX10_sleeps_72 (by decide) ?_
    refine e_iload 4 dX10_sleeps_73  rfl ?_
    refine e_imul dX10_sleeps_75 ?_
    refine e_iadd dX10_sleeps_76 ?_
    refine e_iconst (v := (4 : Int32)) dX10_sleeps_77 (by decide) ?_
    refine e_iadd dX10_sleeps_78 ?_
    refine e_bipush (v := (10 : Int32)) dX10_sleeps_79 (by decide) ?_
    refine e_isub dX10_sleeps_81 ?_
    obtain ⟨q10, h⟩ := gd_some h
    refine s_iald dX10_sleeps_82 (r_10_32 (w := 0) h_a0).2 q10 ?_
    refine e_isub dX10_sleeps_83 ?_
    obtain ⟨x11, q12, h⟩ := lt_some h
    refine s_nmi q12 ?_
    refine e_istore (L' := [(0, .ref a0), (2, .int i2), (3, .int v.1), (4, .int v.2.1), (5, .int v.2.2), (6, .int x11)]) dX10_sleeps_84  (by decide) rfl ?_
    refine e_iload 5 dX10_sleeps_86  rfl ?_
    refine e_iload 3 dX10_sleeps_88  rfl ?_
    refine e_icmp_gt 96 dX10_sleeps_90 (by decide) (fun c13 => ?_) (fun c13 => ?_)
    · rw [if_pos c13] at h
      refine e_iload 4 dX10_sleeps_96  rfl ?_
      refine e_istore_n (L' := [(0, .ref a0), (2, .int i2), (3, .int v.2.2), (4, .int v.2.1), (5, .int v.2.2), (6, .int x11)]) dX10_sleeps_98 rfl (by decide) rfl ?_
      refine e_iload 5 dX10_sleeps_99  rfl ?_
      refine e_istore (L' := [(0, .ref a0), (2, .int i2), (3, .int v.2.2), (4, .int x11), (5, .int v.2.2), (6, .int x11)]) dX10_sleeps_101  (by decide) rfl ?_
      obtain ⟨x14, q15, h⟩ := lt_some h
      refine e_iinc (v := x14) (L' := [(0, .ref a0), (2, .int i2), (3, .int v.2.2), (4, .int x11), (5, .int x14), (6, .int x11)]) 4 dX10_sleeps_103 rfl q15.symm (by decide) rfl ?_
      refine e_goto 49 dX10_sleeps_106 (by decide) ?_
      refine s_pick (L' := [(0, .ref a0), (2, .int i2), (3, .int v.2.2), (4, .int x11), (5, .int x14)]) [0, 1, 2, 3, 4] rfl ?_
      exact H49 (v.2.2, x11, x14) σ8 h
    · rw [if_neg c13] at h
      refine e_goto 103 dX10_sleeps_93 (by decide) ?_
      obtain ⟨x16, q17, h⟩ := lt_some h
      refine e_iinc (v := x16) (L' := [(0, .ref a0), (2, .int i2), (3, .int v.1), (4, .int v.2.1), (5, .int x16), (6, .int x11)]) 4 dX10_sleeps_103 rfl q17.symm (by decide) rfl ?_
      refine e_goto 49 dX10_sleeps_106 (by decide) ?_
      refine s_pick (L' := [(0, .ref a0), (2, .int i2), (3, .int v.1), (4, .int v.2.1), (5, .int x16)]) [0, 1, 2, 3, 4] rfl ?_
      exact H49 (v.1, v.2.1, x16) σ8 h
def f_X10_sleeps (a0 : Nat) (i1 : Int32) (i2 : Int32) (σ : mm_S) : Option (Int32 × mm_S) :=
    bd (f_X10_isHouse a0 σ) fun r36 σ35 =>
    if r36 = 0 then
      some ((-1 : Int32), σ35)
    else
      bd (f_X10_in (i1 : Int32).toInt64 (1 : Int64) (100 : Int64) σ35) fun r40 σ39 =>
      if r40 = 0 then
        some ((-1 : Int32), σ39)
      else
        bd (f_X10_in (i2 : Int32).toInt64 (0 : Int64) (1 : Int64) σ39) fun r44 σ43 =>
        if r44 = 0 then
          some ((-1 : Int32), σ43)
        else
          bv (f_X10_keeps a0 σ43) fun σ47 =>
          bv (f_X10_passesAll a0 i1 σ47) fun σ49 =>
          f_X10_sleeps_49 a0 i2 (-2 : Int32) (-1 : Int32) (0 : Int32) σ49
theorem v_X10_sleeps {g : mm_G} (d : Nat) {a0 : Nat} {i1 : Int32} {i2 : Int32} {σ : mm_S} {res : Int32 × mm_S} (h_a0 : (mm_K a0).1 = 10) (h : f_X10_sleeps a0 i1 i2 σ = some res) : SM g (d + 8) yy_X10_sleeps [.ref a0, .int i1, .int i2] σ (.int res.1) res.2 := by
  refine s_of (by decide) (Nat.le_of_ble_eq_true rfl) (L := [(0, .ref a0), (1, .int i1), (2, .int i2)]) rfl ?_
  unfold f_X10_sleeps at h
  refine e_aload_n 0 dX10_sleeps_0 rfl rfl ?_
  obtain ⟨r36, σ35, q34, h⟩ := bd_some h
  refine s_callVi [] dX10_sleeps_1 ml_RX10_379 h_a0 ⟨_, rfl, by decide⟩ rfl (v_X10_isHouse (d + 7) h_a0 q34) (Nat.le_of_ble_eq_true rfl) ?_
  refine e_if_eq 29 dX10_sleeps_4 (by decide) (fun c37 => ?_) (fun c37 => ?_)
  · rw [if_pos c37] at h
    refine e_iconst (v := (-1 : Int32)) dX10_sleeps_29 (by decide) ?_
    obtain rfl := Option.some.inj h
    exact s_ret rfl ⟨_, rfl, rfl⟩ dX10_sleeps_30
  · rw [if_neg c37] at h
    refine e_iload_n 1 dX10_sleeps_7 rfl rfl ?_
    refine e_i2l dX10_sleeps_8 ?_
    refine e_lconst (v := (1 : Int64)) dX10_sleeps_9 (by decide) ?_
    refine e_ldc2 dX10_sleeps_10 co_RX10_389 ?_
    obtain ⟨r40, σ39, q38, h⟩ := bd_some h
    refine s_callSi [.long (i1 : Int32).toInt64, .long (1 : Int64), .long (100 : Int64)] dX10_sleeps_13 ml_RX10_136 ⟨_, rfl, by decide⟩ rfl (v_X10_in (d + 7)  q38) (Nat.le_of_ble_eq_true rfl) ?_
    refine e_if_eq 29 dX10_sleeps_16 (by decide) (fun c41 => ?_) (fun c41 => ?_)
    · rw [if_pos c41] at h
      refine e_iconst (v := (-1 : Int32)) dX10_sleeps_29 (by decide) ?_
      obtain rfl := Option.some.inj h
      exact s_ret rfl ⟨_, rfl, rfl⟩ dX10_sleeps_30
    · rw [if_neg c41] at h
      refine e_iload_n 2 dX10_sleeps_19 rfl rfl ?_
      refine e_i2l dX10_sleeps_20 ?_
      refine e_lconst (v := (0 : Int64)) dX10_sleeps_21 (by decide) ?_
      refine e_lconst (v := (1 : Int64)) dX10_sleeps_22 (by decide) ?_
      obtain ⟨r44, σ43, q42, h⟩ := bd_some h
      refine s_callSi [.long (i2 : Int32).toInt64, .long (0 : Int64), .long (1 : Int64)] dX10_sleeps_23 ml_RX10_136 ⟨_, rfl, by decide⟩ rfl (v_X10_in (d + 7)  q42) (Nat.le_of_ble_eq_true rfl) ?_
      refine e_if_ne 31 dX10_sleeps_26 (by decide) (fun c45 => ?_) (fun c45 => ?_)
      · rw [if_neg c45] at h
        refine e_bipush (v := (-2 : Int32)) dX10_sleeps_31 (by decide) ?_
        refine e_istore_n (L' := [(0, .ref a0), (1, .int i1), (2, .int i2), (3, .int (-2 : Int32))]) dX10_sleeps_33 rfl (by decide) rfl ?_
        refine e_iconst (v := (-1 : Int32)) dX10_sleeps_34 (by decide) ?_
        refine e_istore (L' := [(0, .ref a0), (1, .int i1), (2, .int i2), (3, .int (-2 : Int32)), (4, .int (-1 : Int32))]) dX10_sleeps_35  (by decide) rfl ?_
        refine e_aload_n 0 dX10_sleeps_37 rfl rfl ?_
        obtain ⟨σ47, q46, h⟩ := bv_some h
        refine s_callVv [] dX10_sleeps_38 ml_RX10_393 h_a0 rfl rfl (v_X10_keeps (d + 7) h_a0 q46) (Nat.le_of_ble_eq_true rfl) ?_
        refine e_aload_n 0 dX10_sleeps_41 rfl rfl ?_
        refine e_iload_n 1 dX10_sleeps_42 rfl rfl ?_
        obtain ⟨σ49, q48, h⟩ := bv_some h
        refine s_callVv [.int i1] dX10_sleeps_43 ml_RX10_396 h_a0 rfl rfl (v_X10_passesAll (d + 0) h_a0 q48) (Nat.le_of_ble_eq_true rfl) ?_
        refine e_iconst (v := (0 : Int32)) dX10_sleeps_46 (by decide) ?_
        refine e_istore (L' := [(0, .ref a0), (1, .int i1), (2, .int i2), (3, .int (-2 : Int32)), (4, .int (-1 : Int32)), (5, .int (0 : Int32))]) dX10_sleeps_47  (by decide) rfl ?_
        refine s_pick (L' := [(0, .ref a0), (2, .int i2), (3, .int (-2 : Int32)), (4, .int (-1 : Int32)), (5, .int (0 : Int32))]) [0, 2, 3, 4, 5] rfl ?_
        exact v_X10_sleeps_49 d h_a0 h
      · rw [if_pos c45] at h
        refine e_iconst (v := (-1 : Int32)) dX10_sleeps_29 (by decide) ?_
        obtain rfl := Option.some.inj h
        exact s_ret rfl ⟨_, rfl, rfl⟩ dX10_sleeps_30
