abbrev yy_X10_strangers : mm_Y := (yX10_strangers, cX10_strangers, 10, (some .int))
theorem dX10_strangers_0 : decode cX10_strangers 0 = .ok (.aload_n 0, 1) := by decide +kernel
theorem dX10_strangers_1 : decode cX10_strangers 1 = .ok (.invokevirtual 379, 3) := by decide +kernel
theorem dX10_strangers_4 : decode cX10_strangers 4 = .ok (.ifCond .eq 50, 3) := by decide +kernel
theorem dX10_strangers_7 : decode cX10_strangers 7 = .ok (.iload_n 1, 1) := by decide +kernel
theorem dX10_strangers_8 : decode cX10_strangers 8 = .ok (.i2l, 1) := by decide +kernel
theorem dX10_strangers_9 : decode cX10_strangers 9 = .ok (.lconst 1, 1) := by decide +kernel
theorem dX10_strangers_10 : decode cX10_strangers 10 = .ok (.ldc2_w 472, 3) := by decide +kernel
theorem dX10_strangers_13 : decode cX10_strangers 13 = .ok (.invokestatic 136, 3) := by decide +kernel
theorem dX10_strangers_16 : decode cX10_strangers 16 = .ok (.ifCond .eq 38, 3) := by decide +kernel
theorem dX10_strangers_19 : decode cX10_strangers 19 = .ok (.iload_n 2, 1) := by decide +kernel
theorem dX10_strangers_20 : decode cX10_strangers 20 = .ok (.i2l, 1) := by decide +kernel
theorem dX10_strangers_21 : decode cX10_strangers 21 = .ok (.lconst 1, 1) := by decide +kernel
theorem dX10_strangers_22 : decode cX10_strangers 22 = .ok (.ldc2_w 420, 3) := by decide +kernel
theorem dX10_strangers_25 : decode cX10_strangers 25 = .ok (.invokestatic 136, 3) := by decide +kernel
theorem dX10_strangers_28 : decode cX10_strangers 28 = .ok (.ifCond .eq 26, 3) := by decide +kernel
theorem dX10_strangers_31 : decode cX10_strangers 31 = .ok (.iload_n 3, 1) := by decide +kernel
theorem dX10_strangers_32 : decode cX10_strangers 32 = .ok (.i2l, 1) := by decide +kernel
theorem dX10_strangers_33 : decode cX10_strangers 33 = .ok (.lconst 0, 1) := by decide +kernel
theorem dX10_strangers_34 : decode cX10_strangers 34 = .ok (.ldc2_w 389, 3) := by decide +kernel
theorem dX10_strangers_37 : decode cX10_strangers 37 = .ok (.invokestatic 136, 3) := by decide +kernel
theorem dX10_strangers_40 : decode cX10_strangers 40 = .ok (.ifCond .eq 14, 3) := by decide +kernel
theorem dX10_strangers_43 : decode cX10_strangers 43 = .ok (.iload 4, 2) := by decide +kernel
theorem dX10_strangers_45 : decode cX10_strangers 45 = .ok (.i2l, 1) := by decide +kernel
theorem dX10_strangers_46 : decode cX10_strangers 46 = .ok (.lconst 0, 1) := by decide +kernel
theorem dX10_strangers_47 : decode cX10_strangers 47 = .ok (.lconst 1, 1) := by decide +kernel
theorem dX10_strangers_48 : decode cX10_strangers 48 = .ok (.invokestatic 136, 3) := by decide +kernel
theorem dX10_strangers_51 : decode cX10_strangers 51 = .ok (.ifCond .ne 5, 3) := by decide +kernel
theorem dX10_strangers_54 : decode cX10_strangers 54 = .ok (.iconst (-1), 1) := by decide +kernel
theorem dX10_strangers_55 : decode cX10_strangers 55 = .ok (.ireturn, 1) := by decide +kernel
theorem dX10_strangers_56 : decode cX10_strangers 56 = .ok (.aload_n 0, 1) := by decide +kernel
theorem dX10_strangers_57 : decode cX10_strangers 57 = .ok (.aload_n 0, 1) := by decide +kernel
theorem dX10_strangers_58 : decode cX10_strangers 58 = .ok (.getfield 457, 3) := by decide +kernel
theorem dX10_strangers_61 : decode cX10_strangers 61 = .ok (.i2l, 1) := by decide +kernel
theorem dX10_strangers_62 : decode cX10_strangers 62 = .ok (.putfield 460, 3) := by decide +kernel
theorem dX10_strangers_65 : decode cX10_strangers 65 = .ok (.iconst 0, 1) := by decide +kernel
theorem dX10_strangers_66 : decode cX10_strangers 66 = .ok (.istore 5, 2) := by decide +kernel
theorem dX10_strangers_68 : decode cX10_strangers 68 = .ok (.iconst 0, 1) := by decide +kernel
theorem dX10_strangers_69 : decode cX10_strangers 69 = .ok (.istore 6, 2) := by decide +kernel
theorem dX10_strangers_71 : decode cX10_strangers 71 = .ok (.aload_n 0, 1) := by decide +kernel
theorem dX10_strangers_72 : decode cX10_strangers 72 = .ok (.invokevirtual 425, 3) := by decide +kernel
theorem dX10_strangers_75 : decode cX10_strangers 75 = .ok (.istore 7, 2) := by decide +kernel
theorem dX10_strangers_77 : decode cX10_strangers 77 = .ok (.aload_n 0, 1) := by decide +kernel
theorem dX10_strangers_78 : decode cX10_strangers 78 = .ok (.invokevirtual 393, 3) := by decide +kernel
theorem dX10_strangers_81 : decode cX10_strangers 81 = .ok (.iconst 0, 1) := by decide +kernel
theorem dX10_strangers_82 : decode cX10_strangers 82 = .ok (.istore 8, 2) := by decide +kernel
theorem dX10_strangers_84 : decode cX10_strangers 84 = .ok (.iload 8, 2) := by decide +kernel
theorem dX10_strangers_86 : decode cX10_strangers 86 = .ok (.iload_n 1, 1) := by decide +kernel
theorem dX10_strangers_87 : decode cX10_strangers 87 = .ok (.if_icmp .ge 87, 3) := by decide +kernel
theorem dX10_strangers_90 : decode cX10_strangers 90 = .ok (.iconst 0, 1) := by decide +kernel
theorem dX10_strangers_91 : decode cX10_strangers 91 = .ok (.istore 9, 2) := by decide +kernel
theorem dX10_strangers_93 : decode cX10_strangers 93 = .ok (.iload 9, 2) := by decide +kernel
theorem dX10_strangers_95 : decode cX10_strangers 95 = .ok (.iload_n 2, 1) := by decide +kernel
theorem dX10_strangers_96 : decode cX10_strangers 96 = .ok (.if_icmp .ge 47, 3) := by decide +kernel
theorem dX10_strangers_99 : decode cX10_strangers 99 = .ok (.aload_n 0, 1) := by decide +kernel
theorem dX10_strangers_100 : decode cX10_strangers 100 = .ok (.bipush 100, 2) := by decide +kernel
theorem dX10_strangers_102 : decode cX10_strangers 102 = .ok (.invokevirtual 474, 3) := by decide +kernel
theorem dX10_strangers_105 : decode cX10_strangers 105 = .ok (.iload_n 3, 1) := by decide +kernel
theorem dX10_strangers_106 : decode cX10_strangers 106 = .ok (.if_icmp .ge 26, 3) := by decide +kernel
theorem dX10_strangers_109 : decode cX10_strangers 109 = .ok (.aload_n 0, 1) := by decide +kernel
theorem dX10_strangers_110 : decode cX10_strangers 110 = .ok (.getfield 39, 3) := by decide +kernel
theorem dX10_strangers_113 : decode cX10_strangers 113 = .ok (.iconst 3, 1) := by decide +kernel
theorem dX10_strangers_114 : decode cX10_strangers 114 = .ok (.iaload, 1) := by decide +kernel
theorem dX10_strangers_115 : decode cX10_strangers 115 = .ok (.ifCond .le 17, 3) := by decide +kernel
theorem dX10_strangers_118 : decode cX10_strangers 118 = .ok (.aload_n 0, 1) := by decide +kernel
theorem dX10_strangers_119 : decode cX10_strangers 119 = .ok (.aload_n 0, 1) := by decide +kernel
theorem dX10_strangers_120 : decode cX10_strangers 120 = .ok (.aload_n 0, 1) := by decide +kernel
theorem dX10_strangers_121 : decode cX10_strangers 121 = .ok (.getfield 39, 3) := by decide +kernel
theorem dX10_strangers_124 : decode cX10_strangers 124 = .ok (.iconst 3, 1) := by decide +kernel
theorem dX10_strangers_125 : decode cX10_strangers 125 = .ok (.iaload, 1) := by decide +kernel
theorem dX10_strangers_126 : decode cX10_strangers 126 = .ok (.invokevirtual 474, 3) := by decide +kernel
theorem dX10_strangers_129 : decode cX10_strangers 129 = .ok (.putfield 49, 3) := by decide +kernel
theorem dX10_strangers_132 : decode cX10_strangers 132 = .ok (.aload_n 0, 1) := by decide +kernel
theorem dX10_strangers_133 : decode cX10_strangers 133 = .ok (.invokevirtual 376, 3) := by decide +kernel
theorem dX10_strangers_136 : decode cX10_strangers 136 = .ok (.pop, 1) := by decide +kernel
theorem dX10_strangers_137 : decode cX10_strangers 137 = .ok (.iinc 9 1, 3) := by decide +kernel
theorem dX10_strangers_140 : decode cX10_strangers 140 = .ok (.goto (-47), 3) := by decide +kernel
theorem dX10_strangers_143 : decode cX10_strangers 143 = .ok (.iload 5, 2) := by decide +kernel
theorem dX10_strangers_145 : decode cX10_strangers 145 = .ok (.aload_n 0, 1) := by decide +kernel
theorem dX10_strangers_146 : decode cX10_strangers 146 = .ok (.invokevirtual 425, 3) := by decide +kernel
theorem dX10_strangers_149 : decode cX10_strangers 149 = .ok (.iload 7, 2) := by decide +kernel
theorem dX10_strangers_151 : decode cX10_strangers 151 = .ok (.isub, 1) := by decide +kernel
theorem dX10_strangers_152 : decode cX10_strangers 152 = .ok (.iadd, 1) := by decide +kernel
theorem dX10_strangers_153 : decode cX10_strangers 153 = .ok (.istore 5, 2) := by decide +kernel
theorem dX10_strangers_155 : decode cX10_strangers 155 = .ok (.iload 6, 2) := by decide +kernel
theorem dX10_strangers_157 : decode cX10_strangers 157 = .ok (.aload_n 0, 1) := by decide +kernel
theorem dX10_strangers_158 : decode cX10_strangers 158 = .ok (.invokevirtual 477, 3) := by decide +kernel
theorem dX10_strangers_161 : decode cX10_strangers 161 = .ok (.iadd, 1) := by decide +kernel
theorem dX10_strangers_162 : decode cX10_strangers 162 = .ok (.istore 6, 2) := by decide +kernel
theorem dX10_strangers_164 : decode cX10_strangers 164 = .ok (.aload_n 0, 1) := by decide +kernel
theorem dX10_strangers_165 : decode cX10_strangers 165 = .ok (.invokevirtual 399, 3) := by decide +kernel
theorem dX10_strangers_168 : decode cX10_strangers 168 = .ok (.iinc 8 1, 3) := by decide +kernel
theorem dX10_strangers_171 : decode cX10_strangers 171 = .ok (.goto (-87), 3) := by decide +kernel
theorem dX10_strangers_174 : decode cX10_strangers 174 = .ok (.iload 4, 2) := by decide +kernel
theorem dX10_strangers_176 : decode cX10_strangers 176 = .ok (.ifCond .ne 8, 3) := by decide +kernel
theorem dX10_strangers_179 : decode cX10_strangers 179 = .ok (.iload 5, 2) := by decide +kernel
theorem dX10_strangers_181 : decode cX10_strangers 181 = .ok (.goto 5, 3) := by decide +kernel
theorem dX10_strangers_184 : decode cX10_strangers 184 = .ok (.iload 6, 2) := by decide +kernel
theorem dX10_strangers_186 : decode cX10_strangers 186 = .ok (.ireturn, 1) := by decide +kernel
def f_X10_strangers_132 (k84 : (Int32 × Int32 × Int32) → mm_S → Option (Int32 × mm_S)) (k93 : (Int32) → mm_S → Option (Int32 × mm_S)) (a0 : Nat) (i1 : Int32) (i2 : Int32) (i3 : Int32) (i4 : Int32) (i5 : Int32) (i6 : Int32) (i7 : Int32) (i8 : Int32) (i9 : Int32) (σ : mm_S) : Option (Int32 × mm_S) :=
    bd (f_X10_passes a0 σ) fun r3 σ2 =>
    lt (i9 + Int32.ofInt (1)) fun x4 =>
    k93 x4 σ2
theorem v_X10_strangers_132 {g : mm_G} (d : Nat) {k84 : (Int32 × Int32 × Int32) → mm_S → Option (Int32 × mm_S)} {k93 : (Int32) → mm_S → Option (Int32 × mm_S)} {a0 : Nat} {i1 : Int32} {i2 : Int32} {i3 : Int32} {i4 : Int32} {i5 : Int32} {i6 : Int32} {i7 : Int32} {i8 : Int32} {i9 : Int32} {σ : mm_S} {res : Int32 × mm_S} (H84 : ∀ v σ, k84 v σ = some res → SV g (d + 7) yy_X10_strangers 84 [(0, .ref a0), (1, .int i1), (2, .int i2), (3, .int i3), (4, .int i4), (5, .int v.1), (6, .int v.2.1), (7, .int i7), (8, .int v.2.2)] [] σ (.int res.1) res.2) (H93 : ∀ v σ, k93 v σ = some res → SV g (d + 7) yy_X10_strangers 93 [(0, .ref a0), (1, .int i1), (2, .int i2), (3, .int i3), (4, .int i4), (5, .int i5), (6, .int i6), (7, .int i7), (8, .int i8), (9, .int v)] [] σ (.int res.1) res.2) (h_a0 : (mm_K a0).1 = 10) (h : f_X10_strangers_132 k84 k93 a0 i1 i2 i3 i4 i5 i6 i7 i8 i9 σ = some res) : SV g (d + 7) yy_X10_strangers 132 [(0, .ref a0), (1, .int i1), (2, .int i2), (3, .int i3), (4, .int i4), (5, .int i5), (6, .int i6), (7, .int i7), (8, .int i8), (9, .int i9)] [] σ (.int res.1) res.2 := by
  unfold f_X10_strangers_132 at h
  refine e_aload_n 0 dX10_strangers_132 rfl rfl ?_
  obtain ⟨r3, σ2, q1, h⟩ := bd_some h
  refine s_callVi [] dX10_strangers_133 ml_RX10_376 h_a0 ⟨_, rfl, by decide⟩ rfl (v_X10_passes (d + 0) h_a0 q1) (Nat.le_of_ble_eq_true rfl) ?_
  refine e_pop dX10_strangers_136 rfl ?_
  obtain ⟨x4, q5, h⟩ := lt_some h
  refine e_iinc (v := x4) (L' := [(0, .ref a0), (1, .int i1), (2, .int i2), (3, .int i3), (4, .int i4), (5, .int i5), (6, .int i6), (7, .int i7), (8, .int i8), (9, .int x4)]) 9 dX10_strangers_137 rfl q5.symm (by decide) rfl ?_
  refine e_goto 93 dX10_strangers_140 (by decide) ?_
  refine s_pick (L' := [(0, .ref a0), (1, .int i1), (2, .int i2), (3, .int i3), (4, .int i4), (5, .int i5), (6, .int i6), (7, .int i7), (8, .int i8), (9, .int x4)]) [0, 1, 2, 3, 4, 5, 6, 7, 8, 9] rfl ?_
  exact H93 x4 σ2 h
def f_X10_strangers_93 (k84 : (Int32 × Int32 × Int32) → mm_S → Option (Int32 × mm_S)) (a0 : Nat) (i1 : Int32) (i2 : Int32) (i3 : Int32) (i4 : Int32) (i5 : Int32) (i6 : Int32) (i7 : Int32) (i8 : Int32) (i9 : Int32) (σ : mm_S) : Option (Int32 × mm_S) :=
  lp lpN (fun (k93 : (Int32) → mm_S → Option (Int32 × mm_S)) (v : Int32) (σ : mm_S) =>
    if i2 ≤ v then
      bd (f_X10_sleptAll a0 σ) fun r9 σ8 =>
      lt ((i5 + (r9 - i7))) fun x10 =>
      bd (f_X10_tiredAll a0 σ8) fun r14 σ13 =>
      lt ((i6 + r14)) fun x15 =>
      bv (f_X10_laysBack a0 σ13) fun σ18 =>
      lt (i8 + Int32.ofInt (1)) fun x19 =>
      k84 (x10, x15, x19) σ18
    else
      bd (f_X10_draw a0 (100 : Int32) σ) fun r23 σ22 =>
      if i3 ≤ r23 then
        f_X10_strangers_132 k84 k93 a0 i1 i2 i3 i4 i5 i6 i7 i8 v σ22
      else
        gd (3 : Int32) 121 <|
        if (σ22.1 224 (3 : Int32).toNatClampNeg) ≤ 0 then
          f_X10_strangers_132 k84 k93 a0 i1 i2 i3 i4 i5 i6 i7 i8 v σ22
        else
          gd (3 : Int32) 121 <|
          bd (f_X10_draw a0 (σ22.1 224 (3 : Int32).toNatClampNeg) σ22) fun r30 σ29 =>
          lt (su_i σ29 a0 24 r30) fun σ31 =>
          f_X10_strangers_132 k84 k93 a0 i1 i2 i3 i4 i5 i6 i7 i8 v σ31) i9 σ
theorem v_X10_strangers_93 {g : mm_G} (d : Nat) {k84 : (Int32 × Int32 × Int32) → mm_S → Option (Int32 × mm_S)} {a0 : Nat} {i1 : Int32} {i2 : Int32} {i3 : Int32} {i4 : Int32} {i5 : Int32} {i6 : Int32} {i7 : Int32} {i8 : Int32} {i9 : Int32} {σ : mm_S} {res : Int32 × mm_S} (H84 : ∀ v σ, k84 v σ = some res → SV g (d + 7) yy_X10_strangers 84 [(0, .ref a0), (1, .int i1), (2, .int i2), (3, .int i3), (4, .int i4), (5, .int v.1), (6, .int v.2.1), (7, .int i7), (8, .int v.2.2)] [] σ (.int res.1) res.2) (h_a0 : (mm_K a0).1 = 10) (h : f_X10_strangers_93 k84 a0 i1 i2 i3 i4 i5 i6 i7 i8 i9 σ = some res) : SV g (d + 7) yy_X10_strangers 93 [(0, .ref a0), (1, .int i1), (2, .int i2), (3, .int i3), (4, .int i4), (5, .int i5), (6, .int i6), (7, .int i7), (8, .int i8), (9, .int i9)] [] σ (.int res.1) res.2 := by
  unfold f_X10_strangers_93 at h
  refine lp_ind (P := fun v σ => SV g (d + 7) yy_X10_strangers 93 [(0, .ref a0), (1, .int i1), (2, .int i2), (3, .int i3), (4, .int i4), (5, .int i5), (6, .int i6), (7, .int i7), (8, .int i8), (9, .int v)] [] σ (.int res.1) res.2) (fun k93 H93 v σ h => ?_) _ i9 σ h
  refine e_iload 9 dX10_strangers_93  rfl ?_
  refine e_iload_n 2 dX10_strangers_95 rfl rfl ?_
  refine e_icmp_ge 143 dX10_strangers_96 (by decide) (fun c6 => ?_) (fun c6 => ?_)
  · rw [if_pos c6] at h
    refine e_iload 5 dX10_strangers_143  rfl ?_
    refine e_aload_n 0 dX10_strangers_145 rfl rfl ?_
    obtain ⟨r9, σ8, q7, h⟩ := bd_some h
    refine s_callVi [] dX10_strangers_146 ml_RX10_425 h_a0 ⟨_, rfl, by decide⟩ rfl (v_X10_sleptAll (d + 5) h_a0 q7) (Nat.le_of_ble_eq_true rfl) ?_
    refine e_iload 7 dX10_strangers_149  rfl ?_
    refine e_isub dX10_strangers_151 ?_
    refine e_iadd dX10_strangers_152 ?_
    obtain ⟨x10, q11, h⟩ := lt_some h
    refine s_nmi q11 ?_
    refine e_istore (L' := [(0, .ref a0), (1, .int i1), (2, .int i2), (3, .int i3), (4, .int i4), (5, .int x10), (6, .int i6), (7, .int i7), (8, .int i8), (9, .int v)]) dX10_strangers_153  (by decide) rfl ?_
    refine e_iload 6 dX10_strangers_155  rfl ?_
    refine e_aload_n 0 dX10_strangers_157 rfl rfl ?_
    obtain ⟨r14, σ13, q12, h⟩ := bd_some h
    refine s_callVi [] dX10_strangers_158 ml_RX10_477 h_a0 ⟨_, rfl, by decide⟩ rfl (v_X10_tiredAll (d + 5) h_a0 q12) (Nat.le_of_ble_eq_true rfl) ?_
    refine e_iadd dX10_strangers_161 ?_
    obtain ⟨x15, q16, h⟩ := lt_some h
    refine s_nmi q16 ?_
    refine e_istore (L' := [(0, .ref a0), (1, .int i1), (2, .int i2), (3, .int i3), (4, .int i4), (5, .int x10), (6, .int x15), (7, .int i7), (8, .int i8), (9, .int v)]) dX10_strangers_162  (by decide) rfl ?_
    refine e_aload_n 0 dX10_strangers_164 rfl rfl ?_
    obtain ⟨σ18, q17, h⟩ := bv_some h
    refine s_callVv [] dX10_strangers_165 ml_RX10_399 h_a0 rfl rfl (v_X10_laysBack (d + 6) h_a0 q17) (Nat.le_of_ble_eq_true rfl) ?_
    obtain ⟨x19, q20, h⟩ := lt_some h
    refine e_iinc (v := x19) (L' := [(0, .ref a0), (1, .int i1), (2, .int i2), (3, .int i3), (4, .int i4), (5, .int x10), (6, .int x15), (7, .int i7), (8, .int x19), (9, .int v)]) 8 dX10_strangers_168 rfl q20.symm (by decide) rfl ?_
    refine e_goto 84 dX10_strangers_171 (by decide) ?_
    refine s_pick (L' := [(0, .ref a0), (1, .int i1), (2, .int i2), (3, .int i3), (4, .int i4), (5, .int x10), (6, .int x15), (7, .int i7), (8, .int x19)]) [0, 1, 2, 3, 4, 5, 6, 7, 8] rfl ?_
    exact H84 (x10, x15, x19) σ18 h
  · rw [if_neg c6] at h
    refine e_aload_n 0 dX10_strangers_99 rfl rfl ?_
    refine e_bipush (v := (100 : Int32)) dX10_strangers_100 (by decide) ?_
    obtain ⟨r23, σ22, q21, h⟩ := bd_some h
    refine s_callVi [.int (100 : Int32)] dX10_strangers_102 ml_RX10_474 h_a0 ⟨_, rfl, by decide⟩ rfl (v_X10_draw (d + 6) h_a0 q21) (Nat.le_of_ble_eq_true rfl) ?_
    refine e_iload_n 3 dX10_strangers_105 rfl rfl ?_
    refine e_icmp_ge 132 dX10_strangers_106 (by decide) (fun c24 => ?_) (fun c24 => ?_)
    · rw [if_pos c24] at h
      refine s_pick (L' := [(0, .ref a0), (1, .int i1), (2, .int i2), (3, .int i3), (4, .int i4), (5, .int i5), (6, .int i6), (7, .int i7), (8, .int i8), (9, .int v)]) [0, 1, 2, 3, 4, 5, 6, 7, 8, 9] rfl ?_
      exact v_X10_strangers_132 d H84 H93 h_a0 h
    · rw [if_neg c24] at h
      refine e_aload_n 0 dX10_strangers_109 rfl rfl ?_
      refine s_getr dX10_strangers_110 fl_RX10_39 h_a0 (r_10_20 h_a0).1 ?_
      refine e_iconst (v := (3 : Int32)) dX10_strangers_113 (by decide) ?_
      obtain ⟨q25, h⟩ := gd_some h
      refine s_iald dX10_strangers_114 (r_10_20 (w := 0) h_a0).2 q25 ?_
      refine e_if_le 132 dX10_strangers_115 (by decide) (fun c26 => ?_) (fun c26 => ?_)
      · rw [if_pos c26] at h
        refine s_pick (L' := [(0, .ref a0), (1, .int i1), (2, .int i2), (3, .int i3), (4, .int i4), (5, .int i5), (6, .int i6), (7, .int i7), (8, .int i8), (9, .int v)]) [0, 1, 2, 3, 4, 5, 6, 7, 8, 9] rfl ?_
        exact v_X10_strangers_132 d H84 H93 h_a0 h
      · rw [if_neg c26] at h
        refine e_aload_n 0 dX10_strangers_118 rfl rfl ?_
        refine e_aload_n 0 dX10_strangers_119 rfl rfl ?_
        refine e_aload_n 0 dX10_strangers_120 rfl rfl ?_
        refine s_getr dX10_strangers_121 fl_RX10_39 h_a0 (r_10_20 h_a0).1 ?_
        refine e_iconst (v := (3 : Int32)) dX10_strangers_124 (by decide) ?_
        obtain ⟨q27, h⟩ := gd_some h
        refine s_iald dX10_strangers_125 (r_10_20 (w := 0) h_a0).2 q27 ?_
        obtain ⟨r30, σ29, q28, h⟩ := bd_some h
        refine s_callVi [.int (σ22.1 224 (3 : Int32).toNatClampNeg)] dX10_strangers_126 ml_RX10_474 h_a0 ⟨_, rfl, by decide⟩ rfl (v_X10_draw (d + 6) h_a0 q28) (Nat.le_of_ble_eq_true rfl) ?_
        refine s_puti dX10_strangers_129 fl_RX10_49 h_a0 rfl rfl rfl ?_
        obtain ⟨σ31, q32, h⟩ := lt_some h
        refine s_nms q32 ?_
        refine s_pick (L' := [(0, .ref a0), (1, .int i1), (2, .int i2), (3, .int i3), (4, .int i4), (5, .int i5), (6, .int i6), (7, .int i7), (8, .int i8), (9, .int v)]) [0, 1, 2, 3, 4, 5, 6, 7, 8, 9] rfl ?_
        exact v_X10_strangers_132 d H84 H93 h_a0 h
def f_X10_strangers_84 (a0 : Nat) (i1 : Int32) (i2 : Int32) (i3 : Int32) (i4 : Int32) (i5 : Int32) (i6 : Int32) (i7 : Int32) (i8 : Int32) (σ : mm_S) : Option (Int32 × mm_S) :=
  lp lpN (fun (k84 : (Int32 × Int32 × Int32) → mm_S → Option (Int32 × mm_S)) (v : Int32 × Int32 × Int32) (σ : mm_S) =>
    if i1 ≤ v.2.2 then
      if i4 = 0 then
        some (v.1, σ)
      else
        some (v.2.1, σ)
    else
      f_X10_strangers_93 k84 a0 i1 i2 i3 i4 v.1 v.2.1 i7 v.2.2 (0 : Int32) σ) (i5, i6, i8) σ
theorem v_X10_strangers_84 {g : mm_G} (d : Nat) {a0 : Nat} {i1 : Int32} {i2 : Int32} {i3 : Int32} {i4 : Int32} {i5 : Int32} {i6 : Int32} {i7 : Int32} {i8 : Int32} {σ : mm_S} {res : Int32 × mm_S}  (h_a0 : (mm_K a0).1 = 10) (h : f_X10_strangers_84 a0 i1 i2 i3 i4 i5 i6 i7 i8 σ = some res) : SV g (d + 7) yy_X10_strangers 84 [(0, .ref a0), (1, .int i1), (2, .int i2), (3, .int i3), (4, .int i4), (5, .int i5), (6, .int i6), (7, .int i7), (8, .int i8)] [] σ (.int res.1) res.2 := by
  unfold f_X10_strangers_84 at h
  refine lp_ind (P := fun v σ => SV g (d + 7) yy_X10_strangers 84 [(0, .ref a0), (1, .int i1), (2, .int i2), (3, .int i3), (4, .int i4), (5, .int v.1), (6, .int v.2.1), (7, .int i7), (8, .int v.2.2)] [] σ (.int res.1) res.2) (fun k84 H84 v σ h => ?_) _ (i5, i6, i8) σ h
  refine e_iload 8 dX10_strangers_84  rfl ?_
  refine e_iload_n 1 dX10_strangers_86 rfl rfl ?_
  refine e_icmp_ge 174 dX10_strangers_87 (by decide) (fun c33 => ?_) (fun c33 => ?_)
  · rw [if_pos c33] at h
    refine e_iload 4 dX10_strangers_174  rfl ?_
    refine e_if_ne 184 dX10_strangers_176 (by decide) (fun c34 => ?_) (fun c34 => ?_)
    · rw [if_neg c34] at h
      refine e_iload 6 dX10_strangers_184  rfl ?_
      obtain rfl := Option.some.inj h
      exact s_ret rfl ⟨_, rfl, rfl⟩ dX10_strangers_186
    · rw [if_pos c34] at h
      refine e_iload 5 dX10_strangers_179  rfl ?_
      refine e_goto 186 dX10_strangers_181 (by decide) ?_
      obtain rfl := Option.some.inj h
      exact s_ret rfl ⟨_, rfl, rfl⟩ dX10_strangers_186
  · rw [if_neg c33] at h
    refine e_iconst (v := (0 : Int32)) dX10_strangers_90 (by decide) ?_
    refine e_istore (L' := [(0, .ref a0), (1, .int i1), (2, .int i2), (3, .int i3), (4, .int i4), (5, .int v.1), (6, .int v.2.1), (7, .int i7), (8, .int v.2.2), (9, .int (0 : Int32))]) dX10_strangers_91  (by decide) rfl ?_
    refine s_pick (L' := [(0, .ref a0), (1, .int i1), (2, .int i2), (3, .int i3), (4, .int i4), (5, .int v.1), (6, .int v.2.1), (7, .int i7), (8, .int v.2.2), (9, .int (0 : Int32))]) [0, 1, 2, 3, 4, 5, 6, 7, 8, 9] rfl ?_
    exact v_X10_strangers_93 d H84 h_a0 h
def f_X10_strangers (a0 : Nat) (i1 : Int32) (i2 : Int32) (i3 : Int32) (i4 : Int32) (σ : mm_S) : Option (Int32 × mm_S) :=
    bd (f_X10_isHouse a0 σ) fun r64 σ63 =>
    if r64 = 0 then
      some ((-1 : Int32), σ63)
    else
      bd (f_X10_in (i1 : Int32).toInt64 (1 : Int64) (10 : Int64) σ63) fun r68 σ67 =>
      if r68 = 0 then
        some ((-1 : Int32), σ67)
      else
        bd (f_X10_in (i2 : Int32).toInt64 (1 : Int64) (60 : Int64) σ67) fun r72 σ71 =>
        if r72 = 0 then
          some ((-1 : Int32), σ71)
        else
          bd (f_X10_in (i3 : Int32).toInt64 (0 : Int64) (100 : Int64) σ71) fun r76 σ75 =>
          if r76 = 0 then
            some ((-1 : Int32), σ75)
          else
            bd (f_X10_in (i4 : Int32).toInt64 (0 : Int64) (1 : Int64) σ75) fun r80 σ79 =>
            if r80 = 0 then
              some ((-1 : Int32), σ79)
            else
              lt (su_j σ79 a0 41 ((σ79.1 a0 22) : Int32).toInt64) fun σ82 =>
              bd (f_X10_sleptAll a0 σ82) fun r86 σ85 =>
              bv (f_X10_keeps a0 σ85) fun σ88 =>
              f_X10_strangers_84 a0 i1 i2 i3 i4 (0 : Int32) (0 : Int32) r86 (0 : Int32) σ88
theorem v_X10_strangers {g : mm_G} (d : Nat) {a0 : Nat} {i1 : Int32} {i2 : Int32} {i3 : Int32} {i4 : Int32} {σ : mm_S} {res : Int32 × mm_S} (h_a0 : (mm_K a0).1 = 10) (h : f_X10_strangers a0 i1 i2 i3 i4 σ = some res) : SM g (d + 7) yy_X10_strangers [.ref a0, .int i1, .int i2, .int i3, .int i4] σ (.int res.1) res.2 := by
  refine s_of (by decide) (Nat.le_of_ble_eq_true rfl) (L := [(0, .ref a0), (1, .int i1), (2, .int i2), (3, .int i3), (4, .int i4)]) rfl ?_
  unfold f_X10_strangers at h
  refine e_aload_n 0 dX10_strangers_0 rfl rfl ?_
  obtain ⟨r64, σ63, q62, h⟩ := bd_some h
  refine s_callVi [] dX10_strangers_1 ml_RX10_379 h_a0 ⟨_, rfl, by decide⟩ rfl (v_X10_isHouse (d + 6) h_a0 q62) (Nat.le_of_ble_eq_true rfl) ?_
  refine e_if_eq 54 dX10_strangers_4 (by decide) (fun c65 => ?_) (fun c65 => ?_)
  · rw [if_pos c65] at h
    refine e_iconst (v := (-1 : Int32)) dX10_strangers_54 (by decide) ?_
    obtain rfl := Option.some.inj h
    exact s_ret rfl ⟨_, rfl, rfl⟩ dX10_strangers_55
  · rw [if_neg c65] at h
    refine e_iload_n 1 dX10_strangers_7 rfl rfl ?_
    refine e_i2l dX10_strangers_8 ?_
    refine e_lconst (v := (1 : Int64)) dX10_strangers_9 (by decide) ?_
    refine e_ldc2 dX10_strangers_10 co_RX10_472 ?_
    obtain ⟨r68, σ67, q66, h⟩ := bd_some h
    refine s_callSi [.long (i1 : Int32).toInt64, .long (1 : Int64), .long (10 : Int64)] dX10_strangers_13 ml_RX10_136 ⟨_, rfl, by decide⟩ rfl (v_X10_in (d + 6)  q66) (Nat.le_of_ble_eq_true rfl) ?_
    refine e_if_eq 54 dX10_strangers_16 (by decide) (fun c69 => ?_) (fun c69 => ?_)
    · rw [if_pos c69] at h
      refine e_iconst (v := (-1 : Int32)) dX10_strangers_54 (by decide) ?_
      obtain rfl := Option.some.inj h
      exact s_ret rfl ⟨_, rfl, rfl⟩ dX10_strangers_55
    · rw [if_neg c69] at h
      refine e_iload_n 2 dX10_strangers_19 rfl rfl ?_
      refine e_i2l dX10_strangers_20 ?_
      refine e_lconst (v := (1 : Int64)) dX10_strangers_21 (by decide) ?_
      refine e_ldc2 dX10_strangers_22 co_RX10_420 ?_
      obtain ⟨r72, σ71, q70, h⟩ := bd_some h
      refine s_callSi [.long (i2 : Int32).toInt64, .long (1 : Int64), .long (60 : Int64)] dX10_strangers_25 ml_RX10_136 ⟨_, rfl, by decide⟩ rfl (v_X10_in (d + 6)  q70) (Nat.le_of_ble_eq_true rfl) ?_
      refine e_if_eq 54 dX10_strangers_28 (by decide) (fun c73 => ?_) (fun c73 => ?_)
      · rw [if_pos c73] at h
        refine e_iconst (v := (-1 : Int32)) dX10_strangers_54 (by decide) ?_
        obtain rfl := Option.some.inj h
        exact s_ret rfl ⟨_, rfl, rfl⟩ dX10_strangers_55
      · rw [if_neg c73] at h
        refine e_iload_n 3 dX10_strangers_31 rfl rfl ?_
        refine e_i2l dX10_strangers_32 ?_
        refine e_lconst (v := (0 : Int64)) dX10_strangers_33 (by decide) ?_
        refine e_ldc2 dX10_strangers_34 co_RX10_389 ?_
        obtain ⟨r76, σ75, q74, h⟩ := bd_some h
        refine s_callSi [.long (i3 : Int32).toInt64, .long (0 : Int64), .long (100 : Int64)] dX10_strangers_37 ml_RX10_136 ⟨_, rfl, by decide⟩ rfl (v_X10_in (d + 6)  q74) (Nat.le_of_ble_eq_true rfl) ?_
        refine e_if_eq 54 dX10_strangers_40 (by decide) (fun c77 => ?_) (fun c77 => ?_)
        · rw [if_pos c77] at h
          refine e_iconst (v := (-1 : Int32)) dX10_strangers_54 (by decide) ?_
          obtain rfl := Option.some.inj h
          exact s_ret rfl ⟨_, rfl, rfl⟩ dX10_strangers_55
        · rw [if_neg c77] at h
          refine e_iload 4 dX10_strangers_43  rfl ?_
          refine e_i2l dX10_strangers_45 ?_
          refine e_lconst (v := (0 : Int64)) dX10_strangers_46 (by decide) ?_
          refine e_lconst (v := (1 : Int64)) dX10_strangers_47 (by decide) ?_
          obtain ⟨r80, σ79, q78, h⟩ := bd_some h
          refine s_callSi [.long (i4 : Int32).toInt64, .long (0 : Int64), .long (1 : Int64)] dX10_strangers_48 ml_RX10_136 ⟨_, rfl, by decide⟩ rfl (v_X10_in (d + 6)  q78) (Nat.le_of_ble_eq_true rfl) ?_
          refine e_if_ne 56 dX10_strangers_51 (by decide) (fun c81 => ?_) (fun c81 => ?_)
          · rw [if_neg c81] at h
            refine e_aload_n 0 dX10_strangers_56 rfl rfl ?_
            refine e_aload_n 0 dX10_strangers_57 rfl rfl ?_
            refine s_geti dX10_strangers_58 fl_RX10_457 h_a0 ?_
            refine e_i2l dX10_strangers_61 ?_
            refine s_putj dX10_strangers_62 fl_RX10_460 h_a0 rfl rfl ?_
            obtain ⟨σ82, q83, h⟩ := lt_some h
            refine s_nms q83 ?_
            refine e_iconst (v := (0 : Int32)) dX10_strangers_65 (by decide) ?_
            refine e_istore (L' := [(0, .ref a0), (1, .int i1), (2, .int i2), (3, .int i3), (4, .int i4), (5, .int (0 : Int32))]) dX10_strangers_66  (by decide) rfl ?_
            refine e_iconst (v := (0 : Int32)) dX10_strangers_68 (by decide) ?_
            refine e_istore (L' := [(0, .ref a0), (1, .int i1), (2, .int i2), (3, .int i3), (4, .int i4), (5, .int (0 : Int32)), (6, .int (0 : Int32))]) dX10_strangers_69  (by decide) rfl ?_
            refine e_aload_n 0 dX10_strangers_71 rfl rfl ?_
            obtain ⟨r86, σ85, q84, h⟩ := bd_some h
            refine s_callVi [] dX10_strangers_72 ml_RX10_425 h_a0 ⟨_, rfl, by decide⟩ rfl (v_X10_sleptAll (d + 5) h_a0 q84) (Nat.le_of_ble_eq_true rfl) ?_
            refine e_istore (L' := [(0, .ref a0), (1, .int i1), (2, .int i2), (3, .int i3), (4, .int i4), (5, .int (0 : Int32)), (6, .int (0 : Int32)), (7, .int r86)]) dX10_strangers_75  (by decide) rfl ?_
            refine e_aload_n 0 dX10_strangers_77 rfl rfl ?_
            obtain ⟨σ88, q87, h⟩ := bv_some h
            refine s_callVv [] dX10_strangers_78 ml_RX10_393 h_a0 rfl rfl (v_X10_keeps (d + 6) h_a0 q87) (Nat.le_of_ble_eq_true rfl) ?_
            refine e_iconst (v := (0 : Int32)) dX10_strangers_81 (by decide) ?_
            refine e_istore (L' := [(0, .ref a0), (1, .int i1), (2, .int i2), (3, .int i3), (4, .int i4), (5, .int (0 : Int32)), (6, .int (0 : Int32)), (7, .int r86), (8, .int (0 : Int32))]) dX10_strangers_82  (by decide) rfl ?_
            refine s_pick (L' := [(0, .ref a0), (1, .int i1), (2, .int i2), (3, .int i3), (4, .int i4), (5, .int (0 : Int32)), (6, .int (0 : Int32)), (7, .int r86), (8, .int (0 : Int32))]) [0, 1, 2, 3, 4, 5, 6, 7, 8] rfl ?_
            exact v_X10_strangers_84 d h_a0 h
          · rw [if_pos c81] at h
            refine e_iconst (v := (-1 : Int32)) dX10_strangers_54 (by decide) ?_
            obtain rfl := Option.some.inj h
            exact s_ret rfl ⟨_, rfl, rfl⟩ dX10_strangers_55
abbrev yy_X10_count : mm_Y := (yX10_count, cX10_count, 2, (some .int))
theorem dX10_count_0 : decode cX10_count 0 = .ok (.iload_n 1, 1) := by decide +kernel
theorem dX10_count_1 : decode cX10_count 1 = .ok (.tableswitch 149 0 13 #[71, 71, 71, 80, 85, 90, 98, 103, 116, 121, 126, 134, 139, 144], 71) := by decide +kernel
theorem dX10_count_72 : decode cX10_count 72 = .ok (.aload_n 0, 1) := by decide +kernel
theorem dX10_count_73 : decode cX10_count 73 = .ok (.getfield 39, 3) := by decide +kernel
theorem dX10_count_76 : decode cX10_count 76 = .ok (.iload_n 1, 1) := by decide +kernel
theorem dX10_count_77 : decode cX10_count 77 = .ok (.iconst 1, 1) := by decide +kernel
theorem dX10_count_78 : decode cX10_count 78 = .ok (.iadd, 1) := by decide +kernel
theorem dX10_count_79 : decode cX10_count 79 = .ok (.iaload, 1) := by decide +kernel
theorem dX10_count_80 : decode cX10_count 80 = .ok (.ireturn, 1) := by decide +kernel
theorem dX10_count_81 : decode cX10_count 81 = .ok (.aload_n 0, 1) := by decide +kernel
theorem dX10_count_82 : decode cX10_count 82 = .ok (.getfield 275, 3) := by decide +kernel
theorem dX10_count_85 : decode cX10_count 85 = .ok (.ireturn, 1) := by decide +kernel
theorem dX10_count_86 : decode cX10_count 86 = .ok (.aload_n 0, 1) := by decide +kernel
theorem dX10_count_87 : decode cX10_count 87 = .ok (.getfield 42, 3) := by decide +kernel
theorem dX10_count_90 : decode cX10_count 90 = .ok (.ireturn, 1) := by decide +kernel
theorem dX10_count_91 : decode cX10_count 91 = .ok (.aload_n 0, 1) := by decide +kernel
theorem dX10_count_92 : decode cX10_count 92 = .ok (.getfield 39, 3) := by decide +kernel
theorem dX10_count_95 : decode cX10_count 95 = .ok (.bipush 10, 2) := by decide +kernel
theorem dX10_count_97 : decode cX10_count 97 = .ok (.iaload, 1) := by decide +kernel
theorem dX10_count_98 : decode cX10_count 98 = .ok (.ireturn, 1) := by decide +kernel
theorem dX10_count_99 : decode cX10_count 99 = .ok (.aload_n 0, 1) := by decide +kernel
theorem dX10_count_100 : decode cX10_count 100 = .ok (.invokevirtual 335, 3) := by decide +kernel
theorem dX10_count_103 : decode cX10_count 103 = .ok (.ireturn, 1) := by decide +kernel
theorem dX10_count_104 : decode cX10_count 104 = .ok (.aload_n 0, 1) := by decide +kernel
theorem dX10_count_105 : decode cX10_count 105 = .ok (.invokevirtual 355, 3) := by decide +kernel
theorem dX10_count_108 : decode cX10_count 108 = .ok (.ifCond .eq 7, 3) := by decide +kernel
theorem dX10_count_111 : decode cX10_count 111 = .ok (.iconst 1, 1) := by decide +kernel
theorem dX10_count_112 : decode cX10_count 112 = .ok (.goto 4, 3) := by decide +kernel
theorem dX10_count_115 : decode cX10_count 115 = .ok (.iconst 0, 1) := by decide +kernel
theorem dX10_count_116 : decode cX10_count 116 = .ok (.ireturn, 1) := by decide +kernel
theorem dX10_count_117 : decode cX10_count 117 = .ok (.aload_n 0, 1) := by decide +kernel
theorem dX10_count_118 : decode cX10_count 118 = .ok (.invokevirtual 477, 3) := by decide +kernel
theorem dX10_count_121 : decode cX10_count 121 = .ok (.ireturn, 1) := by decide +kernel
theorem dX10_count_122 : decode cX10_count 122 = .ok (.aload_n 0, 1) := by decide +kernel
theorem dX10_count_123 : decode cX10_count 123 = .ok (.invokevirtual 425, 3) := by decide +kernel
theorem dX10_count_126 : decode cX10_count 126 = .ok (.ireturn, 1) := by decide +kernel
theorem dX10_count_127 : decode cX10_count 127 = .ok (.aload_n 0, 1) := by decide +kernel
theorem dX10_count_128 : decode cX10_count 128 = .ok (.getfield 39, 3) := by decide +kernel
theorem dX10_count_131 : decode cX10_count 131 = .ok (.bipush 120, 2) := by decide +kernel
theorem dX10_count_133 : decode cX10_count 133 = .ok (.iaload, 1) := by decide +kernel
theorem dX10_count_134 : decode cX10_count 134 = .ok (.ireturn, 1) := by decide +kernel
theorem dX10_count_135 : decode cX10_count 135 = .ok (.aload_n 0, 1) := by decide +kernel
theorem dX10_count_136 : decode cX10_count 136 = .ok (.getfield 284, 3) := by decide +kernel
theorem dX10_count_139 : decode cX10_count 139 = .ok (.ireturn, 1) := by decide +kernel
theorem dX10_count_140 : decode cX10_count 140 = .ok (.aload_n 0, 1) := by decide +kernel
theorem dX10_count_141 : decode cX10_count 141 = .ok (.getfield 457, 3) := by decide +kernel
theorem dX10_count_144 : decode cX10_count 144 = .ok (.ireturn, 1) := by decide +kernel
theorem dX10_count_145 : decode cX10_count 145 = .ok (.aload_n 0, 1) := by decide +kernel
theorem dX10_count_146 : decode cX10_count 146 = .ok (.getfield 98, 3) := by decide +kernel
theorem dX10_count_149 : decode cX10_count 149 = .ok (.ireturn, 1) := by decide +kernel
theorem dX10_count_150 : decode cX10_count 150 = .ok (.iconst (-1), 1) := by decide +kernel
theorem dX10_count_151 : decode cX10_count 151 = .ok (.ireturn, 1) := by decide +kernel
def f_X10_count (a0 : Nat) (i1 : Int32) (σ : mm_S) : Option (Int32 × mm_S) :=
    if i1 = 0 then
      gd (i1 + (1 : Int32)) 121 <|
      some ((σ.1 224 (i1 + (1 : Int32)).toNatClampNeg), σ)
    else
    if i1 = 1 then
      gd (i1 + (1 : Int32)) 121 <|
      some ((σ.1 224 (i1 + (1 : Int32)).toNatClampNeg), σ)
    else
    if i1 = 2 then
      gd (i1 + (1 : Int32)) 121 <|
      some ((σ.1 224 (i1 + (1 : Int32)).toNatClampNeg), σ)
    else
    if i1 = 3 then
      some ((σ.1 a0 2), σ)
    else
    if i1 = 4 then
      some ((σ.1 a0 21), σ)
    else
    if i1 = 5 then
      gd (10 : Int32) 121 <|
      some ((σ.1 224 (10 : Int32).toNatClampNeg), σ)
    else
    if i1 = 6 then
      bd (f_X10_inside a0 σ) fun r46 σ45 =>
      some (r46, σ45)
    else
    if i1 = 7 then
      bd (f_X10_isCounted a0 σ) fun r50 σ49 =>
      if r50 = 0 then
        some ((0 : Int32), σ49)
      else
        some ((1 : Int32), σ49)
    else
    if i1 = 8 then
      bd (f_X10_tiredAll a0 σ) fun r55 σ54 =>
      some (r55, σ54)
    else
    if i1 = 9 then
      bd (f_X10_sleptAll a0 σ) fun r59 σ58 =>
      some (r59, σ58)
    else
    if i1 = 10 then
      gd (120 : Int32) 121 <|
      some ((σ.1 224 (120 : Int32).toNatClampNeg), σ)
    else
    if i1 = 11 then
      some ((σ.1 a0 31), σ)
    else
    if i1 = 12 then
      some ((σ.1 a0 22), σ)
    else
    if i1 = 13 then
      some ((σ.1 a0 1), σ)
    else
    some ((-1 : Int32), σ)
theorem v_X10_count {g : mm_G} (d : Nat) {a0 : Nat} {i1 : Int32} {σ : mm_S} {res : Int32 × mm_S} (h_a0 : (mm_K a0).1 = 10) (h : f_X10_count a0 i1 σ = some res) : SM g (d + 2) yy_X10_count [.ref a0, .int i1] σ (.int res.1) res.2 := by
  refine s_of (by decide) (Nat.le_of_ble_eq_true rfl) (L := [(0, .ref a0), (1, .int i1)]) rfl ?_
  unfold f_X10_count at h
  refine e_iload_n 1 dX10_count_0 rfl rfl ?_
  by_cases c33 : i1 = 0
  · rw [if_pos c33] at h
    refine s_eqi c33 ?_
    refine e_tabIn 72 dX10_count_1 (by decide) (by decide) rfl (by decide) ?_
    refine e_aload_n 0 dX10_count_72 rfl rfl ?_
    refine s_getr dX10_count_73 fl_RX10_39 h_a0 (r_10_20 h_a0).1 ?_
    refine e_iload_n 1 dX10_count_76 rfl rfl ?_
    refine e_iconst (v := (1 : Int32)) dX10_count_77 (by decide) ?_
    refine e_iadd dX10_count_78 ?_
    obtain ⟨q34, h⟩ := gd_some h
    refine s_iald dX10_count_79 (r_10_20 (w := 0) h_a0).2 q34 ?_
    obtain rfl := Option.some.inj h
    exact s_ret rfl ⟨_, rfl, rfl⟩ dX10_count_80
  rw [if_neg c33] at h
  by_cases c35 : i1 = 1
  · rw [if_pos c35] at h
    refine s_eqi c35 ?_
    refine e_tabIn 72 dX10_count_1 (by decide) (by decide) rfl (by decide) ?_
    refine e_aload_n 0 dX10_count_72 rfl rfl ?_
    refine s_getr dX10_count_73 fl_RX10_39 h_a0 (r_10_20 h_a0).1 ?_
    refine e_iload_n 1 dX10_count_76 rfl rfl ?_
    refine e_iconst (v := (1 : Int32)) dX10_count_77 (by decide) ?_
    refine e_iadd dX10_count_78 ?_
    obtain ⟨q36, h⟩ := gd_some h
    refine s_iald dX10_count_79 (r_10_20 (w := 0) h_a0).2 q36 ?_
    obtain rfl := Option.some.inj h
    exact s_ret rfl ⟨_, rfl, rfl⟩ dX10_count_80
  rw [if_neg c35] at h
  by_cases c37 : i1 = 2
  · rw [if_pos c37] at h
    refine s_eqi c37 ?_
    refine e_tabIn 72 dX10_count_1 (by decide) (by decide) rfl (by decide) ?_
    refine e_aload_n 0 dX10_count_72 rfl rfl ?_
    refine s_getr dX10_count_73 fl_RX10_39 h_a0 (r_10_20 h_a0).1 ?_
    refine e_iload_n 1 dX10_count_76 rfl rfl ?_
    refine e_iconst (v := (1 : Int32)) dX10_count_77 (by decide) ?_
    refine e_iadd dX10_count_78 ?_
    obtain ⟨q38, h⟩ := gd_some h
    refine s_iald dX10_count_79 (r_10_20 (w := 0) h_a0).2 q38 ?_
    obtain rfl := Option.some.inj h
    exact s_ret rfl ⟨_, rfl, rfl⟩ dX10_count_80
  rw [if_neg c37] at h
  by_cases c39 : i1 = 3
  · rw [if_pos c39] at h
    refine s_eqi c39 ?_
    refine e_tabIn 81 dX10_count_1 (by decide) (by decide) rfl (by decide) ?_
    refine e_aload_n 0 dX10_count_81 rfl rfl ?_
    refine s_geti dX10_count_82 fl_RX10_275 h_a0 ?_
    obtain rfl := Option.some.inj h
    exact s_ret rfl ⟨_, rfl, rfl⟩ dX10_count_85
  rw [if_neg c39] at h
  by_cases c40 : i1 = 4
  · rw [if_pos c40] at h
    refine s_eqi c40 ?_
    refine e_tabIn 86 dX10_count_1 (by decide) (by decide) rfl (by decide) ?_
    refine e_aload_n 0 dX10_count_86 rfl rfl ?_
    refine s_geti dX10_count_87 fl_RX10_42 h_a0 ?_
    obtain rfl := Option.some.inj h
    exact s_ret rfl ⟨_, rfl, rfl⟩ dX10_count_90
  rw [if_neg c40] at h
  by_cases c41 : i1 = 5
  · rw [if_pos c41] at h
    refine s_eqi c41 ?_
    refine e_tabIn 91 dX10_count_1 (by decide) (by decide) rfl (by decide) ?_
    refine e_aload_n 0 dX10_count_91 rfl rfl ?_
    refine s_getr dX10_count_92 fl_RX10_39 h_a0 (r_10_20 h_a0).1 ?_
    refine e_bipush (v := (10 : Int32)) dX10_count_95 (by decide) ?_
    obtain ⟨q42, h⟩ := gd_some h
    refine s_iald dX10_count_97 (r_10_20 (w := 0) h_a0).2 q42 ?_
    obtain rfl := Option.some.inj h
    exact s_ret rfl ⟨_, rfl, rfl⟩ dX10_count_98
  rw [if_neg c41] at h
  by_cases c43 : i1 = 6
  · rw [if_pos c43] at h
    refine s_eqi c43 ?_
    refine e_tabIn 99 dX10_count_1 (by decide) (by decide) rfl (by decide) ?_
    refine e_aload_n 0 dX10_count_99 rfl rfl ?_
    obtain ⟨r46, σ45, q44, h⟩ := bd_some h
    refine s_callVi [] dX10_count_100 ml_RX10_335 h_a0 ⟨_, rfl, by decide⟩ rfl (v_X10_inside (d + 0) h_a0 q44) (Nat.le_of_ble_eq_true rfl) ?_
    obtain rfl := Option.some.inj h
    exact s_ret rfl ⟨_, rfl, rfl⟩ dX10_count_103
  rw [if_neg c43] at h
  by_cases c47 : i1 = 7
  · rw [if_pos c47] at h
    refine s_eqi c47 ?_
    refine e_tabIn 104 dX10_count_1 (by decide) (by decide) rfl (by decide) ?_
    refine e_aload_n 0 dX10_count_104 rfl rfl ?_
    obtain ⟨r50, σ49, q48, h⟩ := bd_some h
    refine s_callVi [] dX10_count_105 ml_RX10_355 h_a0 ⟨_, rfl, by decide⟩ rfl (v_X10_isCounted (d + 0) h_a0 q48) (Nat.le_of_ble_eq_true rfl) ?_
    refine e_if_eq 115 dX10_count_108 (by decide) (fun c51 => ?_) (fun c51 => ?_)
    · rw [if_pos c51] at h
      refine e_iconst (v := (0 : Int32)) dX10_count_115 (by decide) ?_
      obtain rfl := Option.some.inj h
      exact s_ret rfl ⟨_, rfl, rfl⟩ dX10_count_116
    · rw [if_neg c51] at h
      refine e_iconst (v := (1 : Int32)) dX10_count_111 (by decide) ?_
      refine e_goto 116 dX10_count_112 (by decide) ?_
      obtain rfl := Option.some.inj h
      exact s_ret rfl ⟨_, rfl, rfl⟩ dX10_count_116
  rw [if_neg c47] at h
  by_cases c52 : i1 = 8
  · rw [if_pos c52] at h
    refine s_eqi c52 ?_
    refine e_tabIn 117 dX10_count_1 (by decide) (by decide) rfl (by decide) ?_
    refine e_aload_n 0 dX10_count_117 rfl rfl ?_
    obtain ⟨r55, σ54, q53, h⟩ := bd_some h
    refine s_callVi [] dX10_count_118 ml_RX10_477 h_a0 ⟨_, rfl, by decide⟩ rfl (v_X10_tiredAll (d + 0) h_a0 q53) (Nat.le_of_ble_eq_true rfl) ?_
    obtain rfl := Option.some.inj h
    exact s_ret rfl ⟨_, rfl, rfl⟩ dX10_count_121
  rw [if_neg c52] at h
  by_cases c56 : i1 = 9
  · rw [if_pos c56] at h
    refine s_eqi c56 ?_
    refine e_tabIn 122 dX10_count_1 (by decide) (by decide) rfl (by decide) ?_
    refine e_aload_n 0 dX10_count_122 rfl rfl ?_
    obtain ⟨r59, σ58, q57, h⟩ := bd_some h
    refine s_callVi [] dX10_count_123 ml_RX10_425 h_a0 ⟨_, rfl, by decide⟩ rfl (v_X10_sleptAll (d + 0) h_a0 q57) (Nat.le_of_ble_eq_true rfl) ?_
    obtain rfl := Option.some.inj h
    exact s_ret rfl ⟨_, rfl, rfl⟩ dX10_count_126
  rw [if_neg c56] at h
  by_cases c60 : i1 = 10
  · rw [if_pos c60] at h
    refine s_eqi c60 ?_
    refine e_tabIn 127 dX10_count_1 (by decide) (by decide) rfl (by decide) ?_
    refine e_aload_n 0 dX10_count_127 rfl rfl ?_
    refine s_getr dX10_count_128 fl_RX10_39 h_a0 (r_10_20 h_a0).1 ?_
    refine e_bipush (v := (120 : Int32)) dX10_count_131 (by decide) ?_
    obtain ⟨q61, h⟩ := gd_some h
    refine s_iald dX10_count_133 (r_10_20 (w := 0) h_a0).2 q61 ?_
    obtain rfl := Option.some.inj h
    exact s_ret rfl ⟨_, rfl, rfl⟩ dX10_count_134
  rw [if_neg c60] at h
  by_cases c62 : i1 = 11
  · rw [if_pos c62] at h
    refine s_eqi c62 ?_
    refine e_tabIn 135 dX10_count_1 (by decide) (by decide) rfl (by decide) ?_
    refine e_aload_n 0 dX10_count_135 rfl rfl ?_
    refine s_geti dX10_count_136 fl_RX10_284 h_a0 ?_
    obtain rfl := Option.some.inj h
    exact s_ret rfl ⟨_, rfl, rfl⟩ dX10_count_139
  rw [if_neg c62] at h
  by_cases c63 : i1 = 12
  · rw [if_pos c63] at h
    refine s_eqi c63 ?_
    refine e_tabIn 140 dX10_count_1 (by decide) (by decide) rfl (by decide) ?_
    refine e_aload_n 0 dX10_count_140 rfl rfl ?_
    refine s_geti dX10_count_141 fl_RX10_457 h_a0 ?_
    obtain rfl := Option.some.inj h
    exact s_ret rfl ⟨_, rfl, rfl⟩ dX10_count_144
  rw [if_neg c63] at h
  by_cases c64 : i1 = 13
  · rw [if_pos c64] at h
    refine s_eqi c64 ?_
    refine e_tabIn 145 dX10_count_1 (by decide) (by decide) rfl (by decide) ?_
    refine e_aload_n 0 dX10_count_145 rfl rfl ?_
    refine s_geti dX10_count_146 fl_RX10_98 h_a0 ?_
    obtain rfl := Option.some.inj h
    exact s_ret rfl ⟨_, rfl, rfl⟩ dX10_count_149
  rw [if_neg c64] at h
  have c33' := lv_neT (a := 0) c33 rfl
  have c35' := lv_neT (a := 1) c35 rfl
  have c37' := lv_neT (a := 2) c37 rfl
  have c39' := lv_neT (a := 3) c39 rfl
  have c40' := lv_neT (a := 4) c40 rfl
  have c41' := lv_neT (a := 5) c41 rfl
  have c43' := lv_neT (a := 6) c43 rfl
  have c47' := lv_neT (a := 7) c47 rfl
  have c52' := lv_neT (a := 8) c52 rfl
  have c56' := lv_neT (a := 9) c56 rfl
  have c60' := lv_neT (a := 10) c60 rfl
  have c62' := lv_neT (a := 11) c62 rfl
  have c63' := lv_neT (a := 12) c63 rfl
  have c64' := lv_neT (a := 13) c64 rfl
  refine e_tabOut 150 dX10_count_1 (by omega) (by decide) ?_
  refine e_iconst (v := (-1 : Int32)) dX10_count_150 (by decide) ?_
  obtain rfl := Option.some.inj h
  exact s_ret rfl ⟨_, rfl, rfl⟩ dX10_count_151
abbrev yy_X10_image : mm_Y := (yX10_image, cX10_image, 3, (some .int))
theorem dX10_image_0 : decode cX10_image 0 = .ok (.iload_n 1, 1) := by decide +kernel
theorem dX10_image_1 : decode cX10_image 1 = .ok (.i2l, 1) := by decide +kernel
theorem dX10_image_2 : decode cX10_image 2 = .ok (.lconst 0, 1) := by decide +kernel
theorem dX10_image_3 : decode cX10_image 3 = .ok (.ldc2_w 480, 3) := by decide +kernel
theorem dX10_image_6 : decode cX10_image 6 = .ok (.invokestatic 136, 3) := by decide +kernel
theorem dX10_image_9 : decode cX10_image 9 = .ok (.ifCond .ne 5, 3) := by decide +kernel
theorem dX10_image_12 : decode cX10_image 12 = .ok (.iconst (-1), 1) := by decide +kernel
theorem dX10_image_13 : decode cX10_image 13 = .ok (.ireturn, 1) := by decide +kernel
theorem dX10_image_14 : decode cX10_image 14 = .ok (.aload_n 0, 1) := by decide +kernel
theorem dX10_image_15 : decode cX10_image 15 = .ok (.getfield 95, 3) := by decide +kernel
theorem dX10_image_18 : decode cX10_image 18 = .ok (.iload_n 1, 1) := by decide +kernel
theorem dX10_image_19 : decode cX10_image 19 = .ok (.iconst 1, 1) := by decide +kernel
theorem dX10_image_20 : decode cX10_image 20 = .ok (.bastore, 1) := by decide +kernel
theorem dX10_image_21 : decode cX10_image 21 = .ok (.aload_n 0, 1) := by decide +kernel
theorem dX10_image_22 : decode cX10_image 22 = .ok (.getfield 89, 3) := by decide +kernel
theorem dX10_image_25 : decode cX10_image 25 = .ok (.iload_n 1, 1) := by decide +kernel
theorem dX10_image_26 : decode cX10_image 26 = .ok (.aload_n 0, 1) := by decide +kernel
theorem dX10_image_27 : decode cX10_image 27 = .ok (.getfield 42, 3) := by decide +kernel
theorem dX10_image_30 : decode cX10_image 30 = .ok (.iastore, 1) := by decide +kernel
theorem dX10_image_31 : decode cX10_image 31 = .ok (.aload_n 0, 1) := by decide +kernel
theorem dX10_image_32 : decode cX10_image 32 = .ok (.getfield 92, 3) := by decide +kernel
theorem dX10_image_35 : decode cX10_image 35 = .ok (.iload_n 1, 1) := by decide +kernel
theorem dX10_image_36 : decode cX10_image 36 = .ok (.aload_n 0, 1) := by decide +kernel
theorem dX10_image_37 : decode cX10_image 37 = .ok (.getfield 457, 3) := by decide +kernel
theorem dX10_image_40 : decode cX10_image 40 = .ok (.iastore, 1) := by decide +kernel
theorem dX10_image_41 : decode cX10_image 41 = .ok (.iconst 0, 1) := by decide +kernel
theorem dX10_image_42 : decode cX10_image 42 = .ok (.istore_n 2, 1) := by decide +kernel
theorem dX10_image_43 : decode cX10_image 43 = .ok (.iload_n 2, 1) := by decide +kernel
theorem dX10_image_44 : decode cX10_image 44 = .ok (.bipush 121, 2) := by decide +kernel
theorem dX10_image_46 : decode cX10_image 46 = .ok (.if_icmp .ge 26, 3) := by decide +kernel
theorem dX10_image_49 : decode cX10_image 49 = .ok (.aload_n 0, 1) := by decide +kernel
theorem dX10_image_50 : decode cX10_image 50 = .ok (.getfield 86, 3) := by decide +kernel
theorem dX10_image_53 : decode cX10_image 53 = .ok (.bipush 121, 2) := by decide +kernel
theorem dX10_image_55 : decode cX10_image 55 = .ok (.iload_n 1, 1) := by decide +kernel
theorem dX10_image_56 : decode cX10_image 56 = .ok (.imul, 1) := by decide +kernel
theorem dX10_image_57 : decode cX10_image 57 = .ok (.iload_n 2, 1) := by decide +kernel
theorem dX10_image_58 : decode cX10_image 58 = .ok (.iadd, 1) := by decide +kernel
theorem dX10_image_59 : decode cX10_image 59 = .ok (.aload_n 0, 1) := by decide +kernel
theorem dX10_image_60 : decode cX10_image 60 = .ok (.getfield 39, 3) := by decide +kernel
theorem dX10_image_63 : decode cX10_image 63 = .ok (.iload_n 2, 1) := by decide +kernel
theorem dX10_image_64 : decode cX10_image 64 = .ok (.iaload, 1) := by decide +kernel
theorem dX10_image_65 : decode cX10_image 65 = .ok (.iastore, 1) := by decide +kernel
theorem dX10_image_66 : decode cX10_image 66 = .ok (.iinc 2 1, 3) := by decide +kernel
theorem dX10_image_69 : decode cX10_image 69 = .ok (.goto (-26), 3) := by decide +kernel
theorem dX10_image_72 : decode cX10_image 72 = .ok (.aload_n 0, 1) := by decide +kernel
theorem dX10_image_73 : decode cX10_image 73 = .ok (.getfield 39, 3) := by decide +kernel
theorem dX10_image_76 : decode cX10_image 76 = .ok (.bipush 10, 2) := by decide +kernel
theorem dX10_image_78 : decode cX10_image 78 = .ok (.iaload, 1) := by decide +kernel
theorem dX10_image_79 : decode cX10_image 79 = .ok (.ireturn, 1) := by decide +kernel
def f_X10_image_43 (a0 : Nat) (i1 : Int32) (i2 : Int32) (σ : mm_S) : Option (Int32 × mm_S) :=
  lp lpN (fun (k43 : (Int32) → mm_S → Option (Int32 × mm_S)) (v : Int32) (σ : mm_S) =>
    if (121 : Int32) ≤ v then
      gd (10 : Int32) 121 <|
      some ((σ.1 224 (10 : Int32).toNatClampNeg), σ)
    else
      gd v 121 <|
      gd (((121 : Int32) * i1) + v) 484 <|
      lt (su_i σ 236 (((121 : Int32) * i1) + v).toNatClampNeg (σ.1 224 v.toNatClampNeg)) fun σ5 =>
      lt (v + Int32.ofInt (1)) fun x7 =>
      k43 x7 σ5) i2 σ
theorem v_X10_image_43 {g : mm_G} (d : Nat) {a0 : Nat} {i1 : Int32} {i2 : Int32} {σ : mm_S} {res : Int32 × mm_S}  (h_a0 : (mm_K a0).1 = 10) (h : f_X10_image_43 a0 i1 i2 σ = some res) : SV g (d + 1) yy_X10_image 43 [(0, .ref a0), (1, .int i1), (2, .int i2)] [] σ (.int res.1) res.2 := by
  unfold f_X10_image_43 at h
  refine lp_ind (P := fun v σ => SV g (d + 1) yy_X10_image 43 [(0, .ref a0), (1, .int i1), (2, .int v)] [] σ (.int res.1) res.2) (fun k43 H43 v σ h => ?_) _ i2 σ h
  refine e_iload_n 2 dX10_image_43 rfl rfl ?_
  refine e_bipush (v := (121 : Int32)) dX10_image_44 (by decide) ?_
  refine e_icmp_ge 72 dX10_image_46 (by decide) (fun c1 => ?_) (fun c1 => ?_)
  · rw [if_pos c1] at h
    refine e_aload_n 0 dX10_image_72 rfl rfl ?_
    refine s_getr dX10_image_73 fl_RX10_39 h_a0 (r_10_20 h_a0).1 ?_
    refine e_bipush (v := (10 : Int32)) dX10_image_76 (by decide) ?_
    obtain ⟨q2, h⟩ := gd_some h
    refine s_iald dX10_image_78 (r_10_20 (w := 0) h_a0).2 q2 ?_
    obtain rfl := Option.some.inj h
    exact s_ret rfl ⟨_, rfl, rfl⟩ dX10_image_79
  · rw [if_neg c1] at h
    refine e_aload_n 0 dX10_image_49 rfl rfl ?_
    refine s_getr dX10_image_50 fl_RX10_86 h_a0 (r_10_42 h_a0).1 ?_
    refine e_bipush (v := (121 : Int32)) dX10_image_53 (by decide) ?_
    refine e_iload_n 1 dX10_image_55 rfl rfl ?_
    refine e_imul dX10_image_56 ?_
    refine e_iload_n 2 dX10_image_57 rfl rfl ?_
    refine e_iadd dX10_image_58 ?_
    refine e_aload_n 0 dX10_image_59 rfl rfl ?_
    refine s_getr dX10_image_60 fl_RX10_39 h_a0 (r_10_20 h_a0).1 ?_
    refine e_iload_n 2 dX10_image_63 rfl rfl ?_
    obtain ⟨q3, h⟩ := gd_some h
    refine s_iald dX10_image_64 (r_10_20 (w := 0) h_a0).2 q3 ?_
    obtain ⟨q4, h⟩ := gd_some h
    refine s_iast dX10_image_65 (r_10_42 (w := 0) h_a0).2 q4 ?_
    obtain ⟨σ5, q6, h⟩ := lt_some h
    refine s_nms q6 ?_
    obtain ⟨x7, q8, h⟩ := lt_some h
    refine e_iinc (v := x7) (L' := [(0, .ref a0), (1, .int i1), (2, .int x7)]) 2 dX10_image_66 rfl q8.symm (by decide) rfl ?_
    refine e_goto 43 dX10_image_69 (by decide) ?_
    refine s_pick (L' := [(0, .ref a0), (1, .int i1), (2, .int x7)]) [0, 1, 2] rfl ?_
    exact H43 x7 σ5 h
def f_X10_image (a0 : Nat) (i1 : Int32) (σ : mm_S) : Option (Int32 × mm_S) :=
    bd (f_X10_in (i1 : Int32).toInt64 (0 : Int64) (3 : Int64) σ) fun r24 σ23 =>
    if r24 = 0 then
      some ((-1 : Int32), σ23)
    else
      gd i1 4 <|
      lt (su_i σ23 239 i1.toNatClampNeg (vp_nar .boolean (1 : Int32))) fun σ27 =>
      gd i1 4 <|
      lt (su_i σ27 237 i1.toNatClampNeg (σ27.1 a0 21)) fun σ30 =>
      gd i1 4 <|
      lt (su_i σ30 238 i1.toNatClampNeg (σ30.1 a0 22)) fun σ33 =>
      f_X10_image_43 a0 i1 (0 : Int32) σ33
theorem v_X10_image {g : mm_G} (d : Nat) {a0 : Nat} {i1 : Int32} {σ : mm_S} {res : Int32 × mm_S} (h_a0 : (mm_K a0).1 = 10) (h : f_X10_image a0 i1 σ = some res) : SM g (d + 1) yy_X10_image [.ref a0, .int i1] σ (.int res.1) res.2 := by
  refine s_of (by decide) (Nat.le_of_ble_eq_true rfl) (L := [(0, .ref a0), (1, .int i1)]) rfl ?_
  unfold f_X10_image at h
  refine e_iload_n 1 dX10_image_0 rfl rfl ?_
  refine e_i2l dX10_image_1 ?_
  refine e_lconst (v := (0 : Int64)) dX10_image_2 (by decide) ?_
  refine e_ldc2 dX10_image_3 co_RX10_480 ?_
  obtain ⟨r24, σ23, q22, h⟩ := bd_some h
  refine s_callSi [.long (i1 : Int32).toInt64, .long (0 : Int64), .long (3 : Int64)] dX10_image_6 ml_RX10_136 ⟨_, rfl, by decide⟩ rfl (v_X10_in (d + 0)  q22) (Nat.le_of_ble_eq_true rfl) ?_
  refine e_if_ne 14 dX10_image_9 (by decide) (fun c25 => ?_) (fun c25 => ?_)
  · rw [if_neg c25] at h
    refine e_aload_n 0 dX10_image_14 rfl rfl ?_
    refine s_getr dX10_image_15 fl_RX10_95 h_a0 (r_10_45 h_a0).1 ?_
    refine e_iload_n 1 dX10_image_18 rfl rfl ?_
    refine e_iconst (v := (1 : Int32)) dX10_image_19 (by decide) ?_
    obtain ⟨q26, h⟩ := gd_some h
    refine s_zast dX10_image_20 (r_10_45 (w := 0) h_a0).2 q26 ?_
    obtain ⟨σ27, q28, h⟩ := lt_some h
    refine s_nms q28 ?_
    refine e_aload_n 0 dX10_image_21 rfl rfl ?_
    refine s_getr dX10_image_22 fl_RX10_89 h_a0 (r_10_43 h_a0).1 ?_
    refine e_iload_n 1 dX10_image_25 rfl rfl ?_
    refine e_aload_n 0 dX10_image_26 rfl rfl ?_
    refine s_geti dX10_image_27 fl_RX10_42 h_a0 ?_
    obtain ⟨q29, h⟩ := gd_some h
    refine s_iast dX10_image_30 (r_10_43 (w := 0) h_a0).2 q29 ?_
    obtain ⟨σ30, q31, h⟩ := lt_some h
    refine s_nms q31 ?_
    refine e_aload_n 0 dX10_image_31 rfl rfl ?_
    refine s_getr dX10_image_32 fl_RX10_92 h_a0 (r_10_44 h_a0).1 ?_
    refine e_iload_n 1 dX10_image_35 rfl rfl ?_
    refine e_aload_n 0 dX10_image_36 rfl rfl ?_
    refine s_geti dX10_image_37 fl_RX10_457 h_a0 ?_
    obtain ⟨q32, h⟩ := gd_some h
    refine s_iast dX10_image_40 (r_10_44 (w := 0) h_a0).2 q32 ?_
    obtain ⟨σ33, q34, h⟩ := lt_some h
    refine s_nms q34 ?_
    refine e_iconst (v := (0 : Int32)) dX10_image_41 (by decide) ?_
    refine e_istore_n (L' := [(0, .ref a0), (1, .int i1), (2, .int (0 : Int32))]) dX10_image_42 rfl (by decide) rfl ?_
    refine s_pick (L' := [(0, .ref a0), (1, .int i1), (2, .int (0 : Int32))]) [0, 1, 2] rfl ?_
    exact v_X10_image_43 d h_a0 h
  · rw [if_pos c25] at h
    refine e_iconst (v := (-1 : Int32)) dX10_image_12 (by decide) ?_
    obtain rfl := Option.some.inj h
    exact s_ret rfl ⟨_, rfl, rfl⟩ dX10_image_13
