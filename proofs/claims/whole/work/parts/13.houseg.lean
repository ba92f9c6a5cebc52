abbrev yy_X9_pennies : mm_Y := (yX9_pennies, cX9_pennies, 10, (some .int))
theorem dX9_pennies_0 : decode cX9_pennies 0 = .ok (.aload_n 0, 1) := by decide +kernel
theorem dX9_pennies_1 : decode cX9_pennies 1 = .ok (.iload_n 2, 1) := by decide +kernel
theorem dX9_pennies_2 : decode cX9_pennies 2 = .ok (.invokevirtual 138, 3) := by decide +kernel
theorem dX9_pennies_5 : decode cX9_pennies 5 = .ok (.ifCond .eq 14, 3) := by decide +kernel
theorem dX9_pennies_8 : decode cX9_pennies 8 = .ok (.iload_n 1, 1) := by decide +kernel
theorem dX9_pennies_9 : decode cX9_pennies 9 = .ok (.ifCond .lt 10, 3) := by decide +kernel
theorem dX9_pennies_12 : decode cX9_pennies 12 = .ok (.iload_n 1, 1) := by decide +kernel
theorem dX9_pennies_13 : decode cX9_pennies 13 = .ok (.sipush 9999, 3) := by decide +kernel
theorem dX9_pennies_16 : decode cX9_pennies 16 = .ok (.if_icmp .le 5, 3) := by decide +kernel
theorem dX9_pennies_19 : decode cX9_pennies 19 = .ok (.iconst (-1), 1) := by decide +kernel
theorem dX9_pennies_20 : decode cX9_pennies 20 = .ok (.ireturn, 1) := by decide +kernel
theorem dX9_pennies_21 : decode cX9_pennies 21 = .ok (.aload_n 0, 1) := by decide +kernel
theorem dX9_pennies_22 : decode cX9_pennies 22 = .ok (.getfield 50, 3) := by decide +kernel
theorem dX9_pennies_25 : decode cX9_pennies 25 = .ok (.getfield 107, 3) := by decide +kernel
theorem dX9_pennies_28 : decode cX9_pennies 28 = .ok (.getfield 154, 3) := by decide +kernel
theorem dX9_pennies_31 : decode cX9_pennies 31 = .ok (.astore_n 3, 1) := by decide +kernel
theorem dX9_pennies_32 : decode cX9_pennies 32 = .ok (.aload_n 3, 1) := by decide +kernel
theorem dX9_pennies_33 : decode cX9_pennies 33 = .ok (.invokestatic 180, 3) := by decide +kernel
theorem dX9_pennies_36 : decode cX9_pennies 36 = .ok (.istore 4, 2) := by decide +kernel
theorem dX9_pennies_38 : decode cX9_pennies 38 = .ok (.iload 4, 2) := by decide +kernel
theorem dX9_pennies_40 : decode cX9_pennies 40 = .ok (.ifCond .gt 5, 3) := by decide +kernel
theorem dX9_pennies_43 : decode cX9_pennies 43 = .ok (.iconst 0, 1) := by decide +kernel
theorem dX9_pennies_44 : decode cX9_pennies 44 = .ok (.ireturn, 1) := by decide +kernel
theorem dX9_pennies_45 : decode cX9_pennies 45 = .ok (.iload_n 1, 1) := by decide +kernel
theorem dX9_pennies_46 : decode cX9_pennies 46 = .ok (.istore 5, 2) := by decide +kernel
theorem dX9_pennies_48 : decode cX9_pennies 48 = .ok (.iconst 0, 1) := by decide +kernel
theorem dX9_pennies_49 : decode cX9_pennies 49 = .ok (.istore 6, 2) := by decide +kernel
theorem dX9_pennies_51 : decode cX9_pennies 51 = .ok (.iload_n 1, 1) := by decide +kernel
theorem dX9_pennies_52 : decode cX9_pennies 52 = .ok (.aload_n 3, 1) := by decide +kernel
theorem dX9_pennies_53 : decode cX9_pennies 53 = .ok (.iload_n 2, 1) := by decide +kernel
theorem dX9_pennies_54 : decode cX9_pennies 54 = .ok (.iaload, 1) := by decide +kernel
theorem dX9_pennies_55 : decode cX9_pennies 55 = .ok (.imul, 1) := by decide +kernel
theorem dX9_pennies_56 : decode cX9_pennies 56 = .ok (.iload 4, 2) := by decide +kernel
theorem dX9_pennies_58 : decode cX9_pennies 58 = .ok (.irem, 1) := by decide +kernel
theorem dX9_pennies_59 : decode cX9_pennies 59 = .ok (.istore 7, 2) := by decide +kernel
theorem dX9_pennies_61 : decode cX9_pennies 61 = .ok (.iconst 0, 1) := by decide +kernel
theorem dX9_pennies_62 : decode cX9_pennies 62 = .ok (.istore 8, 2) := by decide +kernel
theorem dX9_pennies_64 : decode cX9_pennies 64 = .ok (.iload 8, 2) := by decide +kernel
theorem dX9_pennies_66 : decode cX9_pennies 66 = .ok (.aload_n 0, 1) := by decide +kernel
theorem dX9_pennies_67 : decode cX9_pennies 67 = .ok (.getfield 50, 3) := by decide +kernel
theorem dX9_pennies_70 : decode cX9_pennies 70 = .ok (.getfield 71, 3) := by decide +kernel
theorem dX9_pennies_73 : decode cX9_pennies 73 = .ok (.getfield 128, 3) := by decide +kernel
theorem dX9_pennies_76 : decode cX9_pennies 76 = .ok (.if_icmp .ge 57, 3) := by decide +kernel
theorem dX9_pennies_79 : decode cX9_pennies 79 = .ok (.iload 5, 2) := by decide +kernel
theorem dX9_pennies_81 : decode cX9_pennies 81 = .ok (.iload_n 1, 1) := by decide +kernel
theorem dX9_pennies_82 : decode cX9_pennies 82 = .ok (.aload_n 3, 1) := by decide +kernel
theorem dX9_pennies_83 : decode cX9_pennies 83 = .ok (.iload 8, 2) := by decide +kernel
theorem dX9_pennies_85 : decode cX9_pennies 85 = .ok (.iaload, 1) := by decide +kernel
theorem dX9_pennies_86 : decode cX9_pennies 86 = .ok (.imul, 1) := by decide +kernel
theorem dX9_pennies_87 : decode cX9_pennies 87 = .ok (.iload 4, 2) := by decide +kernel
theorem dX9_pennies_89 : decode cX9_pennies 89 = .ok (.idiv, 1) := by decide +kernel
theorem dX9_pennies_90 : decode cX9_pennies 90 = .ok (.isub, 1) := by decide +kernel
theorem dX9_pennies_91 : decode cX9_pennies 91 = .ok (.istore 5, 2) := by decide +kernel
theorem dX9_pennies_93 : decode cX9_pennies 93 = .ok (.iload_n 1, 1) := by decide +kernel
theorem dX9_pennies_94 : decode cX9_pennies 94 = .ok (.aload_n 3, 1) := by decide +kernel
theorem dX9_pennies_95 : decode cX9_pennies 95 = .ok (.iload 8, 2) := by decide +kernel
theorem dX9_pennies_97 : decode cX9_pennies 97 = .ok (.iaload, 1) := by decide +kernel
theorem dX9_pennies_98 : decode cX9_pennies 98 = .ok (.imul, 1) := by decide +kernel
theorem dX9_pennies_99 : decode cX9_pennies 99 = .ok (.iload 4, 2) := by decide +kernel
theorem dX9_pennies_101 : decode cX9_pennies 101 = .ok (.irem, 1) := by decide +kernel
theorem dX9_pennies_102 : decode cX9_pennies 102 = .ok (.istore 9, 2) := by decide +kernel
theorem dX9_pennies_104 : decode cX9_pennies 104 = .ok (.iload 9, 2) := by decide +kernel
theorem dX9_pennies_106 : decode cX9_pennies 106 = .ok (.iload 7, 2) := by decide +kernel
theorem dX9_pennies_108 : decode cX9_pennies 108 = .ok (.if_icmp .gt 16, 3) := by decide +kernel
theorem dX9_pennies_111 : decode cX9_pennies 111 = .ok (.iload 9, 2) := by decide +kernel
theorem dX9_pennies_113 : decode cX9_pennies 113 = .ok (.iload 7, 2) := by decide +kernel
theorem dX9_pennies_115 : decode cX9_pennies 115 = .ok (.if_icmp .ne 12, 3) := by decide +kernel
theorem dX9_pennies_118 : decode cX9_pennies 118 = .ok (.iload 8, 2) := by decide +kernel
theorem dX9_pennies_120 : decode cX9_pennies 120 = .ok (.iload_n 2, 1) := by decide +kernel
theorem dX9_pennies_121 : decode cX9_pennies 121 = .ok (.if_icmp .ge 6, 3) := by decide +kernel
theorem dX9_pennies_124 : decode cX9_pennies 124 = .ok (.iinc 6 1, 3) := by decide +kernel
theorem dX9_pennies_127 : decode cX9_pennies 127 = .ok (.iinc 8 1, 3) := by decide +kernel
theorem dX9_pennies_130 : decode cX9_pennies 130 = .ok (.goto (-66), 3) := by decide +kernel
theorem dX9_pennies_133 : decode cX9_pennies 133 = .ok (.iload_n 1, 1) := by decide +kernel
theorem dX9_pennies_134 : decode cX9_pennies 134 = .ok (.aload_n 3, 1) := by decide +kernel
theorem dX9_pennies_135 : decode cX9_pennies 135 = .ok (.iload_n 2, 1) := by decide +kernel
theorem dX9_pennies_136 : decode cX9_pennies 136 = .ok (.iaload, 1) := by decide +kernel
theorem dX9_pennies_137 : decode cX9_pennies 137 = .ok (.imul, 1) := by decide +kernel
theorem dX9_pennies_138 : decode cX9_pennies 138 = .ok (.iload 4, 2) := by decide +kernel
theorem dX9_pennies_140 : decode cX9_pennies 140 = .ok (.idiv, 1) := by decide +kernel
theorem dX9_pennies_141 : decode cX9_pennies 141 = .ok (.iload 6, 2) := by decide +kernel
theorem dX9_pennies_143 : decode cX9_pennies 143 = .ok (.iload 5, 2) := by decide +kernel
theorem dX9_pennies_145 : decode cX9_pennies 145 = .ok (.if_icmp .ge 7, 3) := by decide +kernel
theorem dX9_pennies_148 : decode cX9_pennies 148 = .ok (.iconst 1, 1) := by decide +kernel
theorem dX9_pennies_149 : decode cX9_pennies 149 = .ok (.goto 4, 3) := by decide +kernel
theorem dX9_pennies_152 : decode cX9_pennies 152 = .ok (.iconst 0, 1) := by decide +kernel
theorem dX9_pennies_153 : decode cX9_pennies 153 = .ok (.iadd, 1) := by decide +kernel
theorem dX9_pennies_154 : decode cX9_pennies 154 = .ok (.ireturn, 1) := by decide +kernel
def f_X9_pennies_64 (a0 : Nat) (i1 : Int32) (i2 : Int32) (a3 : Nat) (i4 : Int32) (i5 : Int32) (i6 : Int32) (i7 : Int32) (i8 : Int32) (σ : mm_S) : Option (Int32 × mm_S) :=
  lp lpN (fun (k64 : (Int32 × Int32 × Int32) → mm_S → Option (Int32 × mm_S)) (v : Int32 × Int32 × Int32) (σ : mm_S) =>
    if (σ.1 (26 + 1) 3) ≤ v.2.2 then
      gd i2 (mm_K a3).2 <|
      gq i4 <|
      if v.1 ≤ v.2.1 then
        some ((((i1 * (σ.1 a3 i2.toNatClampNeg)) / i4) + (0 : Int32)), σ)
      else
        some ((((i1 * (σ.1 a3 i2.toNatClampNeg)) / i4) + (1 : Int32)), σ)
    else
      gd v.2.2 (mm_K a3).2 <|
      gq i4 <|
      lt ((v.1 - ((i1 * (σ.1 a3 v.2.2.toNatClampNeg)) / i4))) fun x7 =>
      gd v.2.2 (mm_K a3).2 <|
      gq i4 <|
      lt (((i1 * (σ.1 a3 v.2.2.toNatClampNeg)) - (i1 * (σ.1 a3 v.2.2.toNatClampNeg)) / i4 * i4)) fun x11 =>
      if i7 < x11 then
        lt (v.2.1 + Int32.ofInt (1)) fun x14 =>
        lt (v.2.2 + Int32.ofInt (1)) fun x16 =>
        k64 (x7, x14, x16) σ
      else
        if x11 = i7 then
          if i2 ≤ v.2.2 then
            lt (v.2.2 + Int32.ofInt (1)) fun x22 =>
            k64 (x7, v.2.1, x22) σ
          else
            lt (v.2.1 + Int32.ofInt (1)) fun x24 =>
            lt (v.2.2 + Int32.ofInt (1)) fun x26 =>
            k64 (x7, x24, x26) σ
        else
          lt (v.2.2 + Int32.ofInt (1)) fun x19 =>
          k64 (x7, v.2.1, x19) σ) (i5, i6, i8) σ
theorem v_X9_pennies_64 {g : mm_G} (d : Nat) {a0 : Nat} {i1 : Int32} {i2 : Int32} {a3 : Nat} {i4 : Int32} {i5 : Int32} {i6 : Int32} {i7 : Int32} {i8 : Int32} {σ : mm_S} {res : Int32 × mm_S}  (h_a0 : (mm_K a0).1 = 9) (h_a3 : (mm_K a3).1 = 12) (h : f_X9_pennies_64 a0 i1 i2 a3 i4 i5 i6 i7 i8 σ = some res) : SV g (d + 1) yy_X9_pennies 64 [(0, .ref a0), (1, .int i1), (2, .int i2), (3, .ref a3), (4, .int i4), (5, .int i5), (6, .int i6), (7, .int i7), (8, .int i8)] [] σ (.int res.1) res.2 := by
  unfold f_X9_pennies_64 at h
  refine lp_ind (P := fun v σ => SV g (d + 1) yy_X9_pennies 64 [(0, .ref a0), (1, .int i1), (2, .int i2), (3, .ref a3), (4, .int i4), (5, .int v.1), (6, .int v.2.1), (7, .int i7), (8, .int v.2.2)] [] σ (.int res.1) res.2) (fun k64 H64 v σ h => ?_) _ (i5, i6, i8) σ h
  refine e_iload 8 dX9_pennies_64  rfl ?_
  refine e_aload_n 0 dX9_pennies_66 rfl rfl ?_
  refine s_getr dX9_pennies_67 fl_RX9_50 h_a0 (r_9_5 h_a0).1 ?_
  refine s_getr dX9_pennies_70 fl_RX9_71 (ka_1 (r_9_5 (w := 0) h_a0).2) (r_8_0 (ka_1 (r_9_5 (w := 0) h_a0).2)).1 ?_
  refine s_geti dX9_pennies_73 fl_RX9_128 (ka_1 (r_8_0 (w := 0) (ka_1 (r_9_5 (w := 0) h_a0).2)).2) ?_
  refine e_icmp_ge 133 dX9_pennies_76 (by decide) (fun c1 => ?_) (fun c1 => ?_)
  · rw [if_pos c1] at h
    refine e_iload_n 1 dX9_pennies_133 rfl rfl ?_
    refine e_aload_n 3 dX9_pennies_134 rfl rfl ?_
    refine e_iload_n 2 dX9_pennies_135 rfl rfl ?_
    obtain ⟨q2, h⟩ := gd_some h
    refine s_iald dX9_pennies_136 (ka_2 h_a3) q2 ?_
    refine e_imul dX9_pennies_137 ?_
    refine e_iload 4 dX9_pennies_138  rfl ?_
    obtain ⟨q3, h⟩ := gq_some h
    refine e_idiv dX9_pennies_140 q3 ?_
    refine e_iload 6 dX9_pennies_141  rfl ?_
    refine e_iload 5 dX9_pennies_143  rfl ?_
    refine e_icmp_ge 152 dX9_pennies_145 (by decide) (fun c4 => ?_) (fun c4 => ?_)
    · rw [if_pos c4] at h
      refine e_iconst (v := (0 : Int32)) dX9_pennies_152 (by decide) ?_
      refine e_iadd dX9_pennies_153 ?_
      obtain rfl := Option.some.inj h
      exact s_ret rfl ⟨_, rfl, rfl⟩ dX9_pennies_154
    · rw [if_neg c4] at h
      refine e_iconst (v := (1 : Int32)) dX9_pennies_148 (by decide) ?_
      refine e_goto 153 dX9_pennies_149 (by decide) ?_
      refine e_iadd dX9_pennies_153 ?_
      obtain rfl := Option.some.inj h
      exact s_ret rfl ⟨_, rfl, rfl⟩ dX9_pennies_154
  · rw [if_neg c1] at h
    refine e_iload 5 dX9_pennies_79  rfl ?_
    refine e_iload_n 1 dX9_pennies_81 rfl rfl ?_
    refine e_aload_n 3 dX9_pennies_82 rfl rfl ?_
    refine e_iload 8 dX9_pennies_83  rfl ?_
    obtain ⟨q5, h⟩ := gd_some h
    refine s_iald dX9_pennies_85 (ka_2 h_a3) q5 ?_
    refine e_imul dX9_pennies_86 ?_
    refine e_iload 4 dX9_pennies_87  rfl ?_
    obtain ⟨q6, h⟩ := gq_some h
    refine e_idiv dX9_pennies_89 q6 ?_
    refine e_isub dX9_pennies_90 ?_
    obtain ⟨x7, q8, h⟩ := lt_some h
    refine s_nmi q8 ?_
    refine e_istore (L' := [(0, .ref a0), (1, .int i1), (2, .int i2), (3, .ref a3), (4, .int i4), (5, .int x7), (6, .int v.2.1), (7, .int i7), (8, .int v.2.2)]) dX9_pennies_91  (by decide) rfl ?_
    refine e_iload_n 1 dX9_pennies_93 rfl rfl ?_
    refine e_aload_n 3 dX9_pennies_94 rfl rfl ?_
    refine e_iload 8 dX9_pennies_95  rfl ?_
    obtain ⟨q9, h⟩ := gd_some h
    refine s_iald dX9_pennies_97 (ka_2 h_a3) q9 ?_
    refine e_imul dX9_pennies_98 ?_
    refine e_iload 4 dX9_pennies_99  rfl ?_
    obtain ⟨q10, h⟩ := gq_some h
    refine e_irem dX9_pennies_101 q10 ?_
    obtain ⟨x11, q12, h⟩ := lt_some h
    refine s_nmi q12 ?_
    refine e_istore (L' := [(0, .ref a0), (1, .int i1), (2, .int i2), (3, .ref a3), (4, .int i4), (5, .int x7), (6, .int v.2.1), (7, .int i7), (8, .int v.2.2), (9, .int x11)]) dX9_pennies_102  (by decide) rfl ?_
    refine e_iload 9 dX9_pennies_104  rfl ?_
    refine e_iload 7 dX9_pennies_106  rfl ?_
    refine e_icmp_gt 124 dX9_pennies_108 (by decide) (fun c13 => ?_) (fun c13 => ?_)
    · rw [if_pos c13] at h
      obtain ⟨x14, q15, h⟩ := lt_some h
      refine e_iinc (v := x14) (L' := [(0, .ref a0), (1, .int i1), (2, .int i2), (3, .ref a3), (4, .int i4), (5, .int x7), (6, .int x14), (7, .int i7), (8, .int v.2.2), (9, .int x11)]) 6 dX9_pennies_124 rfl q15.symm (by decide) rfl ?_
      obtain ⟨x16, q17, h⟩ := lt_some h
      refine e_iinc (v := x16) (L' := [(0, .ref a0), (1, .int i1), (2, .int i2), (3, .ref a3), (4, .int i4), (5, .int x7), (6, .int x14), (7, .int i7), (8, .int x16), (9, .int x11)]) 8 dX9_pennies_127 rfl q17.symm (by decide) rfl ?_
      refine e_goto 64 dX9_pennies_130 (by decide) ?_
      refine s_pick (L' := [(0, .ref a0), (1, .int i1), (2, .int i2), (3, .ref a3), (4, .int i4), (5, .int x7), (6, .int x14), (7, .int i7), (8, .int x16)]) [0, 1, 2, 3, 4, 5, 6, 7, 8] rfl ?_
      exact H64 (x7, x14, x16) σ h
    · rw [if_neg c13] at h
      refine e_iload 9 dX9_pennies_111  rfl ?_
      refine e_iload 7 dX9_pennies_113  rfl ?_
      refine e_icmp_ne 127 dX9_pennies_115 (by decide) (fun c18 => ?_) (fun c18 => ?_)
      · rw [if_neg c18] at h
        obtain ⟨x19, q20, h⟩ := lt_some h
        refine e_iinc (v := x19) (L' := [(0, .ref a0), (1, .int i1), (2, .int i2), (3, .ref a3), (4, .int i4), (5, .int x7), (6, .int v.2.1), (7, .int i7), (8, .int x19), (9, .int x11)]) 8 dX9_pennies_127 rfl q20.symm (by decide) rfl ?_
        refine e_goto 64 dX9_pennies_130 (by decide) ?_
        refine s_pick (L' := [(0, .ref a0), (1, .int i1), (2, .int i2), (3, .ref a3), (4, .int i4), (5, .int x7), (6, .int v.2.1), (7, .int i7), (8, .int x19)]) [0, 1, 2, 3, 4, 5, 6, 7, 8] rfl ?_
        exact H64 (x7, v.2.1, x19) σ h
      · rw [if_pos c18] at h
        refine e_iload 8 dX9_pennies_118  rfl ?_
        refine e_iload_n 2 dX9_pennies_120 rfl rfl ?_
        refine e_icmp_ge 127 dX9_pennies_121 (by decide) (fun c21 => ?_) (fun c21 => ?_)
        · rw [if_pos c21] at h
          obtain ⟨x22, q23, h⟩ := lt_some h
          refine e_iinc (v := x22) (L' := [(0, .ref a0), (1, .int i1), (2, .int i2), (3, .ref a3), (4, .int i4), (5, .int x7), (6, .int v.2.1), (7, .int i7), (8, .int x22), (9, .int x11)]) 8 dX9_pennies_127 rfl q23.symm (by decide) rfl ?_
          refine e_goto 64 dX9_pennies_130 (by decide) ?_
          refine s_pick (L' := [(0, .ref a0), (1, .int i1), (2, .int i2), (3, .ref a3), (4, .int i4), (5, .int x7), (6, .int v.2.1), (7, .int i7), (8, .int x22)]) [0, 1, 2, 3, 4, 5, 6, 7, 8] rfl ?_
          exact H64 (x7, v.2.1, x22) σ h
        · rw [if_neg c21] at h
          obtain ⟨x24, q25, h⟩ := lt_some h
          refine e_iinc (v := x24) (L' := [(0, .ref a0), (1, .int i1), (2, .int i2), (3, .ref a3), (4, .int i4), (5, .int x7), (6, .int x24), (7, .int i7), (8, .int v.2.2), (9, .int x11)]) 6 dX9_pennies_124 rfl q25.symm (by decide) rfl ?_
          obtain ⟨x26, q27, h⟩ := lt_some h
          refine e_iinc (v := x26) (L' := [(0, .ref a0), (1, .int i1), (2, .int i2), (3, .ref a3), (4, .int i4), (5, .int x7), (6, .int x24), (7, .int i7), (8, .int x26), (9, .int x11)]) 8 dX9_pennies_127 rfl q27.symm (by decide) rfl ?_
          refine e_goto 64 dX9_pennies_130 (by decide) ?_
          refine s_pick (L' := [(0, .ref a0), (1, .int i1), (2, .int i2), (3, .ref a3), (4, .int i4), (5, .int x7), (6, .int x24), (7, .int i7), (8, .int x26)]) [0, 1, 2, 3, 4, 5, 6, 7, 8] rfl ?_
          exact H64 (x7, x24, x26) σ h
def f_X9_pennies (a0 : Nat) (i1 : Int32) (i2 : Int32) (σ : mm_S) : Option (Int32 × mm_S) :=
    bd (f_X9_isLodger a0 i2 σ) fun r44 σ43 =>
    if r44 = 0 then
      some ((-1 : Int32), σ43)
    else
      if i1 < 0 then
        some ((-1 : Int32), σ43)
      else
        if i1 ≤ (9999 : Int32) then
          bd (f_X9_sum ((26 + 5) + 4) σ43) fun r50 σ49 =>
          if 0 < r50 then
            gd i2 6 <|
            gq r50 <|
            lt (((i1 * (σ49.1 ((26 + 5) + 4) i2.toNatClampNeg)) - (i1 * (σ49.1 ((26 + 5) + 4) i2.toNatClampNeg)) / r50 * r50)) fun x54 =>
            f_X9_pennies_64 a0 i1 i2 ((26 + 5) + 4) r50 i1 (0 : Int32) x54 (0 : Int32) σ49
          else
            some ((0 : Int32), σ49)
        else
          some ((-1 : Int32), σ43)
theorem v_X9_pennies {g : mm_G} (d : Nat) {a0 : Nat} {i1 : Int32} {i2 : Int32} {σ : mm_S} {res : Int32 × mm_S} (h_a0 : (mm_K a0).1 = 9) (h : f_X9_pennies a0 i1 i2 σ = some res) : SM g (d + 1) yy_X9_pennies [.ref a0, .int i1, .int i2] σ (.int res.1) res.2 := by
  refine s_of (by decide) (Nat.le_of_ble_eq_true rfl) (L := [(0, .ref a0), (1, .int i1), (2, .int i2)]) rfl ?_
  unfold f_X9_pennies at h
  refine e_aload_n 0 dX9_pennies_0 rfl rfl ?_
  refine e_iload_n 2 dX9_pennies_1 rfl rfl ?_
  obtain ⟨r44, σ43, q42, h⟩ := bd_some h
  refine s_callVi [.int i2] dX9_pennies_2 ml_RX9_138 h_a0 ⟨_, rfl, by decide⟩ rfl (v_X9_isLodger (d + 0) h_a0 q42) (Nat.le_of_ble_eq_true rfl) ?_
  refine e_if_eq 19 dX9_pennies_5 (by decide) (fun c45 => ?_) (fun c45 => ?_)
  · rw [if_pos c45] at h
    refine e_iconst (v := (-1 : Int32)) dX9_pennies_19 (by decide) ?_
    obtain rfl := Option.some.inj h
    exact s_ret rfl ⟨_, rfl, rfl⟩ dX9_pennies_20
  · rw [if_neg c45] at h
    refine e_iload_n 1 dX9_pennies_8 rfl rfl ?_
    refine e_if_lt 19 dX9_pennies_9 (by decide) (fun c46 => ?_) (fun c46 => ?_)
    · rw [if_pos c46] at h
      refine e_iconst (v := (-1 : Int32)) dX9_pennies_19 (by decide) ?_
      obtain rfl := Option.some.inj h
      exact s_ret rfl ⟨_, rfl, rfl⟩ dX9_pennies_20
    · rw [if_neg c46] at h
      refine e_iload_n 1 dX9_pennies_12 rfl rfl ?_
      refine e_sipush (v := (9999 : Int32)) dX9_pennies_13 (by decide) ?_
      refine e_icmp_le 21 dX9_pennies_16 (by decide) (fun c47 => ?_) (fun c47 => ?_)
      · rw [if_pos c47] at h
        refine e_aload_n 0 dX9_pennies_21 rfl rfl ?_
        refine s_getr dX9_pennies_22 fl_RX9_50 h_a0 (r_9_5 h_a0).1 ?_
        refine s_getr dX9_pennies_25 fl_RX9_107 (ka_1 (r_9_5 (w := 0) h_a0).2) (r_8_1 (ka_1 (r_9_5 (w := 0) h_a0).2)).1 ?_
        refine s_getr dX9_pennies_28 fl_RX9_154 (ka_1 (r_8_1 (w := 0) (ka_1 (r_9_5 (w := 0) h_a0).2)).2) (r_2_5 (ka_1 (r_8_1 (w := 0) (ka_1 (r_9_5 (w := 0) h_a0).2)).2)).1 ?_
        refine e_astore_n (L' := [(0, .ref a0), (1, .int i1), (2, .int i2), (3, .ref ((26 + 5) + 4))]) dX9_pennies_31 rfl (by decide) rfl ?_
        refine e_aload_n 3 dX9_pennies_32 rfl rfl ?_
        obtain ⟨r50, σ49, q48, h⟩ := bd_some h
        refine s_callSi [.ref ((26 + 5) + 4)] dX9_pennies_33 ml_RX9_180 ⟨_, rfl, by decide⟩ rfl (v_X9_sum (d + 0) (ka_1 (r_2_5 (w := 0) (ka_1 (r_8_1 (w := 0) (ka_1 (r_9_5 (w := 0) h_a0).2)).2)).2) q48) (Nat.le_of_ble_eq_true rfl) ?_
        refine e_istore (L' := [(0, .ref a0), (1, .int i1), (2, .int i2), (3, .ref ((26 + 5) + 4)), (4, .int r50)]) dX9_pennies_36  (by decide) rfl ?_
        refine e_iload 4 dX9_pennies_38  rfl ?_
        refine e_if_gt 45 dX9_pennies_40 (by decide) (fun c51 => ?_) (fun c51 => ?_)
        · rw [if_pos c51] at h
          refine e_iload_n 1 dX9_pennies_45 rfl rfl ?_
          refine e_istore (L' := [(0, .ref a0), (1, .int i1), (2, .int i2), (3, .ref ((26 + 5) + 4)), (4, .int r50), (5, .int i1)]) dX9_pennies_46  (by decide) rfl ?_
          refine e_iconst (v := (0 : Int32)) dX9_pennies_48 (by decide) ?_
          refine e_istore (L' := [(0, .ref a0), (1, .int i1), (2, .int i2), (3, .ref ((26 + 5) + 4)), (4, .int r50), (5, .int i1), (6, .int (0 : Int32))]) dX9_pennies_49  (by decide) rfl ?_
          refine e_iload_n 1 dX9_pennies_51 rfl rfl ?_
          refine e_aload_n 3 dX9_pennies_52 rfl rfl ?_
          refine e_iload_n 2 dX9_pennies_53 rfl rfl ?_
          obtain ⟨q52, h⟩ := gd_some h
          refine s_iald dX9_pennies_54 (r_2_5 (w := 0) (ka_1 (r_8_1 (w := 0) (ka_1 (r_9_5 (w := 0) h_a0).2)).2)).2 q52 ?_
          refine e_imul dX9_pennies_55 ?_
          refine e_iload 4 dX9_pennies_56  rfl ?_
          obtain ⟨q53, h⟩ := gq_some h
          refine e_irem dX9_pennies_58 q53 ?_
          obtain ⟨x54, q55, h⟩ := lt_some h
          refine s_nmi q55 ?_
          refine e_istore (L' := [(0, .ref a0), (1, .int i1), (2, .int i2), (3, .ref ((26 + 5) + 4)), (4, .int r50), (5, .int i1), (6, .int (0 : Int32)), (7, .int x54)]) dX9_pennies_59  (by decide) rfl ?_
          refine e_iconst (v := (0 : Int32)) dX9_pennies_61 (by decide) ?_
          refine e_istore (L' := [(0, .ref a0), (1, .int i1), (2, .int i2), (3, .ref ((26 + 5) + 4)), (4, .int r50), (5, .int i1), (6, .int (0 : Int32)), (7, .int x54), (8, .int (0 : Int32))]) dX9_pennies_62  (by decide) rfl ?_
          refine s_pick (L' := [(0, .ref a0), (1, .int i1), (2, .int i2), (3, .ref ((26 + 5) + 4)), (4, .int r50), (5, .int i1), (6, .int (0 : Int32)), (7, .int x54), (8, .int (0 : Int32))]) [0, 1, 2, 3, 4, 5, 6, 7, 8] rfl ?_
          exact v_X9_pennies_64 d h_a0 (ka_1 (r_2_5 (w := 0) (ka_1 (r_8_1 (w := 0) (ka_1 (r_9_5 (w := 0) h_a0).2)).2)).2) h
        · rw [if_neg c51] at h
          refine e_iconst (v := (0 : Int32)) dX9_pennies_43 (by decide) ?_
          obtain rfl := Option.some.inj h
          exact s_ret rfl ⟨_, rfl, rfl⟩ dX9_pennies_44
      · rw [if_neg c47] at h
        refine e_iconst (v := (-1 : Int32)) dX9_pennies_19 (by decide) ?_
        obtain rfl := Option.some.inj h
        exact s_ret rfl ⟨_, rfl, rfl⟩ dX9_pennies_20
abbrev yy_X9_gameAt : mm_Y := (yX9_gameAt, cX9_gameAt, 2, (some .int))
theorem dX9_gameAt_0 : decode cX9_gameAt 0 = .ok (.iload_n 0, 1) := by decide +kernel
theorem dX9_gameAt_1 : decode cX9_gameAt 1 = .ok (.bipush 6, 2) := by decide +kernel
theorem dX9_gameAt_3 : decode cX9_gameAt 3 = .ok (.imul, 1) := by decide +kernel
theorem dX9_gameAt_4 : decode cX9_gameAt 4 = .ok (.iload_n 1, 1) := by decide +kernel
theorem dX9_gameAt_5 : decode cX9_gameAt 5 = .ok (.iadd, 1) := by decide +kernel
theorem dX9_gameAt_6 : decode cX9_gameAt 6 = .ok (.iconst 2, 1) := by decide +kernel
theorem dX9_gameAt_7 : decode cX9_gameAt 7 = .ok (.imul, 1) := by decide +kernel
theorem dX9_gameAt_8 : decode cX9_gameAt 8 = .ok (.ireturn, 1) := by decide +kernel
def f_X9_gameAt (i0 : Int32) (i1 : Int32) (σ : mm_S) : Option (Int32 × mm_S) :=
    some ((((i0 * (6 : Int32)) + i1) * (2 : Int32)), σ)
theorem v_X9_gameAt {g : mm_G} (d : Nat) {i0 : Int32} {i1 : Int32} {σ : mm_S} {res : Int32 × mm_S}  (h : f_X9_gameAt i0 i1 σ = some res) : SM g (d + 0) yy_X9_gameAt [.int i0, .int i1] σ (.int res.1) res.2 := by
  refine s_of (by decide) (Nat.le_of_ble_eq_true rfl) (L := [(0, .int i0), (1, .int i1)]) rfl ?_
  unfold f_X9_gameAt at h
  refine e_iload_n 0 dX9_gameAt_0 rfl rfl ?_
  refine e_bipush (v := (6 : Int32)) dX9_gameAt_1 (by decide) ?_
  refine e_imul dX9_gameAt_3 ?_
  refine e_iload_n 1 dX9_gameAt_4 rfl rfl ?_
  refine e_iadd dX9_gameAt_5 ?_
  refine e_iconst (v := (2 : Int32)) dX9_gameAt_6 (by decide) ?_
  refine e_imul dX9_gameAt_7 ?_
  obtain rfl := Option.some.inj h
  exact s_ret rfl ⟨_, rfl, rfl⟩ dX9_gameAt_8
abbrev yy_X9_playAll : mm_Y := (yX9_playAll, cX9_playAll, 6, none)
theorem dX9_playAll_0 : decode cX9_playAll 0 = .ok (.iconst 0, 1) := by decide +kernel
theorem dX9_playAll_1 : decode cX9_playAll 1 = .ok (.istore 4, 2) := by decide +kernel
theorem dX9_playAll_3 : decode cX9_playAll 3 = .ok (.iload 4, 2) := by decide +kernel
theorem dX9_playAll_5 : decode cX9_playAll 5 = .ok (.aload_n 0, 1) := by decide +kernel
theorem dX9_playAll_6 : decode cX9_playAll 6 = .ok (.getfield 50, 3) := by decide +kernel
theorem dX9_playAll_9 : decode cX9_playAll 9 = .ok (.getfield 71, 3) := by decide +kernel
theorem dX9_playAll_12 : decode cX9_playAll 12 = .ok (.getfield 128, 3) := by decide +kernel
theorem dX9_playAll_15 : decode cX9_playAll 15 = .ok (.if_icmp .ge 129, 3) := by decide +kernel
theorem dX9_playAll_18 : decode cX9_playAll 18 = .ok (.iconst 0, 1) := by decide +kernel
theorem dX9_playAll_19 : decode cX9_playAll 19 = .ok (.istore 5, 2) := by decide +kernel
theorem dX9_playAll_21 : decode cX9_playAll 21 = .ok (.iload 5, 2) := by decide +kernel
theorem dX9_playAll_23 : decode cX9_playAll 23 = .ok (.aload_n 0, 1) := by decide +kernel
theorem dX9_playAll_24 : decode cX9_playAll 24 = .ok (.getfield 50, 3) := by decide +kernel
theorem dX9_playAll_27 : decode cX9_playAll 27 = .ok (.getfield 71, 3) := by decide +kernel
theorem dX9_playAll_30 : decode cX9_playAll 30 = .ok (.getfield 128, 3) := by decide +kernel
theorem dX9_playAll_33 : decode cX9_playAll 33 = .ok (.if_icmp .ge 105, 3) := by decide +kernel
theorem dX9_playAll_36 : decode cX9_playAll 36 = .ok (.iload 4, 2) := by decide +kernel
theorem dX9_playAll_38 : decode cX9_playAll 38 = .ok (.iload_n 1, 1) := by decide +kernel
theorem dX9_playAll_39 : decode cX9_playAll 39 = .ok (.if_icmp .eq 93, 3) := by decide +kernel
theorem dX9_playAll_42 : decode cX9_playAll 42 = .ok (.iload 5, 2) := by decide +kernel
theorem dX9_playAll_44 : decode cX9_playAll 44 = .ok (.iload_n 2, 1) := by decide +kernel
theorem dX9_playAll_45 : decode cX9_playAll 45 = .ok (.if_icmp .eq 87, 3) := by decide +kernel
theorem dX9_playAll_48 : decode cX9_playAll 48 = .ok (.aload_n 0, 1) := by decide +kernel
theorem dX9_playAll_49 : decode cX9_playAll 49 = .ok (.invokevirtual 196, 3) := by decide +kernel
theorem dX9_playAll_52 : decode cX9_playAll 52 = .ok (.aload_n 0, 1) := by decide +kernel
theorem dX9_playAll_53 : decode cX9_playAll 53 = .ok (.getfield 77, 3) := by decide +kernel
theorem dX9_playAll_56 : decode cX9_playAll 56 = .ok (.getfield 261, 3) := by decide +kernel
theorem dX9_playAll_59 : decode cX9_playAll 59 = .ok (.iload_n 1, 1) := by decide +kernel
theorem dX9_playAll_60 : decode cX9_playAll 60 = .ok (.iload 4, 2) := by decide +kernel
theorem dX9_playAll_62 : decode cX9_playAll 62 = .ok (.iastore, 1) := by decide +kernel
theorem dX9_playAll_63 : decode cX9_playAll 63 = .ok (.aload_n 0, 1) := by decide +kernel
theorem dX9_playAll_64 : decode cX9_playAll 64 = .ok (.getfield 77, 3) := by decide +kernel
theorem dX9_playAll_67 : decode cX9_playAll 67 = .ok (.getfield 261, 3) := by decide +kernel
theorem dX9_playAll_70 : decode cX9_playAll 70 = .ok (.iload_n 2, 1) := by decide +kernel
theorem dX9_playAll_71 : decode cX9_playAll 71 = .ok (.iload 5, 2) := by decide +kernel
theorem dX9_playAll_73 : decode cX9_playAll 73 = .ok (.iastore, 1) := by decide +kernel
theorem dX9_playAll_74 : decode cX9_playAll 74 = .ok (.aload_n 0, 1) := by decide +kernel
theorem dX9_playAll_75 : decode cX9_playAll 75 = .ok (.getfield 77, 3) := by decide +kernel
theorem dX9_playAll_78 : decode cX9_playAll 78 = .ok (.iload_n 3, 1) := by decide +kernel
theorem dX9_playAll_79 : decode cX9_playAll 79 = .ok (.invokevirtual 199, 3) := by decide +kernel
theorem dX9_playAll_82 : decode cX9_playAll 82 = .ok (.aload_n 0, 1) := by decide +kernel
theorem dX9_playAll_83 : decode cX9_playAll 83 = .ok (.getfield 85, 3) := by decide +kernel
theorem dX9_playAll_86 : decode cX9_playAll 86 = .ok (.iload 4, 2) := by decide +kernel
theorem dX9_playAll_88 : decode cX9_playAll 88 = .ok (.iload 5, 2) := by decide +kernel
theorem dX9_playAll_90 : decode cX9_playAll 90 = .ok (.invokestatic 264, 3) := by decide +kernel
theorem dX9_playAll_93 : decode cX9_playAll 93 = .ok (.aload_n 0, 1) := by decide +kernel
theorem dX9_playAll_94 : decode cX9_playAll 94 = .ok (.getfield 77, 3) := by decide +kernel
theorem dX9_playAll_97 : decode cX9_playAll 97 = .ok (.getfield 202, 3) := by decide +kernel
theorem dX9_playAll_100 : decode cX9_playAll 100 = .ok (.getfield 142, 3) := by decide +kernel
theorem dX9_playAll_103 : decode cX9_playAll 103 = .ok (.iload_n 1, 1) := by decide +kernel
theorem dX9_playAll_104 : decode cX9_playAll 104 = .ok (.iaload, 1) := by decide +kernel
theorem dX9_playAll_105 : decode cX9_playAll 105 = .ok (.iastore, 1) := by decide +kernel
theorem dX9_playAll_106 : decode cX9_playAll 106 = .ok (.aload_n 0, 1) := by decide +kernel
theorem dX9_playAll_107 : decode cX9_playAll 107 = .ok (.getfield 85, 3) := by decide +kernel
theorem dX9_playAll_110 : decode cX9_playAll 110 = .ok (.iload 4, 2) := by decide +kernel
theorem dX9_playAll_112 : decode cX9_playAll 112 = .ok (.iload 5, 2) := by decide +kernel
theorem dX9_playAll_114 : decode cX9_playAll 114 = .ok (.invokestatic 264, 3) := by decide +kernel
theorem dX9_playAll_117 : decode cX9_playAll 117 = .ok (.iconst 1, 1) := by decide +kernel
theorem dX9_playAll_118 : decode cX9_playAll 118 = .ok (.iadd, 1) := by decide +kernel
theorem dX9_playAll_119 : decode cX9_playAll 119 = .ok (.aload_n 0, 1) := by decide +kernel
theorem dX9_playAll_120 : decode cX9_playAll 120 = .ok (.getfield 77, 3) := by decide +kernel
theorem dX9_playAll_123 : decode cX9_playAll 123 = .ok (.getfield 202, 3) := by decide +kernel
theorem dX9_playAll_126 : decode cX9_playAll 126 = .ok (.getfield 142, 3) := by decide +kernel
theorem dX9_playAll_129 : decode cX9_playAll 129 = .ok (.iload_n 2, 1) := by decide +kernel
theorem dX9_playAll_130 : decode cX9_playAll 130 = .ok (.iaload, 1) := by decide +kernel
theorem dX9_playAll_131 : decode cX9_playAll 131 = .ok (.iastore, 1) := by decide +kernel
theorem dX9_playAll_132 : decode cX9_playAll 132 = .ok (.iinc 5 1, 3) := by decide +kernel
theorem dX9_playAll_135 : decode cX9_playAll 135 = .ok (.goto (-114), 3) := by decide +kernel
theorem dX9_playAll_138 : decode cX9_playAll 138 = .ok (.iinc 4 1, 3) := by decide +kernel
theorem dX9_playAll_141 : decode cX9_playAll 141 = .ok (.goto (-138), 3) := by decide +kernel
theorem dX9_playAll_144 : decode cX9_playAll 144 = .ok (.return_, 1) := by decide +kernel
def f_X9_playAll_21 (k3 : (Int32) → mm_S → Option (mm_S)) (a0 : Nat) (i1 : Int32) (i2 : Int32) (i3 : Int32) (i4 : Int32) (i5 : Int32) (σ : mm_S) : Option (mm_S) :=
  lp lpN (fun (k21 : (Int32) → mm_S → Option (mm_S)) (v : Int32) (σ : mm_S) =>
    if (σ.1 (26 + 1) 3) ≤ v then
      lt (i4 + Int32.ofInt (1)) fun x2 =>
      k3 x2 σ
    else
      if i4 = i1 then
        lt (v + Int32.ofInt (1)) fun x5 =>
        k21 x5 σ
      else
        if v = i2 then
          lt (v + Int32.ofInt (1)) fun x8 =>
          k21 x8 σ
        else
          bv (f_X9_walkFromNow a0 σ) fun σ11 =>
          gd i1 6 <|
          lt (su_i σ11 206 i1.toNatClampNeg i4) fun σ13 =>
          gd i2 6 <|
          lt (su_i σ13 206 i2.toNatClampNeg v) fun σ16 =>
          bv (f_X7_passHours 200 i3 σ16) fun σ19 =>
          bd (f_X9_gameAt i4 v σ19) fun r22 σ21 =>
          gd i1 6 <|
          gd r22 72 <|
          lt (su_i σ21 212 r22.toNatClampNeg (σ21.1 (201 + 1) i1.toNatClampNeg)) fun σ25 =>
          bd (f_X9_gameAt i4 v σ25) fun r29 σ28 =>
          gd i2 6 <|
          gd (r29 + (1 : Int32)) 72 <|
          lt (su_i σ28 212 (r29 + (1 : Int32)).toNatClampNeg (σ28.1 (201 + 1) i2.toNatClampNeg)) fun σ32 =>
          lt (v + Int32.ofInt (1)) fun x34 =>
          k21 x34 σ32) i5 σ
theorem v_X9_playAll_21 {g : mm_G} (d : Nat) {k3 : (Int32) → mm_S → Option (mm_S)} {a0 : Nat} {i1 : Int32} {i2 : Int32} {i3 : Int32} {i4 : Int32} {i5 : Int32} {σ : mm_S} {res : mm_S} (H3 : ∀ v σ, k3 v σ = some res → SV g (d + 5) yy_X9_playAll 3 [(0, .ref a0), (1, .int i1), (2, .int i2), (3, .int i3), (4, .int v)] [] σ .null res) (h_a0 : (mm_K a0).1 = 9) (h : f_X9_playAll_21 k3 a0 i1 i2 i3 i4 i5 σ = some res) : SV g (d + 5) yy_X9_playAll 21 [(0, .ref a0), (1, .int i1), (2, .int i2), (3, .int i3), (4, .int i4), (5, .int i5)] [] σ .null res := by
  unfold f_X9_playAll_21 at h
  refine lp_ind (P := fun v σ => SV g (d + 5) yy_X9_playAll 21 [(0, .ref a0), (1, .int i1), (2, .int i2), (3, .int i3), (4, .int i4), (5, .int v)] [] σ .null res) (fun k21 H21 v σ h => ?_) _ i5 σ h
  refine e_iload 5 dX9_playAll_21  rfl ?_
  refine e_aload_n 0 dX9_playAll_23 rfl rfl ?_
  refine s_getr dX9_playAll_24 fl_RX9_50 h_a0 (r_9_5 h_a0).1 ?_
  refine s_getr dX9_playAll_27 fl_RX9_71 (ka_1 (r_9_5 (w := 0) h_a0).2) (r_8_0 (ka_1 (r_9_5 (w := 0) h_a0).2)).1 ?_
  refine s_geti dX9_playAll_30 fl_RX9_128 (ka_1 (r_8_0 (w := 0) (ka_1 (r_9_5 (w := 0) h_a0).2)).2) ?_
  refine e_icmp_ge 138 dX9_playAll_33 (by decide) (fun c1 => ?_) (fun c1 => ?_)
  · rw [if_pos c1] at h
    obtain ⟨x2, q3, h⟩ := lt_some h
    refine e_iinc (v := x2) (L' := [(0, .ref a0), (1, .int i1), (2, .int i2), (3, .int i3), (4, .int x2), (5, .int v)]) 4 dX9_playAll_138 rfl q3.symm (by decide) rfl ?_
    refine e_goto 3 dX9_playAll_141 (by decide) ?_
    refine s_pick (L' := [(0, .ref a0), (1, .int i1), (2, .int i2), (3, .int i3), (4, .int x2)]) [0, 1, 2, 3, 4] rfl ?_
    exact H3 x2 σ h
  · rw [if_neg c1] at h
    refine e_iload 4 dX9_playAll_36  rfl ?_
    refine e_iload_n 1 dX9_playAll_38 rfl rfl ?_
    refine e_icmp_eq 132 dX9_playAll_39 (by decide) (fun c4 => ?_) (fun c4 => ?_)
    · rw [if_pos c4] at h
      obtain ⟨x5, q6, h⟩ := lt_some h
      refine e_iinc (v := x5) (L' := [(0, .ref a0), (1, .int i1), (2, .int i2), (3, .int i3), (4, .int i4), (5, .int x5)]) 5 dX9_playAll_132 rfl q6.symm (by decide) rfl ?_
      refine e_goto 21 dX9_playAll_135 (by decide) ?_
      refine s_pick (L' := [(0, .ref a0), (1, .int i1), (2, .int i2), (3, .int i3), (4, .int i4), (5, .int x5)]) [0, 1, 2, 3, 4, 5] rfl ?_
      exact H21 x5 σ h
    · rw [if_neg c4] at h
      refine e_iload 5 dX9_playAll_42  rfl ?_
      refine e_iload_n 2 dX9_playAll_44 rfl rfl ?_
      refine e_icmp_eq 132 dX9_playAll_45 (by decide) (fun c7 => ?_) (fun c7 => ?_)
      · rw [if_pos c7] at h
        obtain ⟨x8, q9, h⟩ := lt_some h
        refine e_iinc (v := x8) (L' := [(0, .ref a0), (1, .int i1), (2, .int i2), (3, .int i3), (4, .int i4), (5, .int x8)]) 5 dX9_playAll_132 rfl q9.symm (by decide) rfl ?_
        refine e_goto 21 dX9_playAll_135 (by decide) ?_
        refine s_pick (L' := [(0, .ref a0), (1, .int i1), (2, .int i2), (3, .int i3), (4, .int i4), (5, .int x8)]) [0, 1, 2, 3, 4, 5] rfl ?_
        exact H21 x8 σ h
      · rw [if_neg c7] at h
        refine e_aload_n 0 dX9_playAll_48 rfl rfl ?_
        obtain ⟨σ11, q10, h⟩ := bv_some h
        refine s_callVv [] dX9_playAll_49 ml_RX9_196 h_a0 rfl rfl (v_X9_walkFromNow (d + 1) h_a0 q10) (Nat.le_of_ble_eq_true rfl) ?_
        refine e_aload_n 0 dX9_playAll_52 rfl rfl ?_
        refine s_getr dX9_playAll_53 fl_RX9_77 h_a0 (r_9_9 h_a0).1 ?_
        refine s_getr dX9_playAll_56 fl_RX9_261 (ka_1 (r_9_9 (w := 0) h_a0).2) (r_7_6 (ka_1 (r_9_9 (w := 0) h_a0).2)).1 ?_
        refine e_iload_n 1 dX9_playAll_59 rfl rfl ?_
        refine e_iload 4 dX9_playAll_60  rfl ?_
        obtain ⟨q12, h⟩ := gd_some h
        refine s_iast dX9_playAll_62 (r_7_6 (w := 0) (ka_1 (r_9_9 (w := 0) h_a0).2)).2 q12 ?_
        obtain ⟨σ13, q14, h⟩ := lt_some h
        refine s_nms q14 ?_
        refine e_aload_n 0 dX9_playAll_63 rfl rfl ?_
        refine s_getr dX9_playAll_64 fl_RX9_77 h_a0 (r_9_9 h_a0).1 ?_
        refine s_getr dX9_playAll_67 fl_RX9_261 (ka_1 (r_9_9 (w := 0) h_a0).2) (r_7_6 (ka_1 (r_9_9 (w := 0) h_a0).2)).1 ?_
        refine e_iload_n 2 dX9_playAll_70 rfl rfl ?_
        refine e_iload 5 dX9_playAll_71  rfl ?_
        obtain ⟨q15, h⟩ := gd_some h
        refine s_iast dX9_playAll_73 (r_7_6 (w := 0) (ka_1 (r_9_9 (w := 0) h_a0).2)).2 q15 ?_
        obtain ⟨σ16, q17, h⟩ := lt_some h
        refine s_nms q17 ?_
        refine e_aload_n 0 dX9_playAll_74 rfl rfl ?_
        refine s_getr dX9_playAll_75 fl_RX9_77 h_a0 (r_9_9 h_a0).1 ?_
        refine e_iload_n 3 dX9_playAll_78 rfl rfl ?_
        obtain ⟨σ19, q18, h⟩ := bv_some h
        refine s_callVv [.int i3] dX9_playAll_79 ml_RX9_199 (ka_1 (r_9_9 (w := 0) h_a0).2) rfl rfl (v_X7_passHours (d + 0) (ka_1 (r_9_9 (w := 0) h_a0).2) q18) (Nat.le_of_ble_eq_true rfl) ?_
        refine e_aload_n 0 dX9_playAll_82 rfl rfl ?_
        refine s_getr dX9_playAll_83 fl_RX9_85 h_a0 (r_9_11 h_a0).1 ?_
        refine e_iload 4 dX9_playAll_86  rfl ?_
        refine e_iload 5 dX9_playAll_88  rfl ?_
        obtain ⟨r22, σ21, q20, h⟩ := bd_some h
        refine s_callSi [.int i4, .int v] dX9_playAll_90 ml_RX9_264 ⟨_, rfl, by decide⟩ rfl (v_X9_gameAt (d + 4)  q20) (Nat.le_of_ble_eq_true rfl) ?_
        refine e_aload_n 0 dX9_playAll_93 rfl rfl ?_
        refine s_getr dX9_playAll_94 fl_RX9_77 h_a0 (r_9_9 h_a0).1 ?_
        refine s_getr dX9_playAll_97 fl_RX9_202 (ka_1 (r_9_9 (w := 0) h_a0).2) (r_7_1 (ka_1 (r_9_9 (w := 0) h_a0).2)).1 ?_
        refine s_getr dX9_playAll_100 fl_RX9_142 (ka_1 (r_7_1 (w := 0) (ka_1 (r_9_9 (w := 0) h_a0).2)).2) (r_2_2 (ka_1 (r_7_1 (w := 0) (ka_1 (r_9_9 (w := 0) h_a0).2)).2)).1 ?_
        refine e_iload_n 1 dX9_playAll_103 rfl rfl ?_
        obtain ⟨q23, h⟩ := gd_some h
        refine s_iald dX9_playAll_104 (r_2_2 (w := 0) (ka_1 (r_7_1 (w := 0) (ka_1 (r_9_9 (w := 0) h_a0).2)).2)).2 q23 ?_
        obtain ⟨q24, h⟩ := gd_some h
        refine s_iast dX9_playAll_105 (r_9_11 (w := 0) h_a0).2 q24 ?_
        obtain ⟨σ25, q26, h⟩ := lt_some h
        refine s_nms q26 ?_
        refine e_aload_n 0 dX9_playAll_106 rfl rfl ?_
        refine s_getr dX9_playAll_107 fl_RX9_85 h_a0 (r_9_11 h_a0).1 ?_
        refine e_iload 4 dX9_playAll_110  rfl ?_
        refine e_iload 5 dX9_playAll_112  rfl ?_
        obtain ⟨r29, σ28, q27, h⟩ := bd_some h
        refine s_callSi [.int i4, .int v] dX9_playAll_114 ml_RX9_264 ⟨_, rfl, by decide⟩ rfl (v_X9_gameAt (d + 4)  q27) (Nat.le_of_ble_eq_true rfl) ?_
        refine e_iconst (v := (1 : Int32)) dX9_playAll_117 (by decide) ?_
        refine e_iadd dX9_playAll_118 ?_
        refine e_aload_n 0 dX9_playAll_119 rfl rfl ?_
        refine s_getr dX9_playAll_120 fl_RX9_77 h_a0 (r_9_9 h_a0).1 ?_
        refine s_getr dX9_playAll_123 fl_RX9_202 (ka_1 (r_9_9 (w := 0) h_a0).2) (r_7_1 (ka_1 (r_9_9 (w := 0) h_a0).2)).1 ?_
        refine s_getr dX9_playAll_126 fl_RX9_142 (ka_1 (r_7_1 (w := 0) (ka_1 (r_9_9 (w := 0) h_a0).2)).2) (r_2_2 (ka_1 (r_7_1 (w := 0) (ka_1 (r_9_9 (w := 0) h_a0).2)).2)).1 ?_
        refine e_iload_n 2 dX9_playAll_129 rfl rfl ?_
        obtain ⟨q30, h⟩ := gd_some h
        refine s_iald dX9_playAll_130 (r_2_2 (w := 0) (ka_1 (r_7_1 (w := 0) (ka_1 (r_9_9 (w := 0) h_a0).2)).2)).2 q30 ?_
        obtain ⟨q31, h⟩ := gd_some h
        refine s_iast dX9_playAll_131 (r_9_11 (w := 0) h_a0).2 q31 ?_
        obtain ⟨σ32, q33, h⟩ := lt_some h
        refine s_nms q33 ?_
        obtain ⟨x34, q35, h⟩ := lt_some h
        refine e_iinc (v := x34) (L' := [(0, .ref a0), (1, .int i1), (2, .int i2), (3, .int i3), (4, .int i4), (5, .int x34)]) 5 dX9_playAll_132 rfl q35.symm (by decide) rfl ?_
        refine e_goto 21 dX9_playAll_135 (by decide) ?_
        refine s_pick (L' := [(0, .ref a0), (1, .int i1), (2, .int i2), (3, .int i3), (4, .int i4), (5, .int x34)]) [0, 1, 2, 3, 4, 5] rfl ?_
        exact H21 x34 σ32 h
def f_X9_playAll_3 (a0 : Nat) (i1 : Int32) (i2 : Int32) (i3 : Int32) (i4 : Int32) (σ : mm_S) : Option (mm_S) :=
  lp lpN (fun (k3 : (Int32) → mm_S → Option (mm_S)) (v : Int32) (σ : mm_S) =>
    if (σ.1 (26 + 1) 3) ≤ v then
      some σ
    else
      f_X9_playAll_21 k3 a0 i1 i2 i3 v (0 : Int32) σ) i4 σ
theorem v_X9_playAll_3 {g : mm_G} (d : Nat) {a0 : Nat} {i1 : Int32} {i2 : Int32} {i3 : Int32} {i4 : Int32} {σ : mm_S} {res : mm_S}  (h_a0 : (mm_K a0).1 = 9) (h : f_X9_playAll_3 a0 i1 i2 i3 i4 σ = some res) : SV g (d + 5) yy_X9_playAll 3 [(0, .ref a0), (1, .int i1), (2, .int i2), (3, .int i3), (4, .int i4)] [] σ .null res := by
  unfold f_X9_playAll_3 at h
  refine lp_ind (P := fun v σ => SV g (d + 5) yy_X9_playAll 3 [(0, .ref a0), (1, .int i1), (2, .int i2), (3, .int i3), (4, .int v)] [] σ .null res) (fun k3 H3 v σ h => ?_) _ i4 σ h
  refine e_iload 4 dX9_playAll_3  rfl ?_
  refine e_aload_n 0 dX9_playAll_5 rfl rfl ?_
  refine s_getr dX9_playAll_6 fl_RX9_50 h_a0 (r_9_5 h_a0).1 ?_
  refine s_getr dX9_playAll_9 fl_RX9_71 (ka_1 (r_9_5 (w := 0) h_a0).2) (r_8_0 (ka_1 (r_9_5 (w := 0) h_a0).2)).1 ?_
  refine s_geti dX9_playAll_12 fl_RX9_128 (ka_1 (r_8_0 (w := 0) (ka_1 (r_9_5 (w := 0) h_a0).2)).2) ?_
  refine e_icmp_ge 144 dX9_playAll_15 (by decide) (fun c36 => ?_) (fun c36 => ?_)
  · rw [if_pos c36] at h
    obtain rfl := Option.some.inj h
    exact s_ret rfl rfl dX9_playAll_144
  · rw [if_neg c36] at h
    refine e_iconst (v := (0 : Int32)) dX9_playAll_18 (by decide) ?_
    refine e_istore (L' := [(0, .ref a0), (1, .int i1), (2, .int i2), (3, .int i3), (4, .int v), (5, .int (0 : Int32))]) dX9_playAll_19  (by decide) rfl ?_
    refine s_pick (L' := [(0, .ref a0), (1, .int i1), (2, .int i2), (3, .int i3), (4, .int v), (5, .int (0 : Int32))]) [0, 1, 2, 3, 4, 5] rfl ?_
    exact v_X9_playAll_21 d H3 h_a0 h
def f_X9_playAll (a0 : Nat) (i1 : Int32) (i2 : Int32) (i3 : Int32) (σ : mm_S) : Option (mm_S) :=
    f_X9_playAll_3 a0 i1 i2 i3 (0 : Int32) σ
theorem v_X9_playAll {g : mm_G} (d : Nat) {a0 : Nat} {i1 : Int32} {i2 : Int32} {i3 : Int32} {σ : mm_S} {res : mm_S} (h_a0 : (mm_K a0).1 = 9) (h : f_X9_playAll a0 i1 i2 i3 σ = some res) : SM g (d + 5) yy_X9_playAll [.ref a0, .int i1, .int i2, .int i3] σ .null res := by
  refine s_of (by decide) (Nat.le_of_ble_eq_true rfl) (L := [(0, .ref a0), (1, .int i1), (2, .int i2), (3, .int i3)]) rfl ?_
  unfold f_X9_playAll at h
  refine e_iconst (v := (0 : Int32)) dX9_playAll_0 (by decide) ?_
  refine e_istore (L' := [(0, .ref a0), (1, .int i1), (2, .int i2), (3, .int i3), (4, .int (0 : Int32))]) dX9_playAll_1  (by decide) rfl ?_
  refine s_pick (L' := [(0, .ref a0), (1, .int i1), (2, .int i2), (3, .int i3), (4, .int (0 : Int32))]) [0, 1, 2, 3, 4] rfl ?_
  exact v_X9_playAll_3 d h_a0 h
abbrev yy_X9_isSettled : mm_Y := (yX9_isSettled, cX9_isSettled, 6, (some .boolean))
theorem dX9_isSettled_0 : decode cX9_isSettled 0 = .ok (.iconst 0, 1) := by decide +kernel
theorem dX9_isSettled_1 : decode cX9_isSettled 1 = .ok (.istore 5, 2) := by decide +kernel
theorem dX9_isSettled_3 : decode cX9_isSettled 3 = .ok (.iload 5, 2) := by decide +kernel
theorem dX9_isSettled_5 : decode cX9_isSettled 5 = .ok (.aload_n 0, 1) := by decide +kernel
theorem dX9_isSettled_6 : decode cX9_isSettled 6 = .ok (.getfield 50, 3) := by decide +kernel
theorem dX9_isSettled_9 : decode cX9_isSettled 9 = .ok (.getfield 71, 3) := by decide +kernel
theorem dX9_isSettled_12 : decode cX9_isSettled 12 = .ok (.getfield 128, 3) := by decide +kernel
theorem dX9_isSettled_15 : decode cX9_isSettled 15 = .ok (.if_icmp .ge 80, 3) := by decide +kernel
theorem dX9_isSettled_18 : decode cX9_isSettled 18 = .ok (.iload 5, 2) := by decide +kernel
theorem dX9_isSettled_20 : decode cX9_isSettled 20 = .ok (.iload_n 1, 1) := by decide +kernel
theorem dX9_isSettled_21 : decode cX9_isSettled 21 = .ok (.if_icmp .eq 31, 3) := by decide +kernel
theorem dX9_isSettled_24 : decode cX9_isSettled 24 = .ok (.aload_n 0, 1) := by decide +kernel
theorem dX9_isSettled_25 : decode cX9_isSettled 25 = .ok (.getfield 85, 3) := by decide +kernel
theorem dX9_isSettled_28 : decode cX9_isSettled 28 = .ok (.iload 5, 2) := by decide +kernel
theorem dX9_isSettled_30 : decode cX9_isSettled 30 = .ok (.iload 4, 2) := by decide +kernel
theorem dX9_isSettled_32 : decode cX9_isSettled 32 = .ok (.invokestatic 264, 3) := by decide +kernel
theorem dX9_isSettled_35 : decode cX9_isSettled 35 = .ok (.iaload, 1) := by decide +kernel
theorem dX9_isSettled_36 : decode cX9_isSettled 36 = .ok (.aload_n 0, 1) := by decide +kernel
theorem dX9_isSettled_37 : decode cX9_isSettled 37 = .ok (.getfield 85, 3) := by decide +kernel
theorem dX9_isSettled_40 : decode cX9_isSettled 40 = .ok (.iload_n 3, 1) := by decide +kernel
theorem dX9_isSettled_41 : decode cX9_isSettled 41 = .ok (.iload 4, 2) := by decide +kernel
theorem dX9_isSettled_43 : decode cX9_isSettled 43 = .ok (.invokestatic 264, 3) := by decide +kernel
theorem dX9_isSettled_46 : decode cX9_isSettled 46 = .ok (.iaload, 1) := by decide +kernel
theorem dX9_isSettled_47 : decode cX9_isSettled 47 = .ok (.if_icmp .ge 5, 3) := by decide +kernel
theorem dX9_isSettled_50 : decode cX9_isSettled 50 = .ok (.iconst 0, 1) := by decide +kernel
theorem dX9_isSettled_51 : decode cX9_isSettled 51 = .ok (.ireturn, 1) := by decide +kernel
theorem dX9_isSettled_52 : decode cX9_isSettled 52 = .ok (.iload 5, 2) := by decide +kernel
theorem dX9_isSettled_54 : decode cX9_isSettled 54 = .ok (.iload_n 2, 1) := by decide +kernel
theorem dX9_isSettled_55 : decode cX9_isSettled 55 = .ok (.if_icmp .eq 34, 3) := by decide +kernel
theorem dX9_isSettled_58 : decode cX9_isSettled 58 = .ok (.aload_n 0, 1) := by decide +kernel
theorem dX9_isSettled_59 : decode cX9_isSettled 59 = .ok (.getfield 85, 3) := by decide +kernel
theorem dX9_isSettled_62 : decode cX9_isSettled 62 = .ok (.iload_n 3, 1) := by decide +kernel
theorem dX9_isSettled_63 : decode cX9_isSettled 63 = .ok (.iload 5, 2) := by decide +kernel
theorem dX9_isSettled_65 : decode cX9_isSettled 65 = .ok (.invokestatic 264, 3) := by decide +kernel
theorem dX9_isSettled_68 : decode cX9_isSettled 68 = .ok (.iconst 1, 1) := by decide +kernel
theorem dX9_isSettled_69 : decode cX9_isSettled 69 = .ok (.iadd, 1) := by decide +kernel
theorem dX9_isSettled_70 : decode cX9_isSettled 70 = .ok (.iaload, 1) := by decide +kernel
theorem dX9_isSettled_71 : decode cX9_isSettled 71 = .ok (.aload_n 0, 1) := by decide +kernel
theorem dX9_isSettled_72 : decode cX9_isSettled 72 = .ok (.getfield 85, 3) := by decide +kernel
theorem dX9_isSettled_75 : decode cX9_isSettled 75 = .ok (.iload_n 3, 1) := by decide +kernel
theorem dX9_isSettled_76 : decode cX9_isSettled 76 = .ok (.iload 4, 2) := by decide +kernel
theorem dX9_isSettled_78 : decode cX9_isSettled 78 = .ok (.invokestatic 264, 3) := by decide +kernel
theorem dX9_isSettled_81 : decode cX9_isSettled 81 = .ok (.iconst 1, 1) := by decide +kernel
theorem dX9_isSettled_82 : decode cX9_isSettled 82 = .ok (.iadd, 1) := by decide +kernel
theorem dX9_isSettled_83 : decode cX9_isSettled 83 = .ok (.iaload, 1) := by decide +kernel
theorem dX9_isSettled_84 : decode cX9_isSettled 84 = .ok (.if_icmp .ge 5, 3) := by decide +kernel
theorem dX9_isSettled_87 : decode cX9_isSettled 87 = .ok (.iconst 0, 1) := by decide +kernel
theorem dX9_isSettled_88 : decode cX9_isSettled 88 = .ok (.ireturn, 1) := by decide +kernel
theorem dX9_isSettled_89 : decode cX9_isSettled 89 = .ok (.iinc 5 1, 3) := by decide +kernel
theorem dX9_isSettled_92 : decode cX9_isSettled 92 = .ok (.goto (-89), 3) := by decide +kernel
theorem dX9_isSettled_95 : decode cX9_isSettled 95 = .ok (.iconst 1, 1) := by decide +kernel
theorem dX9_isSettled_96 : decode cX9_isSettled 96 = .ok (.ireturn, 1) := by decide +kernel
def f_X9_isSettled_52 (k3 : (Int32) → mm_S → Option (Int32 × mm_S)) (a0 : Nat) (i1 : Int32) (i2 : Int32) (i3 : Int32) (i4 : Int32) (i5 : Int32) (σ : mm_S) : Option (Int32 × mm_S) :=
    if i5 = i2 then
      lt (i5 + Int32.ofInt (1)) fun x2 =>
      k3 x2 σ
    else
      bd (f_X9_gameAt i3 i5 σ) fun r6 σ5 =>
      gd (r6 + (1 : Int32)) 72 <|
      bd (f_X9_gameAt i3 i4 σ5) fun r10 σ9 =>
      gd (r10 + (1 : Int32)) 72 <|
      if (σ9.1 212 (r10 + (1 : Int32)).toNatClampNeg) ≤ (σ5.1 212 (r6 + (1 : Int32)).toNatClampNeg) then
        lt (i5 + Int32.ofInt (1)) fun x13 =>
        k3 x13 σ9
      else
        some ((0 : Int32), σ9)
theorem v_X9_isSettled_52 {g : mm_G} (d : Nat) {k3 : (Int32) → mm_S → Option (Int32 × mm_S)} {a0 : Nat} {i1 : Int32} {i2 : Int32} {i3 : Int32} {i4 : Int32} {i5 : Int32} {σ : mm_S} {res : Int32 × mm_S} (H3 : ∀ v σ, k3 v σ = some res → SV g (d + 1) yy_X9_isSettled 3 [(0, .ref a0), (1, .int i1), (2, .int i2), (3, .int i3), (4, .int i4), (5, .int v)] [] σ (.int res.1) res.2) (h_a0 : (mm_K a0).1 = 9) (h : f_X9_isSettled_52 k3 a0 i1 i2 i3 i4 i5 σ = some res) : SV g (d + 1) yy_X9_isSettled 52 [(0, .ref a0), (1, .int i1), (2, .int i2), (3, .int i3), (4, .int i4), (5, .int i5)] [] σ (.int res.1) res.2 := by
  unfold f_X9_isSettled_52 at h
  refine e_iload 5 dX9_isSettled_52  rfl ?_
  refine e_iload_n 2 dX9_isSettled_54 rfl rfl ?_
  refine e_icmp_eq 89 dX9_isSettled_55 (by decide) (fun c1 => ?_) (fun c1 => ?_)
  · rw [if_pos c1] at h
    obtain ⟨x2, q3, h⟩ := lt_some h
    refine e_iinc (v := x2) (L' := [(0, .ref a0), (1, .int i1), (2, .int i2), (3, .int i3), (4, .int i4), (5, .int x2)]) 5 dX9_isSettled_89 rfl q3.symm (by decide) rfl ?_
    refine e_goto 3 dX9_isSettled_92 (by decide) ?_
    refine s_pick (L' := [(0, .ref a0), (1, .int i1), (2, .int i2), (3, .int i3), (4, .int i4), (5, .int x2)]) [0, 1, 2, 3, 4, 5] rfl ?_
    exact H3 x2 σ h
  · rw [if_neg c1] at h
    refine e_aload_n 0 dX9_isSettled_58 rfl rfl ?_
    refine s_getr dX9_isSettled_59 fl_RX9_85 h_a0 (r_9_11 h_a0).1 ?_
    refine e_iload_n 3 dX9_isSettled_62 rfl rfl ?_
    refine e_iload 5 dX9_isSettled_63  rfl ?_
    obtain ⟨r6, σ5, q4, h⟩ := bd_some h
    refine s_callSi [.int i3, .int i5] dX9_isSettled_65 ml_RX9_264 ⟨_, rfl, by decide⟩ rfl (v_X9_gameAt (d + 0)  q4) (Nat.le_of_ble_eq_true rfl) ?_
    refine e_iconst (v := (1 : Int32)) dX9_isSettled_68 (by decide) ?_
    refine e_iadd dX9_isSettled_69 ?_
    obtain ⟨q7, h⟩ := gd_some h
    refine s_iald dX9_isSettled_70 (r_9_11 (w := 0) h_a0).2 q7 ?_
    refine e_aload_n 0 dX9_isSettled_71 rfl rfl ?_
    refine s_getr dX9_isSettled_72 fl_RX9_85 h_a0 (r_9_11 h_a0).1 ?_
    refine e_iload_n 3 dX9_isSettled_75 rfl rfl ?_
    refine e_iload 4 dX9_isSettled_76  rfl ?_
    obtain ⟨r10, σ9, q8, h⟩ := bd_some h
    refine s_callSi [.int i3, .int i4] dX9_isSettled_78 ml_RX9_264 ⟨_, rfl, by decide⟩ rfl (v_X9_gameAt (d + 0)  q8) (Nat.le_of_ble_eq_true rfl) ?_
    refine e_iconst (v := (1 : Int32)) dX9_isSettled_81 (by decide) ?_
    refine e_iadd dX9_isSettled_82 ?_
    obtain ⟨q11, h⟩ := gd_some h
    refine s_iald dX9_isSettled_83 (r_9_11 (w := 0) h_a0).2 q11 ?_
    refine e_icmp_ge 89 dX9_isSettled_84 (by decide) (fun c12 => ?_) (fun c12 => ?_)
    · rw [if_pos c12] at h
      obtain ⟨x13, q14, h⟩ := lt_some h
      refine e_iinc (v := x13) (L' := [(0, .ref a0), (1, .int i1), (2, .int i2), (3, .int i3), (4, .int i4), (5, .int x13)]) 5 dX9_isSettled_89 rfl q14.symm (by decide) rfl ?_
      refine e_goto 3 dX9_isSettled_92 (by decide) ?_
      refine s_pick (L' := [(0, .ref a0), (1, .int i1), (2, .int i2), (3, .int i3), (4, .int i4), (5, .int x13)]) [0, 1, 2, 3, 4, 5] rfl ?_
      exact H3 x13 σ9 h
    · rw [if_neg c12] at h
      refine e_iconst (v := (0 : Int32)) dX9_isSettled_87 (by decide) ?_
      obtain rfl := Option.some.inj h
      exact s_ret rfl ⟨_, rfl, nb1 (Or.inl rfl)⟩ dX9_isSettled_88
def f_X9_isSettled_3 (a0 : Nat) (i1 : Int32) (i2 : Int32) (i3 : Int32) (i4 : Int32) (i5 : Int32) (σ : mm_S) : Option (Int32 × mm_S) :=
  lp lpN (fun (k3 : (Int32) → mm_S → Option (Int32 × mm_S)) (v : Int32) (σ : mm_S) =>
    if (σ.1 (26 + 1) 3) ≤ v then
      some ((1 : Int32), σ)
    else
      if v = i1 then
        f_X9_isSettled_52 k3 a0 i1 i2 i3 i4 v σ
      else
        bd (f_X9_gameAt v i4 σ) fun r19 σ18 =>
        gd r19 72 <|
        bd (f_X9_gameAt i3 i4 σ18) fun r23 σ22 =>
        gd r23 72 <|
        if (σ22.1 212 r23.toNatClampNeg) ≤ (σ18.1 212 r19.toNatClampNeg) then
          f_X9_isSettled_52 k3 a0 i1 i2 i3 i4 v σ22
        else
          some ((0 : Int32), σ22)) i5 σ
theorem v_X9_isSettled_3 {g : mm_G} (d : Nat) {a0 : Nat} {i1 : Int32} {i2 : Int32} {i3 : Int32} {i4 : Int32} {i5 : Int32} {σ : mm_S} {res : Int32 × mm_S}  (h_a0 : (mm_K a0).1 = 9) (h : f_X9_isSettled_3 a0 i1 i2 i3 i4 i5 σ = some res) : SV g (d + 1) yy_X9_isSettled 3 [(0, .ref a0), (1, .int i1), (2, .int i2), (3, .int i3), (4, .int i4), (5, .int i5)] [] σ (.int res.1) res.2 := by
  unfold f_X9_isSettled_3 at h
  refine lp_ind (P := fun v σ => SV g (d + 1) yy_X9_isSettled 3 [(0, .ref a0), (1, .int i1), (2, .int i2), (3, .int i3), (4, .int i4), (5, .int v)] [] σ (.int res.1) res.2) (fun k3 H3 v σ h => ?_) _ i5 σ h
  refine e_iload 5 dX9_isSettled_3  rfl ?_
  refine e_aload_n 0 dX9_isSettled_5 rfl rfl ?_
  refine s_getr dX9_isSettled_6 fl_RX9_50 h_a0 (r_9_5 h_a0).1 ?_
  refine s_getr dX9_isSettled_9 fl_RX9_71 (ka_1 (r_9_5 (w := 0) h_a0).2) (r_8_0 (ka_1 (r_9_5 (w := 0) h_a0).2)).1 ?_
  refine s_geti dX9_isSettled_12 fl_RX9_128 (ka_1 (r_8_0 (w := 0) (ka_1 (r_9_5 (w := 0) h_a0).2)).2) ?_
  refine e_icmp_ge 95 dX9_isSettled_15 (by decide) (fun c15 => ?_) (fun c15 => ?_)
  · rw [if_pos c15] at h
    refine e_iconst (v := (1 : Int32)) dX9_isSettled_95 (by decide) ?_
    obtain rfl := Option.some.inj h
    exact s_ret rfl ⟨_, rfl, nb1 (Or.inr rfl)⟩ dX9_isSettled_96
  · rw [if_neg c15] at h
    refine e_iload 5 dX9_isSettled_18  rfl ?_
    refine e_iload_n 1 dX9_isSettled_20 rfl rfl ?_
    refine e_icmp_eq 52 dX9_isSettled_21 (by decide) (fun c16 => ?_) (fun c16 => ?_)
    · rw [if_pos c16] at h
      refine s_pick (L' := [(0, .ref a0), (1, .int i1), (2, .int i2), (3, .int i3), (4, .int i4), (5, .int v)]) [0, 1, 2, 3, 4, 5] rfl ?_
      exact v_X9_isSettled_52 d H3 h_a0 h
    · rw [if_neg c16] at h
      refine e_aload_n 0 dX9_isSettled_24 rfl rfl ?_
      refine s_getr dX9_isSettled_25 fl_RX9_85 h_a0 (r_9_11 h_a0).1 ?_
      refine e_iload 5 dX9_isSettled_28  rfl ?_
      refine e_iload 4 dX9_isSettled_30  rfl ?_
      obtain ⟨r19, σ18, q17, h⟩ := bd_some h
      refine s_callSi [.int v, .int i4] dX9_isSettled_32 ml_RX9_264 ⟨_, rfl, by decide⟩ rfl (v_X9_gameAt (d + 0)  q17) (Nat.le_of_ble_eq_true rfl) ?_
      obtain ⟨q20, h⟩ := gd_some h
      refine s_iald dX9_isSettled_35 (r_9_11 (w := 0) h_a0).2 q20 ?_
      refine e_aload_n 0 dX9_isSettled_36 rfl rfl ?_
      refine s_getr dX9_isSettled_37 fl_RX9_85 h_a0 (r_9_11 h_a0).1 ?_
      refine e_iload_n 3 dX9_isSettled_40 rfl rfl ?_
      refine e_iload 4 dX9_isSettled_41  rfl ?_
      obtain ⟨r23, σ22, q21, h⟩ := bd_some h
      refine s_callSi [.int i3, .int i4] dX9_isSettled_43 ml_RX9_264 ⟨_, rfl, by decide⟩ rfl (v_X9_gameAt (d + 0)  q21) (Nat.le_of_ble_eq_true rfl) ?_
      obtain ⟨q24, h⟩ := gd_some h
      refine s_iald dX9_isSettled_46 (r_9_11 (w := 0) h_a0).2 q24 ?_
      refine e_icmp_ge 52 dX9_isSettled_47 (by decide) (fun c25 => ?_) (fun c25 => ?_)
      · rw [if_pos c25] at h
        refine s_pick (L' := [(0, .ref a0), (1, .int i1), (2, .int i2), (3, .int i3), (4, .int i4), (5, .int v)]) [0, 1, 2, 3, 4, 5] rfl ?_
        exact v_X9_isSettled_52 d H3 h_a0 h
      · rw [if_neg c25] at h
        refine e_iconst (v := (0 : Int32)) dX9_isSettled_50 (by decide) ?_
        obtain rfl := Option.some.inj h
        exact s_ret rfl ⟨_, rfl, nb1 (Or.inl rfl)⟩ dX9_isSettled_51
def f_X9_isSettled (a0 : Nat) (i1 : Int32) (i2 : Int32) (i3 : Int32) (i4 : Int32) (σ : mm_S) : Option (Int32 × mm_S) :=
    f_X9_isSettled_3 a0 i1 i2 i3 i4 (0 : Int32) σ
theorem v_X9_isSettled {g : mm_G} (d : Nat) {a0 : Nat} {i1 : Int32} {i2 : Int32} {i3 : Int32} {i4 : Int32} {σ : mm_S} {res : Int32 × mm_S} (h_a0 : (mm_K a0).1 = 9) (h : f_X9_isSettled a0 i1 i2 i3 i4 σ = some res) : SM g (d + 1) yy_X9_isSettled [.ref a0, .int i1, .int i2, .int i3, .int i4] σ (.int res.1) res.2 := by
  refine s_of (by decide) (Nat.le_of_ble_eq_true rfl) (L := [(0, .ref a0), (1, .int i1), (2, .int i2), (3, .int i3), (4, .int i4)]) rfl ?_
  unfold f_X9_isSettled at h
  refine e_iconst (v := (0 : Int32)) dX9_isSettled_0 (by decide) ?_
  refine e_istore (L' := [(0, .ref a0), (1, .int i1), (2, .int i2), (3, .int i3), (4, .int i4), (5, .int (0 : Int32))]) dX9_isSettled_1  (by decide) rfl ?_
  refine s_pick (L' := [(0, .ref a0), (1, .int i1), (2, .int i2), (3, .int i3), (4, .int i4), (5, .int (0 : Int32))]) [0, 1, 2, 3, 4, 5] rfl ?_
  exact v_X9_isSettled_3 d h_a0 h
