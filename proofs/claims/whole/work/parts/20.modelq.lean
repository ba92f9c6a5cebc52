abbrev yy_X10_areAlike : mm_Y := (yX10_areAlike, cX10_areAlike, 4, (some .boolean))
theorem dX10_areAlike_0 : decode cX10_areAlike 0 = .ok (.iload_n 2, 1) := by decide +kernel
theorem dX10_areAlike_1 : decode cX10_areAlike 1 = .ok (.iload_n 1, 1) := by decide +kernel
theorem dX10_areAlike_2 : decode cX10_areAlike 2 = .ok (.isub, 1) := by decide +kernel
theorem dX10_areAlike_3 : decode cX10_areAlike 3 = .ok (.bipush 12, 2) := by decide +kernel
theorem dX10_areAlike_5 : decode cX10_areAlike 5 = .ok (.irem, 1) := by decide +kernel
theorem dX10_areAlike_6 : decode cX10_areAlike 6 = .ok (.ifCond .eq 5, 3) := by decide +kernel
theorem dX10_areAlike_9 : decode cX10_areAlike 9 = .ok (.iconst 0, 1) := by decide +kernel
theorem dX10_areAlike_10 : decode cX10_areAlike 10 = .ok (.ireturn, 1) := by decide +kernel
theorem dX10_areAlike_11 : decode cX10_areAlike 11 = .ok (.iconst 0, 1) := by decide +kernel
theorem dX10_areAlike_12 : decode cX10_areAlike 12 = .ok (.istore_n 3, 1) := by decide +kernel
theorem dX10_areAlike_13 : decode cX10_areAlike 13 = .ok (.iload_n 3, 1) := by decide +kernel
theorem dX10_areAlike_14 : decode cX10_areAlike 14 = .ok (.bipush 12, 2) := by decide +kernel
theorem dX10_areAlike_16 : decode cX10_areAlike 16 = .ok (.if_icmp .ge 36, 3) := by decide +kernel
theorem dX10_areAlike_19 : decode cX10_areAlike 19 = .ok (.aload_n 0, 1) := by decide +kernel
theorem dX10_areAlike_20 : decode cX10_areAlike 20 = .ok (.getfield 73, 3) := by decide +kernel
theorem dX10_areAlike_23 : decode cX10_areAlike 23 = .ok (.bipush 12, 2) := by decide +kernel
theorem dX10_areAlike_25 : decode cX10_areAlike 25 = .ok (.iload_n 1, 1) := by decide +kernel
theorem dX10_areAlike_26 : decode cX10_areAlike 26 = .ok (.imul, 1) := by decide +kernel
theorem dX10_areAlike_27 : decode cX10_areAlike 27 = .ok (.iload_n 3, 1) := by decide +kernel
theorem dX10_areAlike_28 : decode cX10_areAlike 28 = .ok (.iadd, 1) := by decide +kernel
theorem dX10_areAlike_29 : decode cX10_areAlike 29 = .ok (.iaload, 1) := by decide +kernel
theorem dX10_areAlike_30 : decode cX10_areAlike 30 = .ok (.aload_n 0, 1) := by decide +kernel
theorem dX10_areAlike_31 : decode cX10_areAlike 31 = .ok (.getfield 73, 3) := by decide +kernel
theorem dX10_areAlike_34 : decode cX10_areAlike 34 = .ok (.bipush 12, 2) := by decide +kernel
theorem dX10_areAlike_36 : decode cX10_areAlike 36 = .ok (.iload_n 2, 1) := by decide +kernel
theorem dX10_areAlike_37 : decode cX10_areAlike 37 = .ok (.imul, 1) := by decide +kernel
theorem dX10_areAlike_38 : decode cX10_areAlike 38 = .ok (.iload_n 3, 1) := by decide +kernel
theorem dX10_areAlike_39 : decode cX10_areAlike 39 = .ok (.iadd, 1) := by decide +kernel
theorem dX10_areAlike_40 : decode cX10_areAlike 40 = .ok (.iaload, 1) := by decide +kernel
theorem dX10_areAlike_41 : decode cX10_areAlike 41 = .ok (.if_icmp .eq 5, 3) := by decide +kernel
theorem dX10_areAlike_44 : decode cX10_areAlike 44 = .ok (.iconst 0, 1) := by decide +kernel
theorem dX10_areAlike_45 : decode cX10_areAlike 45 = .ok (.ireturn, 1) := by decide +kernel
theorem dX10_areAlike_46 : decode cX10_areAlike 46 = .ok (.iinc 3 1, 3) := by decide +kernel
theorem dX10_areAlike_49 : decode cX10_areAlike 49 = .ok (.goto (-36), 3) := by decide +kernel
theorem dX10_areAlike_52 : decode cX10_areAlike 52 = .ok (.iconst 1, 1) := by decide +kernel
theorem dX10_areAlike_53 : decode cX10_areAlike 53 = .ok (.ireturn, 1) := by decide +kernel
def f_X10_areAlike_13 (a0 : Nat) (i1 : Int32) (i2 : Int32) (i3 : Int32) (σ : mm_S) : Option (Int32 × mm_S) :=
  lp lpN (fun (k13 : (Int32) → mm_S → Option (Int32 × mm_S)) (v : Int32) (σ : mm_S) =>
    if (12 : Int32) ≤ v then
      some ((1 : Int32), σ)
    else
      gd (((12 : Int32) * i1) + v) 732 <|
      gd (((12 : Int32) * i2) + v) 732 <|
      if (σ.1 232 (((12 : Int32) * i1) + v).toNatClampNeg) = (σ.1 232 (((12 : Int32) * i2) + v).toNatClampNeg) then
        lt (v + Int32.ofInt (1)) fun x5 =>
        k13 x5 σ
      else
        some ((0 : Int32), σ)) i3 σ
theorem v_X10_areAlike_13 {g : mm_G} (d : Nat) {a0 : Nat} {i1 : Int32} {i2 : Int32} {i3 : Int32} {σ : mm_S} {res : Int32 × mm_S}  (h_a0 : (mm_K a0).1 = 10) (h : f_X10_areAlike_13 a0 i1 i2 i3 σ = some res) : SV g (d + 0) yy_X10_areAlike 13 [(0, .ref a0), (1, .int i1), (2, .int i2), (3, .int i3)] [] σ (.int res.1) res.2 := by
  unfold f_X10_areAlike_13 at h
  refine lp_ind (P := fun v σ => SV g (d + 0) yy_X10_areAlike 13 [(0, .ref a0), (1, .int i1), (2, .int i2), (3, .int v)] [] σ (.int res.1) res.2) (fun k13 H13 v σ h => ?_) _ i3 σ h
  refine e_iload_n 3 dX10_areAlike_13 rfl rfl ?_
  refine e_bipush (v := (12 : Int32)) dX10_areAlike_14 (by decide) ?_
  refine e_icmp_ge 52 dX10_areAlike_16 (by decide) (fun c1 => ?_) (fun c1 => ?_)
  · rw [if_pos c1] at h
    refine e_iconst (v := (1 : Int32)) dX10_areAlike_52 (by decide) ?_
    obtain rfl := Option.some.inj h
    exact s_ret rfl ⟨_, rfl, nb1 (Or.inr rfl)⟩ dX10_areAlike_53
  · rw [if_neg c1] at h
    refine e_aload_n 0 dX10_areAlike_19 rfl rfl ?_
    refine s_getr dX10_areAlike_20 fl_RX10_73 h_a0 (r_10_37 h_a0).1 ?_
    refine e_bipush (v := (12 : Int32)) dX10_areAlike_23 (by decide) ?_
    refine e_iload_n 1 dX10_areAlike_25 rfl rfl ?_
    refine e_imul dX10_areAlike_26 ?_
    refine e_iload_n 3 dX10_areAlike_27 rfl rfl ?_
    refine e_iadd dX10_areAlike_28 ?_
    obtain ⟨q2, h⟩ := gd_some h
    refine s_iald dX10_areAlike_29 (r_10_37 (w := 0) h_a0).2 q2 ?_
    refine e_aload_n 0 dX10_areAlike_30 rfl rfl ?_
    refine s_getr dX10_areAlike_31 fl_RX10_73 h_a0 (r_10_37 h_a0).1 ?_
    refine e_bipush (v := (12 : Int32)) dX10_areAlike_34 (by decide) ?_
    refine e_iload_n 2 dX10_areAlike_36 rfl rfl ?_
    refine e_imul dX10_areAlike_37 ?_
    refine e_iload_n 3 dX10_areAlike_38 rfl rfl ?_
    refine e_iadd dX10_areAlike_39 ?_
    obtain ⟨q3, h⟩ := gd_some h
    refine s_iald dX10_areAlike_40 (r_10_37 (w := 0) h_a0).2 q3 ?_
    refine e_icmp_eq 46 dX10_areAlike_41 (by decide) (fun c4 => ?_) (fun c4 => ?_)
    · rw [if_pos c4] at h
      obtain ⟨x5, q6, h⟩ := lt_some h
      refine e_iinc (v := x5) (L' := [(0, .ref a0), (1, .int i1), (2, .int i2), (3, .int x5)]) 3 dX10_areAlike_46 rfl q6.symm (by decide) rfl ?_
      refine e_goto 13 dX10_areAlike_49 (by decide) ?_
      refine s_pick (L' := [(0, .ref a0), (1, .int i1), (2, .int i2), (3, .int x5)]) [0, 1, 2, 3] rfl ?_
      exact H13 x5 σ h
    · rw [if_neg c4] at h
      refine e_iconst (v := (0 : Int32)) dX10_areAlike_44 (by decide) ?_
      obtain rfl := Option.some.inj h
      exact s_ret rfl ⟨_, rfl, nb1 (Or.inl rfl)⟩ dX10_areAlike_45
def f_X10_areAlike (a0 : Nat) (i1 : Int32) (i2 : Int32) (σ : mm_S) : Option (Int32 × mm_S) :=
    if ((i2 - i1) - (i2 - i1) / (12 : Int32) * (12 : Int32)) = 0 then
      f_X10_areAlike_13 a0 i1 i2 (0 : Int32) σ
    else
      some ((0 : Int32), σ)
theorem v_X10_areAlike {g : mm_G} (d : Nat) {a0 : Nat} {i1 : Int32} {i2 : Int32} {σ : mm_S} {res : Int32 × mm_S} (h_a0 : (mm_K a0).1 = 10) (h : f_X10_areAlike a0 i1 i2 σ = some res) : SM g (d + 0) yy_X10_areAlike [.ref a0, .int i1, .int i2] σ (.int res.1) res.2 := by
  refine s_of (by decide) (Nat.le_of_ble_eq_true rfl) (L := [(0, .ref a0), (1, .int i1), (2, .int i2)]) rfl ?_
  unfold f_X10_areAlike at h
  refine e_iload_n 2 dX10_areAlike_0 rfl rfl ?_
  refine e_iload_n 1 dX10_areAlike_1 rfl rfl ?_
  refine e_isub dX10_areAlike_2 ?_
  refine e_bipush (v := (12 : Int32)) dX10_areAlike_3 (by decide) ?_
  refine e_irem dX10_areAlike_5 (by decide) ?_
  refine e_if_eq 11 dX10_areAlike_6 (by decide) (fun c8 => ?_) (fun c8 => ?_)
  · rw [if_pos c8] at h
    refine e_iconst (v := (0 : Int32)) dX10_areAlike_11 (by decide) ?_
    refine e_istore_n (L' := [(0, .ref a0), (1, .int i1), (2, .int i2), (3, .int (0 : Int32))]) dX10_areAlike_12 rfl (by decide) rfl ?_
    refine s_pick (L' := [(0, .ref a0), (1, .int i1), (2, .int i2), (3, .int (0 : Int32))]) [0, 1, 2, 3] rfl ?_
    exact v_X10_areAlike_13 d h_a0 h
  · rw [if_neg c8] at h
    refine e_iconst (v := (0 : Int32)) dX10_areAlike_9 (by decide) ?_
    obtain rfl := Option.some.inj h
    exact s_ret rfl ⟨_, rfl, nb1 (Or.inl rfl)⟩ dX10_areAlike_10
abbrev yy_X10_ring : mm_Y := (yX10_ring, cX10_ring, 4, (some .int))
theorem dX10_ring_0 : decode cX10_ring 0 = .ok (.aload_n 0, 1) := by decide +kernel
theorem dX10_ring_1 : decode cX10_ring 1 = .ok (.invokevirtual 379, 3) := by decide +kernel
theorem dX10_ring_4 : decode cX10_ring 4 = .ok (.ifCond .eq 13, 3) := by decide +kernel
theorem dX10_ring_7 : decode cX10_ring 7 = .ok (.iload_n 1, 1) := by decide +kernel
theorem dX10_ring_8 : decode cX10_ring 8 = .ok (.i2l, 1) := by decide +kernel
theorem dX10_ring_9 : decode cX10_ring 9 = .ok (.lconst 0, 1) := by decide +kernel
theorem dX10_ring_10 : decode cX10_ring 10 = .ok (.lconst 1, 1) := by decide +kernel
theorem dX10_ring_11 : decode cX10_ring 11 = .ok (.invokestatic 136, 3) := by decide +kernel
theorem dX10_ring_14 : decode cX10_ring 14 = .ok (.ifCond .ne 5, 3) := by decide +kernel
theorem dX10_ring_17 : decode cX10_ring 17 = .ok (.iconst (-1), 1) := by decide +kernel
theorem dX10_ring_18 : decode cX10_ring 18 = .ok (.ireturn, 1) := by decide +kernel
theorem dX10_ring_19 : decode cX10_ring 19 = .ok (.aload_n 0, 1) := by decide +kernel
theorem dX10_ring_20 : decode cX10_ring 20 = .ok (.invokevirtual 393, 3) := by decide +kernel
theorem dX10_ring_23 : decode cX10_ring 23 = .ok (.iconst 0, 1) := by decide +kernel
theorem dX10_ring_24 : decode cX10_ring 24 = .ok (.istore_n 2, 1) := by decide +kernel
theorem dX10_ring_25 : decode cX10_ring 25 = .ok (.iload_n 2, 1) := by decide +kernel
theorem dX10_ring_26 : decode cX10_ring 26 = .ok (.bipush 60, 2) := by decide +kernel
theorem dX10_ring_28 : decode cX10_ring 28 = .ok (.if_icmp .gt 71, 3) := by decide +kernel
theorem dX10_ring_31 : decode cX10_ring 31 = .ok (.iconst 0, 1) := by decide +kernel
theorem dX10_ring_32 : decode cX10_ring 32 = .ok (.istore_n 3, 1) := by decide +kernel
theorem dX10_ring_33 : decode cX10_ring 33 = .ok (.iload_n 3, 1) := by decide +kernel
theorem dX10_ring_34 : decode cX10_ring 34 = .ok (.bipush 6, 2) := by decide +kernel
theorem dX10_ring_36 : decode cX10_ring 36 = .ok (.if_icmp .ge 52, 3) := by decide +kernel
theorem dX10_ring_39 : decode cX10_ring 39 = .ok (.aload_n 0, 1) := by decide +kernel
theorem dX10_ring_40 : decode cX10_ring 40 = .ok (.getfield 73, 3) := by decide +kernel
theorem dX10_ring_43 : decode cX10_ring 43 = .ok (.bipush 12, 2) := by decide +kernel
theorem dX10_ring_45 : decode cX10_ring 45 = .ok (.iload_n 2, 1) := by decide +kernel
theorem dX10_ring_46 : decode cX10_ring 46 = .ok (.imul, 1) := by decide +kernel
theorem dX10_ring_47 : decode cX10_ring 47 = .ok (.iload_n 3, 1) := by decide +kernel
theorem dX10_ring_48 : decode cX10_ring 48 = .ok (.iadd, 1) := by decide +kernel
theorem dX10_ring_49 : decode cX10_ring 49 = .ok (.aload_n 0, 1) := by decide +kernel
theorem dX10_ring_50 : decode cX10_ring 50 = .ok (.getfield 39, 3) := by decide +kernel
theorem dX10_ring_53 : decode cX10_ring 53 = .ok (.bipush 11, 2) := by decide +kernel
theorem dX10_ring_55 : decode cX10_ring 55 = .ok (.iconst 5, 1) := by decide +kernel
theorem dX10_ring_56 : decode cX10_ring 56 = .ok (.iload_n 3, 1) := by decide +kernel
theorem dX10_ring_57 : decode cX10_ring 57 = .ok (.imul, 1) := by decide +kernel
theorem dX10_ring_58 : decode cX10_ring 58 = .ok (.iadd, 1) := by decide +kernel
theorem dX10_ring_59 : decode cX10_ring 59 = .ok (.iconst 2, 1) := by decide +kernel
theorem dX10_ring_60 : decode cX10_ring 60 = .ok (.iadd, 1) := by decide +kernel
theorem dX10_ring_61 : decode cX10_ring 61 = .ok (.iaload, 1) := by decide +kernel
theorem dX10_ring_62 : decode cX10_ring 62 = .ok (.iastore, 1) := by decide +kernel
theorem dX10_ring_63 : decode cX10_ring 63 = .ok (.aload_n 0, 1) := by decide +kernel
theorem dX10_ring_64 : decode cX10_ring 64 = .ok (.getfield 73, 3) := by decide +kernel
theorem dX10_ring_67 : decode cX10_ring 67 = .ok (.bipush 12, 2) := by decide +kernel
theorem dX10_ring_69 : decode cX10_ring 69 = .ok (.iload_n 2, 1) := by decide +kernel
theorem dX10_ring_70 : decode cX10_ring 70 = .ok (.imul, 1) := by decide +kernel
theorem dX10_ring_71 : decode cX10_ring 71 = .ok (.bipush 6, 2) := by decide +kernel
theorem dX10_ring_73 : decode cX10_ring 73 = .ok (.iadd, 1) := by decide +kernel
theorem dX10_ring_74 : decode cX10_ring 74 = .ok (.iload_n 3, 1) := by decide +kernel
theorem dX10_ring_75 : decode cX10_ring 75 = .ok (.iadd, 1) := by decide +kernel
theorem dX10_ring_76 : decode cX10_ring 76 = .ok (.aload_n 0, 1) := by decide +kernel
theorem dX10_ring_77 : decode cX10_ring 77 = .ok (.iload_n 3, 1) := by decide +kernel
theorem dX10_ring_78 : decode cX10_ring 78 = .ok (.invokevirtual 305, 3) := by decide +kernel
theorem dX10_ring_81 : decode cX10_ring 81 = .ok (.iastore, 1) := by decide +kernel
theorem dX10_ring_82 : decode cX10_ring 82 = .ok (.iinc 3 1, 3) := by decide +kernel
theorem dX10_ring_85 : decode cX10_ring 85 = .ok (.goto (-52), 3) := by decide +kernel
theorem dX10_ring_88 : decode cX10_ring 88 = .ok (.aload_n 0, 1) := by decide +kernel
theorem dX10_ring_89 : decode cX10_ring 89 = .ok (.invokevirtual 376, 3) := by decide +kernel
theorem dX10_ring_92 : decode cX10_ring 92 = .ok (.pop, 1) := by decide +kernel
theorem dX10_ring_93 : decode cX10_ring 93 = .ok (.iinc 2 1, 3) := by decide +kernel
theorem dX10_ring_96 : decode cX10_ring 96 = .ok (.goto (-71), 3) := by decide +kernel
theorem dX10_ring_99 : decode cX10_ring 99 = .ok (.aload_n 0, 1) := by decide +kernel
theorem dX10_ring_100 : decode cX10_ring 100 = .ok (.invokevirtual 399, 3) := by decide +kernel
theorem dX10_ring_103 : decode cX10_ring 103 = .ok (.iconst 0, 1) := by decide +kernel
theorem dX10_ring_104 : decode cX10_ring 104 = .ok (.istore_n 2, 1) := by decide +kernel
theorem dX10_ring_105 : decode cX10_ring 105 = .ok (.iload_n 2, 1) := by decide +kernel
theorem dX10_ring_106 : decode cX10_ring 106 = .ok (.bipush 60, 2) := by decide +kernel
theorem dX10_ring_108 : decode cX10_ring 108 = .ok (.if_icmp .ge 54, 3) := by decide +kernel
theorem dX10_ring_111 : decode cX10_ring 111 = .ok (.iload_n 2, 1) := by decide +kernel
theorem dX10_ring_112 : decode cX10_ring 112 = .ok (.iconst 1, 1) := by decide +kernel
theorem dX10_ring_113 : decode cX10_ring 113 = .ok (.iadd, 1) := by decide +kernel
theorem dX10_ring_114 : decode cX10_ring 114 = .ok (.istore_n 3, 1) := by decide +kernel
theorem dX10_ring_115 : decode cX10_ring 115 = .ok (.iload_n 3, 1) := by decide +kernel
theorem dX10_ring_116 : decode cX10_ring 116 = .ok (.bipush 60, 2) := by decide +kernel
theorem dX10_ring_118 : decode cX10_ring 118 = .ok (.if_icmp .gt 38, 3) := by decide +kernel
theorem dX10_ring_121 : decode cX10_ring 121 = .ok (.aload_n 0, 1) := by decide +kernel
theorem dX10_ring_122 : decode cX10_ring 122 = .ok (.iload_n 2, 1) := by decide +kernel
theorem dX10_ring_123 : decode cX10_ring 123 = .ok (.iload_n 3, 1) := by decide +kernel
theorem dX10_ring_124 : decode cX10_ring 124 = .ok (.invokevirtual 431, 3) := by decide +kernel
theorem dX10_ring_127 : decode cX10_ring 127 = .ok (.ifCond .eq 23, 3) := by decide +kernel
theorem dX10_ring_130 : decode cX10_ring 130 = .ok (.iload_n 1, 1) := by decide +kernel
theorem dX10_ring_131 : decode cX10_ring 131 = .ok (.ifCond .ne 15, 3) := by decide +kernel
theorem dX10_ring_134 : decode cX10_ring 134 = .ok (.aload_n 0, 1) := by decide +kernel
theorem dX10_ring_135 : decode cX10_ring 135 = .ok (.getfield 39, 3) := by decide +kernel
theorem dX10_ring_138 : decode cX10_ring 138 = .ok (.bipush 10, 2) := by decide +kernel
theorem dX10_ring_140 : decode cX10_ring 140 = .ok (.iaload, 1) := by decide +kernel
theorem dX10_ring_141 : decode cX10_ring 141 = .ok (.iload_n 2, 1) := by decide +kernel
theorem dX10_ring_142 : decode cX10_ring 142 = .ok (.iadd, 1) := by decide +kernel
theorem dX10_ring_143 : decode cX10_ring 143 = .ok (.goto 6, 3) := by decide +kernel
theorem dX10_ring_146 : decode cX10_ring 146 = .ok (.iload_n 3, 1) := by decide +kernel
theorem dX10_ring_147 : decode cX10_ring 147 = .ok (.iload_n 2, 1) := by decide +kernel
theorem dX10_ring_148 : decode cX10_ring 148 = .ok (.isub, 1) := by decide +kernel
theorem dX10_ring_149 : decode cX10_ring 149 = .ok (.ireturn, 1) := by decide +kernel
theorem dX10_ring_150 : decode cX10_ring 150 = .ok (.iinc 3 1, 3) := by decide +kernel
theorem dX10_ring_153 : decode cX10_ring 153 = .ok (.goto (-38), 3) := by decide +kernel
theorem dX10_ring_156 : decode cX10_ring 156 = .ok (.iinc 2 1, 3) := by decide +kernel
theorem dX10_ring_159 : decode cX10_ring 159 = .ok (.goto (-54), 3) := by decide +kernel
theorem dX10_ring_162 : decode cX10_ring 162 = .ok (.bipush (-2), 2) := by decide +kernel
theorem dX10_ring_164 : decode cX10_ring 164 = .ok (.ireturn, 1) := by decide +kernel
def f_X10_ring_115 (k105 : (Int32) → mm_S → Option (Int32 × mm_S)) (a0 : Nat) (i1 : Int32) (i2 : Int32) (i3 : Int32) (σ : mm_S) : Option (Int32 × mm_S) :=
  lp lpN (fun (k115 : (Int32) → mm_S → Option (Int32 × mm_S)) (v : Int32) (σ : mm_S) =>
    if (60 : Int32) < v then
      lt (i2 + Int32.ofInt (1)) fun x2 =>
      k105 x2 σ
    else
      bd (f_X10_areAlike a0 i2 v σ) fun r6 σ5 =>
      if r6 = 0 then
        lt (v + Int32.ofInt (1)) fun x8 =>
        k115 x8 σ5
      else
        if i1 = 0 then
          gd (10 : Int32) 121 <|
          some (((σ5.1 224 (10 : Int32).toNatClampNeg) + i2), σ5)
        else
          some ((v - i2), σ5)) i3 σ
theorem v_X10_ring_115 {g : mm_G} (d : Nat) {k105 : (Int32) → mm_S → Option (Int32 × mm_S)} {a0 : Nat} {i1 : Int32} {i2 : Int32} {i3 : Int32} {σ : mm_S} {res : Int32 × mm_S} (H105 : ∀ v σ, k105 v σ = some res → SV g (d + 7) yy_X10_ring 105 [(0, .ref a0), (1, .int i1), (2, .int v)] [] σ (.int res.1) res.2) (h_a0 : (mm_K a0).1 = 10) (h : f_X10_ring_115 k105 a0 i1 i2 i3 σ = some res) : SV g (d + 7) yy_X10_ring 115 [(0, .ref a0), (1, .int i1), (2, .int i2), (3, .int i3)] [] σ (.int res.1) res.2 := by
  unfold f_X10_ring_115 at h
  refine lp_ind (P := fun v σ => SV g (d + 7) yy_X10_ring 115 [(0, .ref a0), (1, .int i1), (2, .int i2), (3, .int v)] [] σ (.int res.1) res.2) (fun k115 H115 v σ h => ?_) _ i3 σ h
  refine e_iload_n 3 dX10_ring_115 rfl rfl ?_
  refine e_bipush (v := (60 : Int32)) dX10_ring_116 (by decide) ?_
  refine e_icmp_gt 156 dX10_ring_118 (by decide) (fun c1 => ?_) (fun c1 => ?_)
  · rw [if_pos c1] at h
    obtain ⟨x2, q3, h⟩ := lt_some h
    refine e_iinc (v := x2) (L' := [(0, .ref a0), (1, .int i1), (2, .int x2), (3, .int v)]) 2 dX10_ring_156 rfl q3.symm (by decide) rfl ?_
    refine e_goto 105 dX10_ring_159 (by decide) ?_
    refine s_pick (L' := [(0, .ref a0), (1, .int i1), (2, .int x2)]) [0, 1, 2] rfl ?_
    exact H105 x2 σ h
  · rw [if_neg c1] at h
    refine e_aload_n 0 dX10_ring_121 rfl rfl ?_
    refine e_iload_n 2 dX10_ring_122 rfl rfl ?_
    refine e_iload_n 3 dX10_ring_123 rfl rfl ?_
    obtain ⟨r6, σ5, q4, h⟩ := bd_some h
    refine s_callVi [.int i2, .int v] dX10_ring_124 ml_RX10_431 h_a0 ⟨_, rfl, by decide⟩ rfl (v_X10_areAlike (d + 6) h_a0 q4) (Nat.le_of_ble_eq_true rfl) ?_
    refine e_if_eq 150 dX10_ring_127 (by decide) (fun c7 => ?_) (fun c7 => ?_)
    · rw [if_pos c7] at h
      obtain ⟨x8, q9, h⟩ := lt_some h
      refine e_iinc (v := x8) (L' := [(0, .ref a0), (1, .int i1), (2, .int i2), (3, .int x8)]) 3 dX10_ring_150 rfl q9.symm (by decide) rfl ?_
      refine e_goto 115 dX10_ring_153 (by decide) ?_
      refine s_pick (L' := [(0, .ref a0), (1, .int i1), (2, .int i2), (3, .int x8)]) [0, 1, 2, 3] rfl ?_
      exact H115 x8 σ5 h
    · rw [if_neg c7] at h
      refine e_iload_n 1 dX10_ring_130 rfl rfl ?_
      refine e_if_ne 146 dX10_ring_131 (by decide) (fun c10 => ?_) (fun c10 => ?_)
      · rw [if_neg c10] at h
        refine e_iload_n 3 dX10_ring_146 rfl rfl ?_
        refine e_iload_n 2 dX10_ring_147 rfl rfl ?_
        refine e_isub dX10_ring_148 ?_
        obtain rfl := Option.some.inj h
        exact s_ret rfl ⟨_, rfl, rfl⟩ dX10_ring_149
      · rw [if_pos c10] at h
        refine e_aload_n 0 dX10_ring_134 rfl rfl ?_
        refine s_getr dX10_ring_135 fl_RX10_39 h_a0 (r_10_20 h_a0).1 ?_
        refine e_bipush (v := (10 : Int32)) dX10_ring_138 (by decide) ?_
        obtain ⟨q11, h⟩ := gd_some h
        refine s_iald dX10_ring_140 (r_10_20 (w := 0) h_a0).2 q11 ?_
        refine e_iload_n 2 dX10_ring_141 rfl rfl ?_
        refine e_iadd dX10_ring_142 ?_
        refine e_goto 149 dX10_ring_143 (by decide) ?_
        obtain rfl := Option.some.inj h
        exact s_ret rfl ⟨_, rfl, rfl⟩ dX10_ring_149
def f_X10_ring_105 (a0 : Nat) (i1 : Int32) (i2 : Int32) (σ : mm_S) : Option (Int32 × mm_S) :=
  lp lpN (fun (k105 : (Int32) → mm_S → Option (Int32 × mm_S)) (v : Int32) (σ : mm_S) =>
    if (60 : Int32) ≤ v then
      some ((-2 : Int32), σ)
    else
      lt ((v + (1 : Int32))) fun x13 =>
      f_X10_ring_115 k105 a0 i1 v x13 σ) i2 σ
theorem v_X10_ring_105 {g : mm_G} (d : Nat) {a0 : Nat} {i1 : Int32} {i2 : Int32} {σ : mm_S} {res : Int32 × mm_S}  (h_a0 : (mm_K a0).1 = 10) (h : f_X10_ring_105 a0 i1 i2 σ = some res) : SV g (d + 7) yy_X10_ring 105 [(0, .ref a0), (1, .int i1), (2, .int i2)] [] σ (.int res.1) res.2 := by
  unfold f_X10_ring_105 at h
  refine lp_ind (P := fun v σ => SV g (d + 7) yy_X10_ring 105 [(0, .ref a0), (1, .int i1), (2, .int v)] [] σ (.int res.1) res.2) (fun k105 H105 v σ h => ?_) _ i2 σ h
  refine e_iload_n 2 dX10_ring_105 rfl rfl ?_
  refine e_bipush (v := (60 : Int32)) dX10_ring_106 (by decide) ?_
  refine e_icmp_ge 162 dX10_ring_108 (by decide) (fun c12 => ?_) (fun c12 => ?_)
  · rw [if_pos c12] at h
    refine e_bipush (v := (-2 : Int32)) dX10_ring_162 (by decide) ?_
    obtain rfl := Option.some.inj h
    exact s_ret rfl ⟨_, rfl, rfl⟩ dX10_ring_164
  · rw [if_neg c12] at h
    refine e_iload_n 2 dX10_ring_111 rfl rfl ?_
    refine e_iconst (v := (1 : Int32)) dX10_ring_112 (by decide) ?_
    refine e_iadd dX10_ring_113 ?_
    obtain ⟨x13, q14, h⟩ := lt_some h
    refine s_nmi q14 ?_
    refine e_istore_n (L' := [(0, .ref a0), (1, .int i1), (2, .int v), (3, .int x13)]) dX10_ring_114 rfl (by decide) rfl ?_
    refine s_pick (L' := [(0, .ref a0), (1, .int i1), (2, .int v), (3, .int x13)]) [0, 1, 2, 3] rfl ?_
    exact v_X10_ring_115 d H105 h_a0 h
def f_X10_ring_33 (k25 : (Int32) → mm_S → Option (Int32 × mm_S)) (a0 : Nat) (i1 : Int32) (i2 : Int32) (i3 : Int32) (σ : mm_S) : Option (Int32 × mm_S) :=
  lp lpN (fun (k33 : (Int32) → mm_S → Option (Int32 × mm_S)) (v : Int32) (σ : mm_S) =>
    if (6 : Int32) ≤ v then
      bd (f_X10_passes a0 σ) fun r18 σ17 =>
      lt (i2 + Int32.ofInt (1)) fun x19 =>
      k25 x19 σ17
    else
      gd (((11 : Int32) + ((5 : Int32) * v)) + (2 : Int32)) 121 <|
      gd (((12 : Int32) * i2) + v) 732 <|
      lt (su_i σ 232 (((12 : Int32) * i2) + v).toNatClampNeg (σ.1 224 (((11 : Int32) + ((5 : Int32) * v)) + (2 : Int32)).toNatClampNeg)) fun σ23 =>
      bd (f_X10_soughtBy a0 v σ23) fun r27 σ26 =>
      gd ((((12 : Int32) * i2) + (6 : Int32)) + v) 732 <|
      lt (su_i σ26 232 ((((12 : Int32) * i2) + (6 : Int32)) + v).toNatClampNeg r27) fun σ29 =>
      lt (v + Int32.ofInt (1)) fun x31 =>
      k33 x31 σ29) i3 σ
theorem v_X10_ring_33 {g : mm_G} (d : Nat) {k25 : (Int32) → mm_S → Option (Int32 × mm_S)} {a0 : Nat} {i1 : Int32} {i2 : Int32} {i3 : Int32} {σ : mm_S} {res : Int32 × mm_S} (H25 : ∀ v σ, k25 v σ = some res → SV g (d + 7) yy_X10_ring 25 [(0, .ref a0), (1, .int i1), (2, .int v)] [] σ (.int res.1) res.2) (h_a0 : (mm_K a0).1 = 10) (h : f_X10_ring_33 k25 a0 i1 i2 i3 σ = some res) : SV g (d + 7) yy_X10_ring 33 [(0, .ref a0), (1, .int i1), (2, .int i2), (3, .int i3)] [] σ (.int res.1) res.2 := by
  unfold f_X10_ring_33 at h
  refine lp_ind (P := fun v σ => SV g (d + 7) yy_X10_ring 33 [(0, .ref a0), (1, .int i1), (2, .int i2), (3, .int v)] [] σ (.int res.1) res.2) (fun k33 H33 v σ h => ?_) _ i3 σ h
  refine e_iload_n 3 dX10_ring_33 rfl rfl ?_
  refine e_bipush (v := (6 : Int32)) dX10_ring_34 (by decide) ?_
  refine e_icmp_ge 88 dX10_ring_36 (by decide) (fun c15 => ?_) (fun c15 => ?_)
  · rw [if_pos c15] at h
    refine e_aload_n 0 dX10_ring_88 rfl rfl ?_
    obtain ⟨r18, σ17, q16, h⟩ := bd_some h
    refine s_callVi [] dX10_ring_89 ml_RX10_376 h_a0 ⟨_, rfl, by decide⟩ rfl (v_X10_passes (d + 0) h_a0 q16) (Nat.le_of_ble_eq_true rfl) ?_
    refine e_pop dX10_ring_92 rfl ?_
    obtain ⟨x19, q20, h⟩ := lt_some h
    refine e_iinc (v := x19) (L' := [(0, .ref a0), (1, .int i1), (2, .int x19), (3, .int v)]) 2 dX10_ring_93 rfl q20.symm (by decide) rfl ?_
    refine e_goto 25 dX10_ring_96 (by decide) ?_
    refine s_pick (L' := [(0, .ref a0), (1, .int i1), (2, .int x19)]) [0, 1, 2] rfl ?_
    exact H25 x19 σ17 h
  · rw [if_neg c15] at h
    refine e_aload_n 0 dX10_ring_39 rfl rfl ?_
    refine s_getr dX10_ring_40 fl_RX10_73 h_a0 (r_10_37 h_a0).1 ?_
    refine e_bipush (v := (12 : Int32)) dX10_ring_43 (by decide) ?_
    refine e_iload_n 2 dX10_ring_45 rfl rfl ?_
    refine e_imul dX10_ring_46 ?_
    refine e_iload_n 3 dX10_ring_47 rfl rfl ?_
    refine e_iadd dX10_ring_48 ?_
    refine e_aload_n 0 dX10_ring_49 rfl rfl ?_
    refine s_getr dX10_ring_50 fl_RX10_39 h_a0 (r_10_20 h_a0).1 ?_
    refine e_bipush (v := (11 : Int32)) dX10_ring_53 (by decide) ?_
    refine e_iconst (v := (5 : Int32)) dX10_ring_55 (by decide) ?_
    refine e_iload_n 3 dX10_ring_56 rfl rfl ?_
    refine e_imul dX10_ring_57 ?_
    refine e_iadd dX10_ring_58 ?_
    refine e_iconst (v := (2 : Int32)) dX10_ring_59 (by decide) ?_
    refine e_iadd dX10_ring_60 ?_
    obtain ⟨q21, h⟩ := gd_some h
    refine s_iald dX10_ring_61 (r_10_20 (w := 0) h_a0).2 q21 ?_
    obtain ⟨q22, h⟩ := gd_some h
    refine s_iast dX10_ring_62 (r_10_37 (w := 0) h_a0).2 q22 ?_
    obtain ⟨σ23, q24, h⟩ := lt_some h
    refine s_nms q24 ?_
    refine e_aload_n 0 dX10_ring_63 rfl rfl ?_
    refine s_getr dX10_ring_64 fl_RX10_73 h_a0 (r_10_37 h_a0).1 ?_
    refine e_bipush (v := (12 : Int32)) dX10_ring_67 (by decide) ?_
    refine e_iload_n 2 dX10_ring_69 rfl rfl ?_
    refine e_imul dX10_ring_70 ?_
    refine e_bipush (v := (6 : Int32)) dX10_ring_71 (by decide) ?_
    refine e_iadd dX10_ring_73 ?_
    refine e_iload_n 3 dX10_ring_74 rfl rfl ?_
    refine e_iadd dX10_ring_75 ?_
    refine e_aload_n 0 dX10_ring_76 rfl rfl ?_
    refine e_iload_n 3 dX10_ring_77 rfl rfl ?_
    obtain ⟨r27, σ26, q25, h⟩ := bd_some h
    refine s_callVi [.int v] dX10_ring_78 ml_RX10_305 h_a0 ⟨_, rfl, by decide⟩ rfl (v_X10_soughtBy (d + 6) h_a0 q25) (Nat.le_of_ble_eq_true rfl) ?_
    obtain ⟨q28, h⟩ := gd_some h
    refine s_iast dX10_ring_81 (r_10_37 (w := 0) h_a0).2 q28 ?_
    obtain ⟨σ29, q30, h⟩ := lt_some h
    refine s_nms q30 ?_
    obtain ⟨x31, q32, h⟩ := lt_some h
    refine e_iinc (v := x31) (L' := [(0, .ref a0), (1, .int i1), (2, .int i2), (3, .int x31)]) 3 dX10_ring_82 rfl q32.symm (by decide) rfl ?_
    refine e_goto 33 dX10_ring_85 (by decide) ?_
    refine s_pick (L' := [(0, .ref a0), (1, .int i1), (2, .int i2), (3, .int x31)]) [0, 1, 2, 3] rfl ?_
    exact H33 x31 σ29 h
def f_X10_ring_25 (a0 : Nat) (i1 : Int32) (i2 : Int32) (σ : mm_S) : Option (Int32 × mm_S) :=
  lp lpN (fun (k25 : (Int32) → mm_S → Option (Int32 × mm_S)) (v : Int32) (σ : mm_S) =>
    if (60 : Int32) < v then
      bv (f_X10_laysBack a0 σ) fun σ35 =>
      f_X10_ring_105 a0 i1 (0 : Int32) σ35
    else
      f_X10_ring_33 k25 a0 i1 v (0 : Int32) σ) i2 σ
theorem v_X10_ring_25 {g : mm_G} (d : Nat) {a0 : Nat} {i1 : Int32} {i2 : Int32} {σ : mm_S} {res : Int32 × mm_S}  (h_a0 : (mm_K a0).1 = 10) (h : f_X10_ring_25 a0 i1 i2 σ = some res) : SV g (d + 7) yy_X10_ring 25 [(0, .ref a0), (1, .int i1), (2, .int i2)] [] σ (.int res.1) res.2 := by
  unfold f_X10_ring_25 at h
  refine lp_ind (P := fun v σ => SV g (d + 7) yy_X10_ring 25 [(0, .ref a0), (1, .int i1), (2, .int v)] [] σ (.int res.1) res.2) (fun k25 H25 v σ h => ?_) _ i2 σ h
  refine e_iload_n 2 dX10_ring_25 rfl rfl ?_
  refine e_bipush (v := (60 : Int32)) dX10_ring_26 (by decide) ?_
  refine e_icmp_gt 99 dX10_ring_28 (by decide) (fun c33 => ?_) (fun c33 => ?_)
  · rw [if_pos c33] at h
    refine e_aload_n 0 dX10_ring_99 rfl rfl ?_
    obtain ⟨σ35, q34, h⟩ := bv_some h
    refine s_callVv [] dX10_ring_100 ml_RX10_399 h_a0 rfl rfl (v_X10_laysBack (d + 6) h_a0 q34) (Nat.le_of_ble_eq_true rfl) ?_
    refine e_iconst (v := (0 : Int32)) dX10_ring_103 (by decide) ?_
    refine e_istore_n (L' := [(0, .ref a0), (1, .int i1), (2, .int (0 : Int32))]) dX10_ring_104 rfl (by decide) rfl ?_
    refine s_pick (L' := [(0, .ref a0), (1, .int i1), (2, .int (0 : Int32))]) [0, 1, 2] rfl ?_
    exact v_X10_ring_105 d h_a0 h
  · rw [if_neg c33] at h
    refine e_iconst (v := (0 : Int32)) dX10_ring_31 (by decide) ?_
    refine e_istore_n (L' := [(0, .ref a0), (1, .int i1), (2, .int v), (3, .int (0 : Int32))]) dX10_ring_32 rfl (by decide) rfl ?_
    refine s_pick (L' := [(0, .ref a0), (1, .int i1), (2, .int v), (3, .int (0 : Int32))]) [0, 1, 2, 3] rfl ?_
    exact v_X10_ring_33 d H25 h_a0 h
def f_X10_ring (a0 : Nat) (i1 : Int32) (σ : mm_S) : Option (Int32 × mm_S) :=
    bd (f_X10_isHouse a0 σ) fun r48 σ47 =>
    if r48 = 0 then
      some ((-1 : Int32), σ47)
    else
      bd (f_X10_in (i1 : Int32).toInt64 (0 : Int64) (1 : Int64) σ47) fun r52 σ51 =>
      if r52 = 0 then
        some ((-1 : Int32), σ51)
      else
        bv (f_X10_keeps a0 σ51) fun σ55 =>
        f_X10_ring_25 a0 i1 (0 : Int32) σ55
theorem v_X10_ring {g : mm_G} (d : Nat) {a0 : Nat} {i1 : Int32} {σ : mm_S} {res : Int32 × mm_S} (h_a0 : (mm_K a0).1 = 10) (h : f_X10_ring a0 i1 σ = some res) : SM g (d + 7) yy_X10_ring [.ref a0, .int i1] σ (.int res.1) res.2 := by
  refine s_of (by decide) (Nat.le_of_ble_eq_true rfl) (L := [(0, .ref a0), (1, .int i1)]) rfl ?_
  unfold f_X10_ring at h
  refine e_aload_n 0 dX10_ring_0 rfl rfl ?_
  obtain ⟨r48, σ47, q46, h⟩ := bd_some h
  refine s_callVi [] dX10_ring_1 ml_RX10_379 h_a0 ⟨_, rfl, by decide⟩ rfl (v_X10_isHouse (d + 6) h_a0 q46) (Nat.le_of_ble_eq_true rfl) ?_
  refine e_if_eq 17 dX10_ring_4 (by decide) (fun c49 => ?_) (fun c49 => ?_)
  · rw [if_pos c49] at h
    refine e_iconst (v := (-1 : Int32)) dX10_ring_17 (by decide) ?_
    obtain rfl := Option.some.inj h
    exact s_ret rfl ⟨_, rfl, rfl⟩ dX10_ring_18
  · rw [if_neg c49] at h
    refine e_iload_n 1 dX10_ring_7 rfl rfl ?_
    refine e_i2l dX10_ring_8 ?_
    refine e_lconst (v := (0 : Int64)) dX10_ring_9 (by decide) ?_
    refine e_lconst (v := (1 : Int64)) dX10_ring_10 (by decide) ?_
    obtain ⟨r52, σ51, q50, h⟩ := bd_some h
    refine s_callSi [.long (i1 : Int32).toInt64, .long (0 : Int64), .long (1 : Int64)] dX10_ring_11 ml_RX10_136 ⟨_, rfl, by decide⟩ rfl (v_X10_in (d + 6)  q50) (Nat.le_of_ble_eq_true rfl) ?_
    refine e_if_ne 19 dX10_ring_14 (by decide) (fun c53 => ?_) (fun c53 => ?_)
    · rw [if_neg c53] at h
      refine e_aload_n 0 dX10_ring_19 rfl rfl ?_
      obtain ⟨σ55, q54, h⟩ := bv_some h
      refine s_callVv [] dX10_ring_20 ml_RX10_393 h_a0 rfl rfl (v_X10_keeps (d + 6) h_a0 q54) (Nat.le_of_ble_eq_true rfl) ?_
      refine e_iconst (v := (0 : Int32)) dX10_ring_23 (by decide) ?_
      refine e_istore_n (L' := [(0, .ref a0), (1, .int i1), (2, .int (0 : Int32))]) dX10_ring_24 rfl (by decide) rfl ?_
      refine s_pick (L' := [(0, .ref a0), (1, .int i1), (2, .int (0 : Int32))]) [0, 1, 2] rfl ?_
      exact v_X10_ring_25 d h_a0 h
    · rw [if_pos c53] at h
      refine e_iconst (v := (-1 : Int32)) dX10_ring_17 (by decide) ?_
      obtain rfl := Option.some.inj h
      exact s_ret rfl ⟨_, rfl, rfl⟩ dX10_ring_18
abbrev yy_X10_pennies : mm_Y := (yX10_pennies, cX10_pennies, 9, (some .int))
theorem dX10_pennies_0 : decode cX10_pennies 0 = .ok (.aload_n 0, 1) := by decide +kernel
theorem dX10_pennies_1 : decode cX10_pennies 1 = .ok (.iload_n 2, 1) := by decide +kernel
theorem dX10_pennies_2 : decode cX10_pennies 2 = .ok (.invokevirtual 320, 3) := by decide +kernel
theorem dX10_pennies_5 : decode cX10_pennies 5 = .ok (.ifCond .eq 15, 3) := by decide +kernel
theorem dX10_pennies_8 : decode cX10_pennies 8 = .ok (.iload_n 1, 1) := by decide +kernel
theorem dX10_pennies_9 : decode cX10_pennies 9 = .ok (.i2l, 1) := by decide +kernel
theorem dX10_pennies_10 : decode cX10_pennies 10 = .ok (.lconst 0, 1) := by decide +kernel
theorem dX10_pennies_11 : decode cX10_pennies 11 = .ok (.ldc2_w 434, 3) := by decide +kernel
theorem dX10_pennies_14 : decode cX10_pennies 14 = .ok (.invokestatic 136, 3) := by decide +kernel
theorem dX10_pennies_17 : decode cX10_pennies 17 = .ok (.ifCond .ne 5, 3) := by decide +kernel
theorem dX10_pennies_20 : decode cX10_pennies 20 = .ok (.iconst (-1), 1) := by decide +kernel
theorem dX10_pennies_21 : decode cX10_pennies 21 = .ok (.ireturn, 1) := by decide +kernel
theorem dX10_pennies_22 : decode cX10_pennies 22 = .ok (.aload_n 0, 1) := by decide +kernel
theorem dX10_pennies_23 : decode cX10_pennies 23 = .ok (.invokevirtual 425, 3) := by decide +kernel
theorem dX10_pennies_26 : decode cX10_pennies 26 = .ok (.istore_n 3, 1) := by decide +kernel
theorem dX10_pennies_27 : decode cX10_pennies 27 = .ok (.iload_n 3, 1) := by decide +kernel
theorem dX10_pennies_28 : decode cX10_pennies 28 = .ok (.ifCond .ne 5, 3) := by decide +kernel
theorem dX10_pennies_31 : decode cX10_pennies 31 = .ok (.iconst 0, 1) := by decide +kernel
theorem dX10_pennies_32 : decode cX10_pennies 32 = .ok (.ireturn, 1) := by decide +kernel
theorem dX10_pennies_33 : decode cX10_pennies 33 = .ok (.iload_n 1, 1) := by decide +kernel
theorem dX10_pennies_34 : decode cX10_pennies 34 = .ok (.aload_n 0, 1) := by decide +kernel
theorem dX10_pennies_35 : decode cX10_pennies 35 = .ok (.iload_n 2, 1) := by decide +kernel
theorem dX10_pennies_36 : decode cX10_pennies 36 = .ok (.invokevirtual 311, 3) := by decide +kernel
theorem dX10_pennies_39 : decode cX10_pennies 39 = .ok (.imul, 1) := by decide +kernel
theorem dX10_pennies_40 : decode cX10_pennies 40 = .ok (.istore 4, 2) := by decide +kernel
theorem dX10_pennies_42 : decode cX10_pennies 42 = .ok (.iload_n 1, 1) := by decide +kernel
theorem dX10_pennies_43 : decode cX10_pennies 43 = .ok (.istore 5, 2) := by decide +kernel
theorem dX10_pennies_45 : decode cX10_pennies 45 = .ok (.iconst 0, 1) := by decide +kernel
theorem dX10_pennies_46 : decode cX10_pennies 46 = .ok (.istore 6, 2) := by decide +kernel
theorem dX10_pennies_48 : decode cX10_pennies 48 = .ok (.iconst 0, 1) := by decide +kernel
theorem dX10_pennies_49 : decode cX10_pennies 49 = .ok (.istore 7, 2) := by decide +kernel
theorem dX10_pennies_51 : decode cX10_pennies 51 = .ok (.iload 7, 2) := by decide +kernel
theorem dX10_pennies_53 : decode cX10_pennies 53 = .ok (.aload_n 0, 1) := by decide +kernel
theorem dX10_pennies_54 : decode cX10_pennies 54 = .ok (.getfield 39, 3) := by decide +kernel
theorem dX10_pennies_57 : decode cX10_pennies 57 = .ok (.iconst 3, 1) := by decide +kernel
theorem dX10_pennies_58 : decode cX10_pennies 58 = .ok (.iaload, 1) := by decide +kernel
theorem dX10_pennies_59 : decode cX10_pennies 59 = .ok (.if_icmp .ge 66, 3) := by decide +kernel
theorem dX10_pennies_62 : decode cX10_pennies 62 = .ok (.iload_n 1, 1) := by decide +kernel
theorem dX10_pennies_63 : decode cX10_pennies 63 = .ok (.aload_n 0, 1) := by decide +kernel
theorem dX10_pennies_64 : decode cX10_pennies 64 = .ok (.iload 7, 2) := by decide +kernel
theorem dX10_pennies_66 : decode cX10_pennies 66 = .ok (.invokevirtual 311, 3) := by decide +kernel
theorem dX10_pennies_69 : decode cX10_pennies 69 = .ok (.imul, 1) := by decide +kernel
theorem dX10_pennies_70 : decode cX10_pennies 70 = .ok (.istore 8, 2) := by decide +kernel
theorem dX10_pennies_72 : decode cX10_pennies 72 = .ok (.iload 5, 2) := by decide +kernel
theorem dX10_pennies_74 : decode cX10_pennies 74 = .ok (.iload 8, 2) := by decide +kernel
theorem dX10_pennies_76 : decode cX10_pennies 76 = .ok (.iload_n 3, 1) := by decide +kernel
theorem dX10_pennies_77 : decode cX10_pennies 77 = .ok (.idiv, 1) := by decide +kernel
theorem dX10_pennies_78 : decode cX10_pennies 78 = .ok (.isub, 1) := by decide +kernel
theorem dX10_pennies_79 : decode cX10_pennies 79 = .ok (.istore 5, 2) := by decide +kernel
theorem dX10_pennies_81 : decode cX10_pennies 81 = .ok (.iload 6, 2) := by decide +kernel
theorem dX10_pennies_83 : decode cX10_pennies 83 = .ok (.iload 8, 2) := by decide +kernel
theorem dX10_pennies_85 : decode cX10_pennies 85 = .ok (.iload_n 3, 1) := by decide +kernel
theorem dX10_pennies_86 : decode cX10_pennies 86 = .ok (.irem, 1) := by decide +kernel
theorem dX10_pennies_87 : decode cX10_pennies 87 = .ok (.iload 4, 2) := by decide +kernel
theorem dX10_pennies_89 : decode cX10_pennies 89 = .ok (.iload_n 3, 1) := by decide +kernel
theorem dX10_pennies_90 : decode cX10_pennies 90 = .ok (.irem, 1) := by decide +kernel
theorem dX10_pennies_91 : decode cX10_pennies 91 = .ok (.if_icmp .gt 20, 3) := by decide +kernel
theorem dX10_pennies_94 : decode cX10_pennies 94 = .ok (.iload 8, 2) := by decide +kernel
theorem dX10_pennies_96 : decode cX10_pennies 96 = .ok (.iload_n 3, 1) := by decide +kernel
theorem dX10_pennies_97 : decode cX10_pennies 97 = .ok (.irem, 1) := by decide +kernel
theorem dX10_pennies_98 : decode cX10_pennies 98 = .ok (.iload 4, 2) := by decide +kernel
theorem dX10_pennies_100 : decode cX10_pennies 100 = .ok (.iload_n 3, 1) := by decide +kernel
theorem dX10_pennies_101 : decode cX10_pennies 101 = .ok (.irem, 1) := by decide +kernel
theorem dX10_pennies_102 : decode cX10_pennies 102 = .ok (.if_icmp .ne 13, 3) := by decide +kernel
theorem dX10_pennies_105 : decode cX10_pennies 105 = .ok (.iload 7, 2) := by decide +kernel
theorem dX10_pennies_107 : decode cX10_pennies 107 = .ok (.iload_n 2, 1) := by decide +kernel
theorem dX10_pennies_108 : decode cX10_pennies 108 = .ok (.if_icmp .ge 7, 3) := by decide +kernel
theorem dX10_pennies_111 : decode cX10_pennies 111 = .ok (.iconst 1, 1) := by decide +kernel
theorem dX10_pennies_112 : decode cX10_pennies 112 = .ok (.goto 4, 3) := by decide +kernel
theorem dX10_pennies_115 : decode cX10_pennies 115 = .ok (.iconst 0, 1) := by decide +kernel
theorem dX10_pennies_116 : decode cX10_pennies 116 = .ok (.iadd, 1) := by decide +kernel
theorem dX10_pennies_117 : decode cX10_pennies 117 = .ok (.istore 6, 2) := by decide +kernel
theorem dX10_pennies_119 : decode cX10_pennies 119 = .ok (.iinc 7 1, 3) := by decide +kernel
theorem dX10_pennies_122 : decode cX10_pennies 122 = .ok (.goto (-71), 3) := by decide +kernel
theorem dX10_pennies_125 : decode cX10_pennies 125 = .ok (.iload 4, 2) := by decide +kernel
theorem dX10_pennies_127 : decode cX10_pennies 127 = .ok (.iload_n 3, 1) := by decide +kernel
theorem dX10_pennies_128 : decode cX10_pennies 128 = .ok (.idiv, 1) := by decide +kernel
theorem dX10_pennies_129 : decode cX10_pennies 129 = .ok (.iload 6, 2) := by decide +kernel
theorem dX10_pennies_131 : decode cX10_pennies 131 = .ok (.iload 5, 2) := by decide +kernel
theorem dX10_pennies_133 : decode cX10_pennies 133 = .ok (.if_icmp .ge 7, 3) := by decide +kernel
theorem dX10_pennies_136 : decode cX10_pennies 136 = .ok (.iconst 1, 1) := by decide +kernel
theorem dX10_pennies_137 : decode cX10_pennies 137 = .ok (.goto 4, 3) := by decide +kernel
theorem dX10_pennies_140 : decode cX10_pennies 140 = .ok (.iconst 0, 1) := by decide +kernel
theorem dX10_pennies_141 : decode cX10_pennies 141 = .ok (.iadd, 1) := by decide +kernel
theorem dX10_pennies_142 : decode cX10_pennies 142 = .ok (.ireturn, 1) := by decide +kernel
def f_X10_pennies_111 (k51 : (Int32 × Int32 × Int32) → mm_S → Option (Int32 × mm_S)) (a0 : Nat) (i1 : Int32) (i2 : Int32) (i3 : Int32) (i4 : Int32) (i5 : Int32) (i7 : Int32) (s0 : Int32) (σ : mm_S) : Option (Int32 × mm_S) :=
    lt ((s0 + (1 : Int32))) fun x1 =>
    lt (i7 + Int32.ofInt (1)) fun x3 =>
    k51 (i5, x1, x3) σ
theorem v_X10_pennies_111 {g : mm_G} (d : Nat) {k51 : (Int32 × Int32 × Int32) → mm_S → Option (Int32 × mm_S)} {a0 : Nat} {i1 : Int32} {i2 : Int32} {i3 : Int32} {i4 : Int32} {i5 : Int32} {i7 : Int32} {s0 : Int32} {σ : mm_S} {res : Int32 × mm_S} (H51 : ∀ v σ, k51 v σ = some res → SV g (d + 2) yy_X10_pennies 51 [(0, .ref a0), (1, .int i1), (2, .int i2), (3, .int i3), (4, .int i4), (5, .int v.1), (6, .int v.2.1), (7, .int v.2.2)] [] σ (.int res.1) res.2) (h_a0 : (mm_K a0).1 = 10) (h : f_X10_pennies_111 k51 a0 i1 i2 i3 i4 i5 i7 s0 σ = some res) : SV g (d + 2) yy_X10_pennies 111 [(0, .ref a0), (1, .int i1), (2, .int i2), (3, .int i3), (4, .int i4), (5, .int i5), (7, .int i7)] [.int s0] σ (.int res.1) res.2 := by
  unfold f_X10_pennies_111 at h
  refine e_iconst (v := (1 : Int32)) dX10_pennies_111 (by decide) ?_
  refine e_goto 116 dX10_pennies_112 (by decide) ?_
  refine e_iadd dX10_pennies_116 ?_
  obtain ⟨x1, q2, h⟩ := lt_some h
  refine s_nmi q2 ?_
  refine e_istore (L' := [(0, .ref a0), (1, .int i1), (2, .int i2), (3, .int i3), (4, .int i4), (5, .int i5), (6, .int x1), (7, .int i7)]) dX10_pennies_117  (by decide) rfl ?_
  obtain ⟨x3, q4, h⟩ := lt_some h
  refine e_iinc (v := x3) (L' := [(0, .ref a0), (1, .int i1), (2, .int i2), (3, .int i3), (4, .int i4), (5, .int i5), (6, .int x1), (7, .int x3)]) 7 dX10_pennies_119 rfl q4.symm (by decide) rfl ?_
  refine e_goto 51 dX10_pennies_122 (by decide) ?_
  refine s_pick (L' := [(0, .ref a0), (1, .int i1), (2, .int i2), (3, .int i3), (4, .int i4), (5, .int i5), (6, .int x1), (7, .int x3)]) [0, 1, 2, 3, 4, 5, 6, 7] rfl ?_
  exact H51 (i5, x1, x3) σ h
def f_X10_pennies_115 (k51 : (Int32 × Int32 × Int32) → mm_S → Option (Int32 × mm_S)) (a0 : Nat) (i1 : Int32) (i2 : Int32) (i3 : Int32) (i4 : Int32) (i5 : Int32) (i7 : Int32) (s0 : Int32) (σ : mm_S) : Option (Int32 × mm_S) :=
    lt ((s0 + (0 : Int32))) fun x5 =>
    lt (i7 + Int32.ofInt (1)) fun x7 =>
    k51 (i5, x5, x7) σ
theorem v_X10_pennies_115 {g : mm_G} (d : Nat) {k51 : (Int32 × Int32 × Int32) → mm_S → Option (Int32 × mm_S)} {a0 : Nat} {i1 : Int32} {i2 : Int32} {i3 : Int32} {i4 : Int32} {i5 : Int32} {i7 : Int32} {s0 : Int32} {σ : mm_S} {res : Int32 × mm_S} (H51 : ∀ v σ, k51 v σ = some res → SV g (d + 2) yy_X10_pennies 51 [(0, .ref a0), (1, .int i1), (2, .int i2), (3, .int i3), (4, .int i4), (5, .int v.1), (6, .int v.2.1), (7, .int v.2.2)] [] σ (.int res.1) res.2) (h_a0 : (mm_K a0).1 = 10) (h : f_X10_pennies_115 k51 a0 i1 i2 i3 i4 i5 i7 s0 σ = some res) : SV g (d + 2) yy_X10_pennies 115 [(0, .ref a0), (1, .int i1), (2, .int i2), (3, .int i3), (4, .int i4), (5, .int i5), (7, .int i7)] [.int s0] σ (.int res.1) res.2 := by
  unfold f_X10_pennies_115 at h
  refine e_iconst (v := (0 : Int32)) dX10_pennies_115 (by decide) ?_
  refine e_iadd dX10_pennies_116 ?_
  obtain ⟨x5, q6, h⟩ := lt_some h
  refine s_nmi q6 ?_
  refine e_istore (L' := [(0, .ref a0), (1, .int i1), (2, .int i2), (3, .int i3), (4, .int i4), (5, .int i5), (6, .int x5), (7, .int i7)]) dX10_pennies_117  (by decide) rfl ?_
  obtain ⟨x7, q8, h⟩ := lt_some h
  refine e_iinc (v := x7) (L' := [(0, .ref a0), (1, .int i1), (2, .int i2), (3, .int i3), (4, .int i4), (5, .int i5), (6, .int x5), (7, .int x7)]) 7 dX10_pennies_119 rfl q8.symm (by decide) rfl ?_
  refine e_goto 51 dX10_pennies_122 (by decide) ?_
  refine s_pick (L' := [(0, .ref a0), (1, .int i1), (2, .int i2), (3, .int i3), (4, .int i4), (5, .int i5), (6, .int x5), (7, .int x7)]) [0, 1, 2, 3, 4, 5, 6, 7] rfl ?_
  exact H51 (i5, x5, x7) σ h
def f_X10_pennies_51 (a0 : Nat) (i1 : Int32) (i2 : Int32) (i3 : Int32) (i4 : Int32) (i5 : Int32) (i6 : Int32) (i7 : Int32) (σ : mm_S) : Option (Int32 × mm_S) :=
  lp lpN (fun (k51 : (Int32 × Int32 × Int32) → mm_S → Option (Int32 × mm_S)) (v : Int32 × Int32 × Int32) (σ : mm_S) =>
    gd (3 : Int32) 121 <|
    if (σ.1 224 (3 : Int32).toNatClampNeg) ≤ v.2.2 then
      gq i3 <|
      if v.1 ≤ v.2.1 then
        some (((i4 / i3) + (0 : Int32)), σ)
      else
        some (((i4 / i3) + (1 : Int32)), σ)
    else
      bd (f_X10_sleptBy a0 v.2.2 σ) fun r15 σ14 =>
      lt ((i1 * r15)) fun x16 =>
      gq i3 <|
      lt ((v.1 - (x16 / i3))) fun x19 =>
      gq i3 <|
      gq i3 <|
      if (i4 - i4 / i3 * i3) < (x16 - x16 / i3 * i3) then
        f_X10_pennies_111 k51 a0 i1 i2 i3 i4 x19 v.2.2 v.2.1 σ14
      else
        gq i3 <|
        gq i3 <|
        if (x16 - x16 / i3 * i3) = (i4 - i4 / i3 * i3) then
          if i2 ≤ v.2.2 then
            f_X10_pennies_115 k51 a0 i1 i2 i3 i4 x19 v.2.2 v.2.1 σ14
          else
            f_X10_pennies_111 k51 a0 i1 i2 i3 i4 x19 v.2.2 v.2.1 σ14
        else
          f_X10_pennies_115 k51 a0 i1 i2 i3 i4 x19 v.2.2 v.2.1 σ14) (i5, i6, i7) σ
theorem v_X10_pennies_51 {g : mm_G} (d : Nat) {a0 : Nat} {i1 : Int32} {i2 : Int32} {i3 : Int32} {i4 : Int32} {i5 : Int32} {i6 : Int32} {i7 : Int32} {σ : mm_S} {res : Int32 × mm_S}  (h_a0 : (mm_K a0).1 = 10) (h : f_X10_pennies_51 a0 i1 i2 i3 i4 i5 i6 i7 σ = some res) : SV g (d + 2) yy_X10_pennies 51 [(0, .ref a0), (1, .int i1), (2, .int i2), (3, .int i3), (4, .int i4), (5, .int i5), (6, .int i6), (7, .int i7)] [] σ (.int res.1) res.2 := by
  unfold f_X10_pennies_51 at h
  refine lp_ind (P := fun v σ => SV g (d + 2) yy_X10_pennies 51 [(0, .ref a0), (1, .int i1), (2, .int i2), (3, .int i3), (4, .int i4), (5, .int v.1), (6, .int v.2.1), (7, .int v.2.2)] [] σ (.int res.1) res.2) (fun k51 H51 v σ h => ?_) _ (i5, i6, i7) σ h
  refine e_iload 7 dX10_pennies_51  rfl ?_
  refine e_aload_n 0 dX10_pennies_53 rfl rfl ?_
  refine s_getr dX10_pennies_54 fl_RX10_39 h_a0 (r_10_20 h_a0).1 ?_
  refine e_iconst (v := (3 : Int32)) dX10_pennies_57 (by decide) ?_
  obtain ⟨q9, h⟩ := gd_some h
  refine s_iald dX10_pennies_58 (r_10_20 (w := 0) h_a0).2 q9 ?_
  refine e_icmp_ge 125 dX10_pennies_59 (by decide) (fun c10 => ?_) (fun c10 => ?_)
  · rw [if_pos c10] at h
    refine e_iload 4 dX10_pennies_125  rfl ?_
    refine e_iload_n 3 dX10_pennies_127 rfl rfl ?_
    obtain ⟨q11, h⟩ := gq_some h
    refine e_idiv dX10_pennies_128 q11 ?_
    refine e_iload 6 dX10_pennies_129  rfl ?_
    refine e_iload 5 dX10_pennies_131  rfl ?_
    refine e_icmp_ge 140 dX10_pennies_133 (by decide) (fun c12 => ?_) (fun c12 => ?_)
    · rw [if_pos c12] at h
      refine e_iconst (v := (0 : Int32)) dX10_pennies_140 (by decide) ?_
      refine e_iadd dX10_pennies_141 ?_
      obtain rfl := Option.some.inj h
      exact s_ret rfl ⟨_, rfl, rfl⟩ dX10_pennies_142
    · rw [if_neg c12] at h
      refine e_iconst (v := (1 : Int32)) dX10_pennies_136 (by decide) ?_
      refine e_goto 141 dX10_pennies_137 (by decide) ?_
      refine e_iadd dX10_pennies_141 ?_
      obtain rfl := Option.some.inj h
      exact s_ret rfl ⟨_, rfl, rfl⟩ dX10_pennies_142
  · rw [if_neg c10] at h
    refine e_iload_n 1 dX10_pennies_62 rfl rfl ?_
    refine e_aload_n 0 dX10_pennies_63 rfl rfl ?_
    refine e_iload 7 dX10_pennies_64  rfl ?_
    obtain ⟨r15, σ14, q13, h⟩ := bd_some h
    refine s_callVi [.int v.2.2] dX10_pennies_66 ml_RX10_311 h_a0 ⟨_, rfl, by decide⟩ rfl (v_X10_sleptBy (d + 1) h_a0 q13) (Nat.le_of_ble_eq_true rfl) ?_
    refine e_imul dX10_pennies_69 ?_
    obtain ⟨x16, q17, h⟩ := lt_some h
    refine s_nmi q17 ?_
    refine e_istore (L' := [(0, .ref a0), (1, .int i1), (2, .int i2), (3, .int i3), (4, .int i4), (5, .int v.1), (6, .int v.2.1), (7, .int v.2.2), (8, .int x16)]) dX10_pennies_70  (by decide) rfl ?_
    refine e_iload 5 dX10_pennies_72  rfl ?_
    refine e_iload 8 dX10_pennies_74  rfl ?_
    refine e_iload_n 3 dX10_pennies_76 rfl rfl ?_
    obtain ⟨q18, h⟩ := gq_some h
    refine e_idiv dX10_pennies_77 q18 ?_
    refine e_isub dX10_pennies_78 ?_
    obtain ⟨x19, q20, h⟩ := lt_some h
    refine s_nmi q20 ?_
    refine e_istore (L' := [(0, .ref a0), (1, .int i1), (2, .int i2), (3, .int i3), (4, .int i4), (5, .int x19), (6, .int v.2.1), (7, .int v.2.2), (8, .int x16)]) dX10_pennies_79  (by decide) rfl ?_
    refine e_iload 6 dX10_pennies_81  rfl ?_
    refine e_iload 8 dX10_pennies_83  rfl ?_
    refine e_iload_n 3 dX10_pennies_85 rfl rfl ?_
    obtain ⟨q21, h⟩ := gq_some h
    refine e_irem dX10_pennies_86 q21 ?_
    refine e_iload 4 dX10_pennies_87  rfl ?_
    refine e_iload_n 3 dX10_pennies_89 rfl rfl ?_
    obtain ⟨q22, h⟩ := gq_some h
    refine e_irem dX10_pennies_90 q22 ?_
    refine e_icmp_gt 111 dX10_pennies_91 (by decide) (fun c23 => ?_) (fun c23 => ?_)
    · rw [if_pos c23] at h
      refine s_pick (L' := [(0, .ref a0), (1, .int i1), (2, .int i2), (3, .int i3), (4, .int i4), (5, .int x19), (7, .int v.2.2)]) [0, 1, 2, 3, 4, 5, 7] rfl ?_
      exact v_X10_pennies_111 d H51 h_a0 h
    · rw [if_neg c23] at h
      refine e_iload 8 dX10_pennies_94  rfl ?_
      refine e_iload_n 3 dX10_pennies_96 rfl rfl ?_
      obtain ⟨q24, h⟩ := gq_some h
      refine e_irem dX10_pennies_97 q24 ?_
      refine e_iload 4 dX10_pennies_98  rfl ?_
      refine e_iload_n 3 dX10_pennies_100 rfl rfl ?_
      obtain ⟨q25, h⟩ := gq_some h
      refine e_irem dX10_pennies_101 q25 ?_
      refine e_icmp_ne 115 dX10_pennies_102 (by decide) (fun c26 => ?_) (fun c26 => ?_)
      · rw [if_neg c26] at h
        refine s_pick (L' := [(0, .ref a0), (1, .int i1), (2, .int i2), (3, .int i3), (4, .int i4), (5, .int x19), (7, .int v.2.2)]) [0, 1, 2, 3, 4, 5, 7] rfl ?_
        exact v_X10_pennies_115 d H51 h_a0 h
      · rw [if_pos c26] at h
        refine e_iload 7 dX10_pennies_105  rfl ?_
        refine e_iload_n 2 dX10_pennies_107 rfl rfl ?_
        refine e_icmp_ge 115 dX10_pennies_108 (by decide) (fun c27 => ?_) (fun c27 => ?_)
        · rw [if_pos c27] at h
          refine s_pick (L' := [(0, .ref a0), (1, .int i1), (2, .int i2), (3, .int i3), (4, .int i4), (5, .int x19), (7, .int v.2.2)]) [0, 1, 2, 3, 4, 5, 7] rfl ?_
          exact v_X10_pennies_115 d H51 h_a0 h
        · rw [if_neg c27] at h
          refine s_pick (L' := [(0, .ref a0), (1, .int i1), (2, .int i2), (3, .int i3), (4, .int i4), (5, .int x19), (7, .int v.2.2)]) [0, 1, 2, 3, 4, 5, 7] rfl ?_
          exact v_X10_pennies_111 d H51 h_a0 h
def f_X10_pennies (a0 : Nat) (i1 : Int32) (i2 : Int32) (σ : mm_S) : Option (Int32 × mm_S) :=
    bd (f_X10_isLodger a0 i2 σ) fun r47 σ46 =>
    if r47 = 0 then
      some ((-1 : Int32), σ46)
    else
      bd (f_X10_in (i1 : Int32).toInt64 (0 : Int64) (9999 : Int64) σ46) fun r51 σ50 =>
      if r51 = 0 then
        some ((-1 : Int32), σ50)
      else
        bd (f_X10_sleptAll a0 σ50) fun r55 σ54 =>
        if r55 = 0 then
          some ((0 : Int32), σ54)
        else
          bd (f_X10_sleptBy a0 i2 σ54) fun r59 σ58 =>
          lt ((i1 * r59)) fun x60 =>
          f_X10_pennies_51 a0 i1 i2 r55 x60 i1 (0 : Int32) (0 : Int32) σ58
theorem v_X10_pennies {g : mm_G} (d : Nat) {a0 : Nat} {i1 : Int32} {i2 : Int32} {σ : mm_S} {res : Int32 × mm_S} (h_a0 : (mm_K a0).1 = 10) (h : f_X10_pennies a0 i1 i2 σ = some res) : SM g (d + 2) yy_X10_pennies [.ref a0, .int i1, .int i2] σ (.int res.1) res.2 := by
  refine s_of (by decide) (Nat.le_of_ble_eq_true rfl) (L := [(0, .ref a0), (1, .int i1), (2, .int i2)]) rfl ?_
  unfold f_X10_pennies at h
  refine e_aload_n 0 dX10_pennies_0 rfl rfl ?_
  refine e_iload_n 2 dX10_pennies_1 rfl rfl ?_
  obtain ⟨r47, σ46, q45, h⟩ := bd_some h
  refine s_callVi [.int i2] dX10_pennies_2 ml_RX10_320 h_a0 ⟨_, rfl, by decide⟩ rfl (v_X10_isLodger (d + 1) h_a0 q45) (Nat.le_of_ble_eq_true rfl) ?_
  refine e_if_eq 20 dX10_pennies_5 (by decide) (fun c48 => ?_) (fun c48 => ?_)
  · rw [if_pos c48] at h
    refine e_iconst (v := (-1 : Int32)) dX10_pennies_20 (by decide) ?_
    obtain rfl := Option.some.inj h
    exact s_ret rfl ⟨_, rfl, rfl⟩ dX10_pennies_21
  · rw [if_neg c48] at h
    refine e_iload_n 1 dX10_pennies_8 rfl rfl ?_
    refine e_i2l dX10_pennies_9 ?_
    refine e_lconst (v := (0 : Int64)) dX10_pennies_10 (by decide) ?_
    refine e_ldc2 dX10_pennies_11 co_RX10_434 ?_
    obtain ⟨r51, σ50, q49, h⟩ := bd_some h
    refine s_callSi [.long (i1 : Int32).toInt64, .long (0 : Int64), .long (9999 : Int64)] dX10_pennies_14 ml_RX10_136 ⟨_, rfl, by decide⟩ rfl (v_X10_in (d + 1)  q49) (Nat.le_of_ble_eq_true rfl) ?_
    refine e_if_ne 22 dX10_pennies_17 (by decide) (fun c52 => ?_) (fun c52 => ?_)
    · rw [if_neg c52] at h
      refine e_aload_n 0 dX10_pennies_22 rfl rfl ?_
      obtain ⟨r55, σ54, q53, h⟩ := bd_some h
      refine s_callVi [] dX10_pennies_23 ml_RX10_425 h_a0 ⟨_, rfl, by decide⟩ rfl (v_X10_sleptAll (d + 0) h_a0 q53) (Nat.le_of_ble_eq_true rfl) ?_
      refine e_istore_n (L' := [(0, .ref a0), (1, .int i1), (2, .int i2), (3, .int r55)]) dX10_pennies_26 rfl (by decide) rfl ?_
      refine e_iload_n 3 dX10_pennies_27 rfl rfl ?_
      refine e_if_ne 33 dX10_pennies_28 (by decide) (fun c56 => ?_) (fun c56 => ?_)
      · rw [if_neg c56] at h
        refine e_iload_n 1 dX10_pennies_33 rfl rfl ?_
        refine e_aload_n 0 dX10_pennies_34 rfl rfl ?_
        refine e_iload_n 2 dX10_pennies_35 rfl rfl ?_
        obtain ⟨r59, σ58, q57, h⟩ := bd_some h
        refine s_callVi [.int i2] dX10_pennies_36 ml_RX10_311 h_a0 ⟨_, rfl, by decide⟩ rfl (v_X10_sleptBy (d + 1) h_a0 q57) (Nat.le_of_ble_eq_true rfl) ?_
        refine e_imul dX10_pennies_39 ?_
        obtain ⟨x60, q61, h⟩ := lt_some h
        refine s_nmi q61 ?_
        refine e_istore (L' := [(0, .ref a0), (1, .int i1), (2, .int i2), (3, .int r55), (4, .int x60)]) dX10_pennies_40  (by decide) rfl ?_
        refine e_iload_n 1 dX10_pennies_42 rfl rfl ?_
        refine e_istore (L' := [(0, .ref a0), (1, .int i1), (2, .int i2), (3, .int r55), (4, .int x60), (5, .int i1)]) dX10_pennies_43  (by decide) rfl ?_
        refine e_iconst (v := (0 : Int32)) dX10_pennies_45 (by decide) ?_
        refine e_istore (L' := [(0, .ref a0), (1, .int i1), (2, .int i2), (3, .int r55), (4, .int x60), (5, .int i1), (6, .int (0 : Int32))]) dX10_pennies_46  (by decide) rfl ?_
        refine e_iconst (v := (0 : Int32)) dX10_pennies_48 (by decide) ?_
        refine e_istore (L' := [(0, .ref a0), (1, .int i1), (2, .int i2), (3, .int r55), (4, .int x60), (5, .int i1), (6, .int (0 : Int32)), (7, .int (0 : Int32))]) dX10_pennies_49  (by decide) rfl ?_
        refine s_pick (L' := [(0, .ref a0), (1, .int i1), (2, .int i2), (3, .int r55), (4, .int x60), (5, .int i1), (6, .int (0 : Int32)), (7, .int (0 : Int32))]) [0, 1, 2, 3, 4, 5, 6, 7] rfl ?_
        exact v_X10_pennies_51 d h_a0 h
      · rw [if_pos c56] at h
        refine e_iconst (v := (0 : Int32)) dX10_pennies_31 (by decide) ?_
        obtain rfl := Option.some.inj h
        exact s_ret rfl ⟨_, rfl, rfl⟩ dX10_pennies_32
    · rw [if_pos c52] at h
      refine e_iconst (v := (-1 : Int32)) dX10_pennies_20 (by decide) ?_
      obtain rfl := Option.some.inj h
      exact s_ret rfl ⟨_, rfl, rfl⟩ dX10_pennies_21
