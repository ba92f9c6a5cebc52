abbrev yy_X9_rests : mm_Y := (yX9_rests, cX9_rests, 10, (some .int))
theorem dX9_rests_0 : decode cX9_rests 0 = .ok (.aload_n 0, 1) := by decide +kernel
theorem dX9_rests_1 : decode cX9_rests 1 = .ok (.iload_n 1, 1) := by decide +kernel
theorem dX9_rests_2 : decode cX9_rests 2 = .ok (.iload_n 2, 1) := by decide +kernel
theorem dX9_rests_3 : decode cX9_rests 3 = .ok (.invokevirtual 157, 3) := by decide +kernel
theorem dX9_rests_6 : decode cX9_rests 6 = .ok (.ifCond .eq 25, 3) := by decide +kernel
theorem dX9_rests_9 : decode cX9_rests 9 = .ok (.iload_n 3, 1) := by decide +kernel
theorem dX9_rests_10 : decode cX9_rests 10 = .ok (.iconst 1, 1) := by decide +kernel
theorem dX9_rests_11 : decode cX9_rests 11 = .ok (.if_icmp .lt 20, 3) := by decide +kernel
theorem dX9_rests_14 : decode cX9_rests 14 = .ok (.iload_n 3, 1) := by decide +kernel
theorem dX9_rests_15 : decode cX9_rests 15 = .ok (.bipush 20, 2) := by decide +kernel
theorem dX9_rests_17 : decode cX9_rests 17 = .ok (.if_icmp .gt 14, 3) := by decide +kernel
theorem dX9_rests_20 : decode cX9_rests 20 = .ok (.iload 4, 2) := by decide +kernel
theorem dX9_rests_22 : decode cX9_rests 22 = .ok (.ifCond .lt 9, 3) := by decide +kernel
theorem dX9_rests_25 : decode cX9_rests 25 = .ok (.iload 4, 2) := by decide +kernel
theorem dX9_rests_27 : decode cX9_rests 27 = .ok (.iconst 2, 1) := by decide +kernel
theorem dX9_rests_28 : decode cX9_rests 28 = .ok (.if_icmp .le 5, 3) := by decide +kernel
theorem dX9_rests_31 : decode cX9_rests 31 = .ok (.iconst (-1), 1) := by decide +kernel
theorem dX9_rests_32 : decode cX9_rests 32 = .ok (.ireturn, 1) := by decide +kernel
theorem dX9_rests_33 : decode cX9_rests 33 = .ok (.aload_n 0, 1) := by decide +kernel
theorem dX9_rests_34 : decode cX9_rests 34 = .ok (.iload_n 1, 1) := by decide +kernel
theorem dX9_rests_35 : decode cX9_rests 35 = .ok (.iload_n 2, 1) := by decide +kernel
theorem dX9_rests_36 : decode cX9_rests 36 = .ok (.iload_n 3, 1) := by decide +kernel
theorem dX9_rests_37 : decode cX9_rests 37 = .ok (.invokevirtual 254, 3) := by decide +kernel
theorem dX9_rests_40 : decode cX9_rests 40 = .ok (.iconst 0, 1) := by decide +kernel
theorem dX9_rests_41 : decode cX9_rests 41 = .ok (.istore 5, 2) := by decide +kernel
theorem dX9_rests_43 : decode cX9_rests 43 = .ok (.bipush (-2), 2) := by decide +kernel
theorem dX9_rests_45 : decode cX9_rests 45 = .ok (.istore 6, 2) := by decide +kernel
theorem dX9_rests_47 : decode cX9_rests 47 = .ok (.bipush (-2), 2) := by decide +kernel
theorem dX9_rests_49 : decode cX9_rests 49 = .ok (.istore 7, 2) := by decide +kernel
theorem dX9_rests_51 : decode cX9_rests 51 = .ok (.iconst 0, 1) := by decide +kernel
theorem dX9_rests_52 : decode cX9_rests 52 = .ok (.istore 8, 2) := by decide +kernel
theorem dX9_rests_54 : decode cX9_rests 54 = .ok (.iload 8, 2) := by decide +kernel
theorem dX9_rests_56 : decode cX9_rests 56 = .ok (.aload_n 0, 1) := by decide +kernel
theorem dX9_rests_57 : decode cX9_rests 57 = .ok (.getfield 50, 3) := by decide +kernel
theorem dX9_rests_60 : decode cX9_rests 60 = .ok (.getfield 71, 3) := by decide +kernel
theorem dX9_rests_63 : decode cX9_rests 63 = .ok (.getfield 128, 3) := by decide +kernel
theorem dX9_rests_66 : decode cX9_rests 66 = .ok (.if_icmp .ge 74, 3) := by decide +kernel
theorem dX9_rests_69 : decode cX9_rests 69 = .ok (.iconst 0, 1) := by decide +kernel
theorem dX9_rests_70 : decode cX9_rests 70 = .ok (.istore 9, 2) := by decide +kernel
theorem dX9_rests_72 : decode cX9_rests 72 = .ok (.iload 9, 2) := by decide +kernel
theorem dX9_rests_74 : decode cX9_rests 74 = .ok (.aload_n 0, 1) := by decide +kernel
theorem dX9_rests_75 : decode cX9_rests 75 = .ok (.getfield 50, 3) := by decide +kernel
theorem dX9_rests_78 : decode cX9_rests 78 = .ok (.getfield 71, 3) := by decide +kernel
theorem dX9_rests_81 : decode cX9_rests 81 = .ok (.getfield 128, 3) := by decide +kernel
theorem dX9_rests_84 : decode cX9_rests 84 = .ok (.if_icmp .ge 50, 3) := by decide +kernel
theorem dX9_rests_87 : decode cX9_rests 87 = .ok (.iload 8, 2) := by decide +kernel
theorem dX9_rests_89 : decode cX9_rests 89 = .ok (.iload_n 1, 1) := by decide +kernel
theorem dX9_rests_90 : decode cX9_rests 90 = .ok (.if_icmp .eq 38, 3) := by decide +kernel
theorem dX9_rests_93 : decode cX9_rests 93 = .ok (.iload 9, 2) := by decide +kernel
theorem dX9_rests_95 : decode cX9_rests 95 = .ok (.iload_n 2, 1) := by decide +kernel
theorem dX9_rests_96 : decode cX9_rests 96 = .ok (.if_icmp .eq 32, 3) := by decide +kernel
theorem dX9_rests_99 : decode cX9_rests 99 = .ok (.aload_n 0, 1) := by decide +kernel
theorem dX9_rests_100 : decode cX9_rests 100 = .ok (.iload_n 1, 1) := by decide +kernel
theorem dX9_rests_101 : decode cX9_rests 101 = .ok (.iload_n 2, 1) := by decide +kernel
theorem dX9_rests_102 : decode cX9_rests 102 = .ok (.iload 8, 2) := by decide +kernel
theorem dX9_rests_104 : decode cX9_rests 104 = .ok (.iload 9, 2) := by decide +kernel
theorem dX9_rests_106 : decode cX9_rests 106 = .ok (.invokevirtual 257, 3) := by decide +kernel
theorem dX9_rests_109 : decode cX9_rests 109 = .ok (.ifCond .eq 19, 3) := by decide +kernel
theorem dX9_rests_112 : decode cX9_rests 112 = .ok (.iload 5, 2) := by decide +kernel
theorem dX9_rests_114 : decode cX9_rests 114 = .ok (.ifCond .ne 11, 3) := by decide +kernel
theorem dX9_rests_117 : decode cX9_rests 117 = .ok (.iload 8, 2) := by decide +kernel
theorem dX9_rests_119 : decode cX9_rests 119 = .ok (.istore 6, 2) := by decide +kernel
theorem dX9_rests_121 : decode cX9_rests 121 = .ok (.iload 9, 2) := by decide +kernel
theorem dX9_rests_123 : decode cX9_rests 123 = .ok (.istore 7, 2) := by decide +kernel
theorem dX9_rests_125 : decode cX9_rests 125 = .ok (.iinc 5 1, 3) := by decide +kernel
theorem dX9_rests_128 : decode cX9_rests 128 = .ok (.iinc 9 1, 3) := by decide +kernel
theorem dX9_rests_131 : decode cX9_rests 131 = .ok (.goto (-59), 3) := by decide +kernel
theorem dX9_rests_134 : decode cX9_rests 134 = .ok (.iinc 8 1, 3) := by decide +kernel
theorem dX9_rests_137 : decode cX9_rests 137 = .ok (.goto (-83), 3) := by decide +kernel
theorem dX9_rests_140 : decode cX9_rests 140 = .ok (.iload 4, 2) := by decide +kernel
theorem dX9_rests_142 : decode cX9_rests 142 = .ok (.ifCond .ne 6, 3) := by decide +kernel
theorem dX9_rests_145 : decode cX9_rests 145 = .ok (.iload 5, 2) := by decide +kernel
theorem dX9_rests_147 : decode cX9_rests 147 = .ok (.ireturn, 1) := by decide +kernel
theorem dX9_rests_148 : decode cX9_rests 148 = .ok (.iload 4, 2) := by decide +kernel
theorem dX9_rests_150 : decode cX9_rests 150 = .ok (.iconst 1, 1) := by decide +kernel
theorem dX9_rests_151 : decode cX9_rests 151 = .ok (.if_icmp .ne 8, 3) := by decide +kernel
theorem dX9_rests_154 : decode cX9_rests 154 = .ok (.iload 6, 2) := by decide +kernel
theorem dX9_rests_156 : decode cX9_rests 156 = .ok (.goto 5, 3) := by decide +kernel
theorem dX9_rests_159 : decode cX9_rests 159 = .ok (.iload 7, 2) := by decide +kernel
theorem dX9_rests_161 : decode cX9_rests 161 = .ok (.ireturn, 1) := by decide +kernel
def f_X9_rests_72 (k54 : (Int32 × Int32 × Int32 × Int32) → mm_S → Option (Int32 × mm_S)) (a0 : Nat) (i1 : Int32) (i2 : Int32) (i4 : Int32) (i5 : Int32) (i6 : Int32) (i7 : Int32) (i8 : Int32) (i9 : Int32) (σ : mm_S) : Option (Int32 × mm_S) :=
  lp lpN (fun (k72 : (Int32 × Int32 × Int32 × Int32) → mm_S → Option (Int32 × mm_S)) (v : Int32 × Int32 × Int32 × Int32) (σ : mm_S) =>
    if (σ.1 (26 + 1) 3) ≤ v.2.2.2 then
      lt (i8 + Int32.ofInt (1)) fun x2 =>
      k54 (v.1, v.2.1, v.2.2.1, x2) σ
    else
      if i8 = i1 then
        lt (v.2.2.2 + Int32.ofInt (1)) fun x5 =>
        k72 (v.1, v.2.1, v.2.2.1, x5) σ
      else
        if v.2.2.2 = i2 then
          lt (v.2.2.2 + Int32.ofInt (1)) fun x8 =>
          k72 (v.1, v.2.1, v.2.2.1, x8) σ
        else
          bd (f_X9_isSettled a0 i1 i2 i8 v.2.2.2 σ) fun r12 σ11 =>
          if r12 = 0 then
            lt (v.2.2.2 + Int32.ofInt (1)) fun x14 =>
            k72 (v.1, v.2.1, v.2.2.1, x14) σ11
          else
            if v.1 = 0 then
              lt (v.1 + Int32.ofInt (1)) fun x21 =>
              lt (v.2.2.2 + Int32.ofInt (1)) fun x23 =>
              k72 (x21, i8, v.2.2.2, x23) σ11
            else
              lt (v.1 + Int32.ofInt (1)) fun x17 =>
              lt (v.2.2.2 + Int32.ofInt (1)) fun x19 =>
              k72 (x17, v.2.1, v.2.2.1, x19) σ11) (i5, i6, i7, i9) σ
theorem v_X9_rests_72 {g : mm_G} (d : Nat) {k54 : (Int32 × Int32 × Int32 × Int32) → mm_S → Option (Int32 × mm_S)} {a0 : Nat} {i1 : Int32} {i2 : Int32} {i4 : Int32} {i5 : Int32} {i6 : Int32} {i7 : Int32} {i8 : Int32} {i9 : Int32} {σ : mm_S} {res : Int32 × mm_S} (H54 : ∀ v σ, k54 v σ = some res → SV g (d + 6) yy_X9_rests 54 [(0, .ref a0), (1, .int i1), (2, .int i2), (4, .int i4), (5, .int v.1), (6, .int v.2.1), (7, .int v.2.2.1), (8, .int v.2.2.2)] [] σ (.int res.1) res.2) (h_a0 : (mm_K a0).1 = 9) (h : f_X9_rests_72 k54 a0 i1 i2 i4 i5 i6 i7 i8 i9 σ = some res) : SV g (d + 6) yy_X9_rests 72 [(0, .ref a0), (1, .int i1), (2, .int i2), (4, .int i4), (5, .int i5), (6, .int i6), (7, .int i7), (8, .int i8), (9, .int i9)] [] σ (.int res.1) res.2 := by
  unfold f_X9_rests_72 at h
  refine lp_ind (P := fun v σ => SV g (d + 6) yy_X9_rests 72 [(0, .ref a0), (1, .int i1), (2, .int i2), (4, .int i4), (5, .int v.1), (6, .int v.2.1), (7, .int v.2.2.1), (8, .int i8), (9, .int v.2.2.2)] [] σ (.int res.1) res.2) (fun k72 H72 v σ h => ?_) _ (i5, i6, i7, i9) σ h
  refine e_iload 8 dX9_rests_72  rfl ?_
  refine e_aload_n 0 dX9_rests_74 rfl rfl ?_
  refine s_getr dX9_rests_75 fl_RX9_50 h_a0 (r_9_5 h_a0).1 ?_
  refine s_getr dX9_rests_78 fl_RX9_71 (ka_1 (r_9_5 (w := 0) h_a0).2) (r_8_0 (ka_1 (r_9_5 (w := 0) h_a0).2)).1 ?_
  refine s_geti dX9_rests_81 fl_RX9_128 (ka_1 (r_8_0 (w := 0) (ka_1 (r_9_5 (w := 0) h_a0).2)).2) ?_
  refine e_icmp_ge 134 dX9_rests_84 (by decide) (fun c1 => ?_) (fun c1 => ?_)
  · rw [if_pos c1] at h
    obtain ⟨x2, q3, h⟩ := lt_some h
    refine e_iinc (v := x2) (L' := [(0, .ref a0), (1, .int i1), (2, .int i2), (4, .int i4), (5, .int v.1), (6, .int v.2.1), (7, .int v.2.2.1), (8, .int x2), (9, .int v.2.2.2)]) 7 dX9_rests_134 rfl q3.symm (by decide) rfl ?_
    refine e_goto 54 dX9_rests_137 (by decide) ?_
    refine s_pick (L' := [(0, .ref a0), (1, .int i1), (2, .int i2), (4, .int i4), (5, .int v.1), (6, .int v.2.1), (7, .int v.2.2.1), (8, .int x2)]) [0, 1, 2, 3, 4, 5, 6, 7] rfl ?_
    exact H54 (v.1, v.2.1, v.2.2.1, x2) σ h
  · rw [if_neg c1] at h
    refine e_iload 7 dX9_rests_87  rfl ?_
    refine e_iload_n 1 dX9_rests_89 rfl rfl ?_
    refine e_icmp_eq 128 dX9_rests_90 (by decide) (fun c4 => ?_) (fun c4 => ?_)
    · rw [if_pos c4] at h
      obtain ⟨x5, q6, h⟩ := lt_some h
      refine e_iinc (v := x5) (L' := [(0, .ref a0), (1, .int i1), (2, .int i2), (4, .int i4), (5, .int v.1), (6, .int v.2.1), (7, .int v.2.2.1), (8, .int i8), (9, .int x5)]) 8 dX9_rests_128 rfl q6.symm (by decide) rfl ?_
      refine e_goto 72 dX9_rests_131 (by decide) ?_
      refine s_pick (L' := [(0, .ref a0), (1, .int i1), (2, .int i2), (4, .int i4), (5, .int v.1), (6, .int v.2.1), (7, .int v.2.2.1), (8, .int i8), (9, .int x5)]) [0, 1, 2, 3, 4, 5, 6, 7, 8] rfl ?_
      exact H72 (v.1, v.2.1, v.2.2.1, x5) σ h
    · rw [if_neg c4] at h
      refine e_iload 8 dX9_rests_93  rfl ?_
      refine e_iload_n 2 dX9_rests_95 rfl rfl ?_
      refine e_icmp_eq 128 dX9_rests_96 (by decide) (fun c7 => ?_) (fun c7 => ?_)
      · rw [if_pos c7] at h
        obtain ⟨x8, q9, h⟩ := lt_some h
        refine e_iinc (v := x8) (L' := [(0, .ref a0), (1, .int i1), (2, .int i2), (4, .int i4), (5, .int v.1), (6, .int v.2.1), (7, .int v.2.2.1), (8, .int i8), (9, .int x8)]) 8 dX9_rests_128 rfl q9.symm (by decide) rfl ?_
        refine e_goto 72 dX9_rests_131 (by decide) ?_
        refine s_pick (L' := [(0, .ref a0), (1, .int i1), (2, .int i2), (4, .int i4), (5, .int v.1), (6, .int v.2.1), (7, .int v.2.2.1), (8, .int i8), (9, .int x8)]) [0, 1, 2, 3, 4, 5, 6, 7, 8] rfl ?_
        exact H72 (v.1, v.2.1, v.2.2.1, x8) σ h
      · rw [if_neg c7] at h
        refine e_aload_n 0 dX9_rests_99 rfl rfl ?_
        refine e_iload_n 1 dX9_rests_100 rfl rfl ?_
        refine e_iload_n 2 dX9_rests_101 rfl rfl ?_
        refine e_iload 7 dX9_rests_102  rfl ?_
        refine e_iload 8 dX9_rests_104  rfl ?_
        obtain ⟨r12, σ11, q10, h⟩ := bd_some h
        refine s_callVi [.int i1, .int i2, .int i8, .int v.2.2.2] dX9_rests_106 ml_RX9_257 h_a0 ⟨_, rfl, by decide⟩ rfl (v_X9_isSettled (d + 4) h_a0 q10) (Nat.le_of_ble_eq_true rfl) ?_
        refine e_if_eq 128 dX9_rests_109 (by decide) (fun c13 => ?_) (fun c13 => ?_)
        · rw [if_pos c13] at h
          obtain ⟨x14, q15, h⟩ := lt_some h
          refine e_iinc (v := x14) (L' := [(0, .ref a0), (1, .int i1), (2, .int i2), (4, .int i4), (5, .int v.1), (6, .int v.2.1), (7, .int v.2.2.1), (8, .int i8), (9, .int x14)]) 8 dX9_rests_128 rfl q15.symm (by decide) rfl ?_
          refine e_goto 72 dX9_rests_131 (by decide) ?_
          refine s_pick (L' := [(0, .ref a0), (1, .int i1), (2, .int i2), (4, .int i4), (5, .int v.1), (6, .int v.2.1), (7, .int v.2.2.1), (8, .int i8), (9, .int x14)]) [0, 1, 2, 3, 4, 5, 6, 7, 8] rfl ?_
          exact H72 (v.1, v.2.1, v.2.2.1, x14) σ11 h
        · rw [if_neg c13] at h
          refine e_iload 4 dX9_rests_112  rfl ?_
          refine e_if_ne 125 dX9_rests_114 (by decide) (fun c16 => ?_) (fun c16 => ?_)
          · rw [if_neg c16] at h
            obtain ⟨x17, q18, h⟩ := lt_some h
            refine e_iinc (v := x17) (L' := [(0, .ref a0), (1, .int i1), (2, .int i2), (4, .int i4), (5, .int x17), (6, .int v.2.1), (7, .int v.2.2.1), (8, .int i8), (9, .int v.2.2.2)]) 4 dX9_rests_125 rfl q18.symm (by decide) rfl ?_
            obtain ⟨x19, q20, h⟩ := lt_some h
            refine e_iinc (v := x19) (L' := [(0, .ref a0), (1, .int i1), (2, .int i2), (4, .int i4), (5, .int x17), (6, .int v.2.1), (7, .int v.2.2.1), (8, .int i8), (9, .int x19)]) 8 dX9_rests_128 rfl q20.symm (by decide) rfl ?_
            refine e_goto 72 dX9_rests_131 (by decide) ?_
            refine s_pick (L' := [(0, .ref a0), (1, .int i1), (2, .int i2), (4, .int i4), (5, .int x17), (6, .int v.2.1), (7, .int v.2.2.1), (8, .int i8), (9, .int x19)]) [0, 1, 2, 3, 4, 5, 6, 7, 8] rfl ?_
            exact H72 (x17, v.2.1, v.2.2.1, x19) σ11 h
          · rw [if_pos c16] at h
            refine e_iload 7 dX9_rests_117  rfl ?_
            refine e_istore (L' := [(0, .ref a0), (1, .int i1), (2, .int i2), (4, .int i4), (5, .int v.1), (6, .int i8), (7, .int v.2.2.1), (8, .int i8), (9, .int v.2.2.2)]) dX9_rests_119  (by decide) rfl ?_
            refine e_iload 8 dX9_rests_121  rfl ?_
            refine e_istore (L' := [(0, .ref a0), (1, .int i1), (2, .int i2), (4, .int i4), (5, .int v.1), (6, .int i8), (7, .int v.2.2.2), (8, .int i8), (9, .int v.2.2.2)]) dX9_rests_123  (by decide) rfl ?_
            obtain ⟨x21, q22, h⟩ := lt_some h
            refine e_iinc (v := x21) (L' := [(0, .ref a0), (1, .int i1), (2, .int i2), (4, .int i4), (5, .int x21), (6, .int i8), (7, .int v.2.2.2), (8, .int i8), (9, .int v.2.2.2)]) 4 dX9_rests_125 rfl q22.symm (by decide) rfl ?_
            obtain ⟨x23, q24, h⟩ := lt_some h
            refine e_iinc (v := x23) (L' := [(0, .ref a0), (1, .int i1), (2, .int i2), (4, .int i4), (5, .int x21), (6, .int i8), (7, .int v.2.2.2), (8, .int i8), (9, .int x23)]) 8 dX9_rests_128 rfl q24.symm (by decide) rfl ?_
            refine e_goto 72 dX9_rests_131 (by decide) ?_
            refine s_pick (L' := [(0, .ref a0), (1, .int i1), (2, .int i2), (4, .int i4), (5, .int x21), (6, .int i8), (7, .int v.2.2.2), (8, .int i8), (9, .int x23)]) [0, 1, 2, 3, 4, 5, 6, 7, 8] rfl ?_
            exact H72 (x21, i8, v.2.2.2, x23) σ11 h
def f_X9_rests_54 (a0 : Nat) (i1 : Int32) (i2 : Int32) (i4 : Int32) (i5 : Int32) (i6 : Int32) (i7 : Int32) (i8 : Int32) (σ : mm_S) : Option (Int32 × mm_S) :=
  lp lpN (fun (k54 : (Int32 × Int32 × Int32 × Int32) → mm_S → Option (Int32 × mm_S)) (v : Int32 × Int32 × Int32 × Int32) (σ : mm_S) =>
    if (σ.1 (26 + 1) 3) ≤ v.2.2.2 then
      if i4 = 0 then
        some (v.1, σ)
      else
        if i4 = (1 : Int32) then
          some (v.2.1, σ)
        else
          some (v.2.2.1, σ)
    else
      f_X9_rests_72 k54 a0 i1 i2 i4 v.1 v.2.1 v.2.2.1 v.2.2.2 (0 : Int32) σ) (i5, i6, i7, i8) σ
theorem v_X9_rests_54 {g : mm_G} (d : Nat) {a0 : Nat} {i1 : Int32} {i2 : Int32} {i4 : Int32} {i5 : Int32} {i6 : Int32} {i7 : Int32} {i8 : Int32} {σ : mm_S} {res : Int32 × mm_S}  (h_a0 : (mm_K a0).1 = 9) (h : f_X9_rests_54 a0 i1 i2 i4 i5 i6 i7 i8 σ = some res) : SV g (d + 6) yy_X9_rests 54 [(0, .ref a0), (1, .int i1), (2, .int i2), (4, .int i4), (5, .int i5), (6, .int i6), (7, .int i7), (8, .int i8)] [] σ (.int res.1) res.2 := by
  unfold f_X9_rests_54 at h
  refine lp_ind (P := fun v σ => SV g (d + 6) yy_X9_rests 54 [(0, .ref a0), (1, .int i1), (2, .int i2), (4, .int i4), (5, .int v.1), (6, .int v.2.1), (7, .int v.2.2.1), (8, .int v.2.2.2)] [] σ (.int res.1) res.2) (fun k54 H54 v σ h => ?_) _ (i5, i6, i7, i8) σ h
  refine e_iload 7 dX9_rests_54  rfl ?_
  refine e_aload_n 0 dX9_rests_56 rfl rfl ?_
  refine s_getr dX9_rests_57 fl_RX9_50 h_a0 (r_9_5 h_a0).1 ?_
  refine s_getr dX9_rests_60 fl_RX9_71 (ka_1 (r_9_5 (w := 0) h_a0).2) (r_8_0 (ka_1 (r_9_5 (w := 0) h_a0).2)).1 ?_
  refine s_geti dX9_rests_63 fl_RX9_128 (ka_1 (r_8_0 (w := 0) (ka_1 (r_9_5 (w := 0) h_a0).2)).2) ?_
  refine e_icmp_ge 140 dX9_rests_66 (by decide) (fun c25 => ?_) (fun c25 => ?_)
  · rw [if_pos c25] at h
    refine e_iload 3 dX9_rests_140  rfl ?_
    refine e_if_ne 148 dX9_rests_142 (by decide) (fun c26 => ?_) (fun c26 => ?_)
    · rw [if_neg c26] at h
      refine e_iload 3 dX9_rests_148  rfl ?_
      refine e_iconst (v := (1 : Int32)) dX9_rests_150 (by decide) ?_
      refine e_icmp_ne 159 dX9_rests_151 (by decide) (fun c27 => ?_) (fun c27 => ?_)
      · rw [if_neg c27] at h
        refine e_iload 6 dX9_rests_159  rfl ?_
        obtain rfl := Option.some.inj h
        exact s_ret rfl ⟨_, rfl, rfl⟩ dX9_rests_161
      · rw [if_pos c27] at h
        refine e_iload 5 dX9_rests_154  rfl ?_
        refine e_goto 161 dX9_rests_156 (by decide) ?_
        obtain rfl := Option.some.inj h
        exact s_ret rfl ⟨_, rfl, rfl⟩ dX9_rests_161
    · rw [if_pos c26] at h
      refine e_iload 4 dX9_rests_145  rfl ?_
      obtain rfl := Option.some.inj h
      exact s_ret rfl ⟨_, rfl, rfl⟩ dX9_rests_147
  · rw [if_neg c25] at h
    refine e_iconst (v := (0 : Int32)) dX9_rests_69 (by decide) ?_
    refine e_istore (L' := [(0, .ref a0), (1, .int i1), (2, .int i2), (4, .int i4), (5, .int v.1), (6, .int v.2.1), (7, .int v.2.2.1), (8, .int v.2.2.2), (9, .int (0 : Int32))]) dX9_rests_70  (by decide) rfl ?_
    refine s_pick (L' := [(0, .ref a0), (1, .int i1), (2, .int i2), (4, .int i4), (5, .int v.1), (6, .int v.2.1), (7, .int v.2.2.1), (8, .int v.2.2.2), (9, .int (0 : Int32))]) [0, 1, 2, 3, 4, 5, 6, 7, 8] rfl ?_
    exact v_X9_rests_72 d H54 h_a0 h
def f_X9_rests (a0 : Nat) (i1 : Int32) (i2 : Int32) (i3 : Int32) (i4 : Int32) (σ : mm_S) : Option (Int32 × mm_S) :=
    bd (f_X9_areUnlike a0 i1 i2 σ) fun r40 σ39 =>
    if r40 = 0 then
      some ((-1 : Int32), σ39)
    else
      if i3 < (1 : Int32) then
        some ((-1 : Int32), σ39)
      else
        if (20 : Int32) < i3 then
          some ((-1 : Int32), σ39)
        else
          if i4 < 0 then
            some ((-1 : Int32), σ39)
          else
            if i4 ≤ (2 : Int32) then
              bv (f_X9_playAll a0 i1 i2 i3 σ39) fun σ47 =>
              f_X9_rests_54 a0 i1 i2 i4 (0 : Int32) (-2 : Int32) (-2 : Int32) (0 : Int32) σ47
            else
              some ((-1 : Int32), σ39)
theorem v_X9_rests {g : mm_G} (d : Nat) {a0 : Nat} {i1 : Int32} {i2 : Int32} {i3 : Int32} {i4 : Int32} {σ : mm_S} {res : Int32 × mm_S} (h_a0 : (mm_K a0).1 = 9) (h : f_X9_rests a0 i1 i2 i3 i4 σ = some res) : SM g (d + 6) yy_X9_rests [.ref a0, .int i1, .int i2, .int i3, .int i4] σ (.int res.1) res.2 := by
  refine s_of (by decide) (Nat.le_of_ble_eq_true rfl) (L := [(0, .ref a0), (1, .int i1), (2, .int i2), (3, .int i3), (4, .int i4)]) rfl ?_
  unfold f_X9_rests at h
  refine e_aload_n 0 dX9_rests_0 rfl rfl ?_
  refine e_iload_n 1 dX9_rests_1 rfl rfl ?_
  refine e_iload_n 2 dX9_rests_2 rfl rfl ?_
  obtain ⟨r40, σ39, q38, h⟩ := bd_some h
  refine s_callVi [.int i1, .int i2] dX9_rests_3 ml_RX9_157 h_a0 ⟨_, rfl, by decide⟩ rfl (v_X9_areUnlike (d + 4) h_a0 q38) (Nat.le_of_ble_eq_true rfl) ?_
  refine e_if_eq 31 dX9_rests_6 (by decide) (fun c41 => ?_) (fun c41 => ?_)
  · rw [if_pos c41] at h
    refine e_iconst (v := (-1 : Int32)) dX9_rests_31 (by decide) ?_
    obtain rfl := Option.some.inj h
    exact s_ret rfl ⟨_, rfl, rfl⟩ dX9_rests_32
  · rw [if_neg c41] at h
    refine e_iload_n 3 dX9_rests_9 rfl rfl ?_
    refine e_iconst (v := (1 : Int32)) dX9_rests_10 (by decide) ?_
    refine e_icmp_lt 31 dX9_rests_11 (by decide) (fun c42 => ?_) (fun c42 => ?_)
    · rw [if_pos c42] at h
      refine e_iconst (v := (-1 : Int32)) dX9_rests_31 (by decide) ?_
      obtain rfl := Option.some.inj h
      exact s_ret rfl ⟨_, rfl, rfl⟩ dX9_rests_32
    · rw [if_neg c42] at h
      refine e_iload_n 3 dX9_rests_14 rfl rfl ?_
      refine e_bipush (v := (20 : Int32)) dX9_rests_15 (by decide) ?_
      refine e_icmp_gt 31 dX9_rests_17 (by decide) (fun c43 => ?_) (fun c43 => ?_)
      · rw [if_pos c43] at h
        refine e_iconst (v := (-1 : Int32)) dX9_rests_31 (by decide) ?_
        obtain rfl := Option.some.inj h
        exact s_ret rfl ⟨_, rfl, rfl⟩ dX9_rests_32
      · rw [if_neg c43] at h
        refine e_iload 4 dX9_rests_20  rfl ?_
        refine e_if_lt 31 dX9_rests_22 (by decide) (fun c44 => ?_) (fun c44 => ?_)
        · rw [if_pos c44] at h
          refine e_iconst (v := (-1 : Int32)) dX9_rests_31 (by decide) ?_
          obtain rfl := Option.some.inj h
          exact s_ret rfl ⟨_, rfl, rfl⟩ dX9_rests_32
        · rw [if_neg c44] at h
          refine e_iload 4 dX9_rests_25  rfl ?_
          refine e_iconst (v := (2 : Int32)) dX9_rests_27 (by decide) ?_
          refine e_icmp_le 33 dX9_rests_28 (by decide) (fun c45 => ?_) (fun c45 => ?_)
          · rw [if_pos c45] at h
            refine e_aload_n 0 dX9_rests_33 rfl rfl ?_
            refine e_iload_n 1 dX9_rests_34 rfl rfl ?_
            refine e_iload_n 2 dX9_rests_35 rfl rfl ?_
            refine e_iload_n 3 dX9_rests_36 rfl rfl ?_
            obtain ⟨σ47, q46, h⟩ := bv_some h
            refine s_callVv [.int i1, .int i2, .int i3] dX9_rests_37 ml_RX9_254 h_a0 rfl rfl (v_X9_playAll (d + 0) h_a0 q46) (Nat.le_of_ble_eq_true rfl) ?_
            refine e_iconst (v := (0 : Int32)) dX9_rests_40 (by decide) ?_
            refine e_istore (L' := [(0, .ref a0), (1, .int i1), (2, .int i2), (3, .int i3), (4, .int i4), (5, .int (0 : Int32))]) dX9_rests_41  (by decide) rfl ?_
            refine e_bipush (v := (-2 : Int32)) dX9_rests_43 (by decide) ?_
            refine e_istore (L' := [(0, .ref a0), (1, .int i1), (2, .int i2), (3, .int i3), (4, .int i4), (5, .int (0 : Int32)), (6, .int (-2 : Int32))]) dX9_rests_45  (by decide) rfl ?_
            refine e_bipush (v := (-2 : Int32)) dX9_rests_47 (by decide) ?_
            refine e_istore (L' := [(0, .ref a0), (1, .int i1), (2, .int i2), (3, .int i3), (4, .int i4), (5, .int (0 : Int32)), (6, .int (-2 : Int32)), (7, .int (-2 : Int32))]) dX9_rests_49  (by decide) rfl ?_
            refine e_iconst (v := (0 : Int32)) dX9_rests_51 (by decide) ?_
            refine e_istore (L' := [(0, .ref a0), (1, .int i1), (2, .int i2), (3, .int i3), (4, .int i4), (5, .int (0 : Int32)), (6, .int (-2 : Int32)), (7, .int (-2 : Int32)), (8, .int (0 : Int32))]) dX9_rests_52  (by decide) rfl ?_
            refine s_pick (L' := [(0, .ref a0), (1, .int i1), (2, .int i2), (4, .int i4), (5, .int (0 : Int32)), (6, .int (-2 : Int32)), (7, .int (-2 : Int32)), (8, .int (0 : Int32))]) [0, 1, 2, 4, 5, 6, 7, 8] rfl ?_
            exact v_X9_rests_54 d h_a0 h
          · rw [if_neg c45] at h
            refine e_iconst (v := (-1 : Int32)) dX9_rests_31 (by decide) ?_
            obtain rfl := Option.some.inj h
            exact s_ret rfl ⟨_, rfl, rfl⟩ dX9_rests_32
abbrev yy_X9_stays : mm_Y := (yX9_stays, cX9_stays, 4, (some .int))
theorem dX9_stays_0 : decode cX9_stays 0 = .ok (.aload_n 0, 1) := by decide +kernel
theorem dX9_stays_1 : decode cX9_stays 1 = .ok (.getfield 50, 3) := by decide +kernel
theorem dX9_stays_4 : decode cX9_stays 4 = .ok (.getfield 71, 3) := by decide +kernel
theorem dX9_stays_7 : decode cX9_stays 7 = .ok (.getfield 188, 3) := by decide +kernel
theorem dX9_stays_10 : decode cX9_stays 10 = .ok (.ifCond .eq 13, 3) := by decide +kernel
theorem dX9_stays_13 : decode cX9_stays 13 = .ok (.iload_n 1, 1) := by decide +kernel
theorem dX9_stays_14 : decode cX9_stays 14 = .ok (.ifCond .lt 9, 3) := by decide +kernel
theorem dX9_stays_17 : decode cX9_stays 17 = .ok (.iload_n 1, 1) := by decide +kernel
theorem dX9_stays_18 : decode cX9_stays 18 = .ok (.bipush 60, 2) := by decide +kernel
theorem dX9_stays_20 : decode cX9_stays 20 = .ok (.if_icmp .le 5, 3) := by decide +kernel
theorem dX9_stays_23 : decode cX9_stays 23 = .ok (.iconst (-1), 1) := by decide +kernel
theorem dX9_stays_24 : decode cX9_stays 24 = .ok (.ireturn, 1) := by decide +kernel
theorem dX9_stays_25 : decode cX9_stays 25 = .ok (.aload_n 0, 1) := by decide +kernel
theorem dX9_stays_26 : decode cX9_stays 26 = .ok (.invokevirtual 196, 3) := by decide +kernel
theorem dX9_stays_29 : decode cX9_stays 29 = .ok (.aload_n 0, 1) := by decide +kernel
theorem dX9_stays_30 : decode cX9_stays 30 = .ok (.getfield 77, 3) := by decide +kernel
theorem dX9_stays_33 : decode cX9_stays 33 = .ok (.iload_n 1, 1) := by decide +kernel
theorem dX9_stays_34 : decode cX9_stays 34 = .ok (.invokevirtual 199, 3) := by decide +kernel
theorem dX9_stays_37 : decode cX9_stays 37 = .ok (.aload_n 0, 1) := by decide +kernel
theorem dX9_stays_38 : decode cX9_stays 38 = .ok (.getfield 77, 3) := by decide +kernel
theorem dX9_stays_41 : decode cX9_stays 41 = .ok (.getfield 202, 3) := by decide +kernel
theorem dX9_stays_44 : decode cX9_stays 44 = .ok (.getfield 174, 3) := by decide +kernel
theorem dX9_stays_47 : decode cX9_stays 47 = .ok (.istore_n 2, 1) := by decide +kernel
theorem dX9_stays_48 : decode cX9_stays 48 = .ok (.iconst 0, 1) := by decide +kernel
theorem dX9_stays_49 : decode cX9_stays 49 = .ok (.istore_n 3, 1) := by decide +kernel
theorem dX9_stays_50 : decode cX9_stays 50 = .ok (.iload_n 3, 1) := by decide +kernel
theorem dX9_stays_51 : decode cX9_stays 51 = .ok (.iconst 2, 1) := by decide +kernel
theorem dX9_stays_52 : decode cX9_stays 52 = .ok (.if_icmp .ge 30, 3) := by decide +kernel
theorem dX9_stays_55 : decode cX9_stays 55 = .ok (.aload_n 0, 1) := by decide +kernel
theorem dX9_stays_56 : decode cX9_stays 56 = .ok (.getfield 77, 3) := by decide +kernel
theorem dX9_stays_59 : decode cX9_stays 59 = .ok (.iconst 1, 1) := by decide +kernel
theorem dX9_stays_60 : decode cX9_stays 60 = .ok (.invokevirtual 199, 3) := by decide +kernel
theorem dX9_stays_63 : decode cX9_stays 63 = .ok (.iload_n 2, 1) := by decide +kernel
theorem dX9_stays_64 : decode cX9_stays 64 = .ok (.aload_n 0, 1) := by decide +kernel
theorem dX9_stays_65 : decode cX9_stays 65 = .ok (.getfield 77, 3) := by decide +kernel
theorem dX9_stays_68 : decode cX9_stays 68 = .ok (.getfield 202, 3) := by decide +kernel
theorem dX9_stays_71 : decode cX9_stays 71 = .ok (.getfield 174, 3) := by decide +kernel
theorem dX9_stays_74 : decode cX9_stays 74 = .ok (.iand, 1) := by decide +kernel
theorem dX9_stays_75 : decode cX9_stays 75 = .ok (.istore_n 2, 1) := by decide +kernel
theorem dX9_stays_76 : decode cX9_stays 76 = .ok (.iinc 3 1, 3) := by decide +kernel
theorem dX9_stays_79 : decode cX9_stays 79 = .ok (.goto (-29), 3) := by decide +kernel
theorem dX9_stays_82 : decode cX9_stays 82 = .ok (.iload_n 2, 1) := by decide +kernel
theorem dX9_stays_83 : decode cX9_stays 83 = .ok (.ireturn, 1) := by decide +kernel
def f_X9_stays_50 (a0 : Nat) (i2 : Int32) (i3 : Int32) (σ : mm_S) : Option (Int32 × mm_S) :=
  lp lpN (fun (k50 : (Int32 × Int32) → mm_S → Option (Int32 × mm_S)) (v : Int32 × Int32) (σ : mm_S) =>
    if (2 : Int32) ≤ v.2 then
      some (v.1, σ)
    else
      bv (f_X7_passHours 200 (1 : Int32) σ) fun σ3 =>
      lt ((v.1 &&& (σ3.1 201 1))) fun x4 =>
      lt (v.2 + Int32.ofInt (1)) fun x6 =>
      k50 (x4, x6) σ3) (i2, i3) σ
theorem v_X9_stays_50 {g : mm_G} (d : Nat) {a0 : Nat} {i2 : Int32} {i3 : Int32} {σ : mm_S} {res : Int32 × mm_S}  (h_a0 : (mm_K a0).1 = 9) (h : f_X9_stays_50 a0 i2 i3 σ = some res) : SV g (d + 5) yy_X9_stays 50 [(0, .ref a0), (2, .int i2), (3, .int i3)] [] σ (.int res.1) res.2 := by
  unfold f_X9_stays_50 at h
  refine lp_ind (P := fun v σ => SV g (d + 5) yy_X9_stays 50 [(0, .ref a0), (2, .int v.1), (3, .int v.2)] [] σ (.int res.1) res.2) (fun k50 H50 v σ h => ?_) _ (i2, i3) σ h
  refine e_iload_n 2 dX9_stays_50 rfl rfl ?_
  refine e_iconst (v := (2 : Int32)) dX9_stays_51 (by decide) ?_
  refine e_icmp_ge 82 dX9_stays_52 (by decide) (fun c1 => ?_) (fun c1 => ?_)
  · rw [if_pos c1] at h
    refine e_iload_n 1 dX9_stays_82 rfl rfl ?_
    obtain rfl := Option.some.inj h
    exact s_ret rfl ⟨_, rfl, rfl⟩ dX9_stays_83
  · rw [if_neg c1] at h
    refine e_aload_n 0 dX9_stays_55 rfl rfl ?_
    refine s_getr dX9_stays_56 fl_RX9_77 h_a0 (r_9_9 h_a0).1 ?_
    refine e_iconst (v := (1 : Int32)) dX9_stays_59 (by decide) ?_
    obtain ⟨σ3, q2, h⟩ := bv_some h
    refine s_callVv [.int (1 : Int32)] dX9_stays_60 ml_RX9_199 (ka_1 (r_9_9 (w := 0) h_a0).2) rfl rfl (v_X7_passHours (d + 0) (ka_1 (r_9_9 (w := 0) h_a0).2) q2) (Nat.le_of_ble_eq_true rfl) ?_
    refine e_iload_n 1 dX9_stays_63 rfl rfl ?_
    refine e_aload_n 0 dX9_stays_64 rfl rfl ?_
    refine s_getr dX9_stays_65 fl_RX9_77 h_a0 (r_9_9 h_a0).1 ?_
    refine s_getr dX9_stays_68 fl_RX9_202 (ka_1 (r_9_9 (w := 0) h_a0).2) (r_7_1 (ka_1 (r_9_9 (w := 0) h_a0).2)).1 ?_
    refine s_geti dX9_stays_71 fl_RX9_174 (ka_1 (r_7_1 (w := 0) (ka_1 (r_9_9 (w := 0) h_a0).2)).2) ?_
    refine e_iand dX9_stays_74 ?_
    obtain ⟨x4, q5, h⟩ := lt_some h
    refine s_nmi q5 ?_
    refine e_istore_n (L' := [(0, .ref a0), (2, .int x4), (3, .int v.2)]) dX9_stays_75 rfl (by decide) rfl ?_
    obtain ⟨x6, q7, h⟩ := lt_some h
    refine e_iinc (v := x6) (L' := [(0, .ref a0), (2, .int x4), (3, .int x6)]) 2 dX9_stays_76 rfl q7.symm (by decide) rfl ?_
    refine e_goto 50 dX9_stays_79 (by decide) ?_
    refine s_pick (L' := [(0, .ref a0), (2, .int x4), (3, .int x6)]) [0, 1, 2] rfl ?_
    exact H50 (x4, x6) σ3 h
def f_X9_stays (a0 : Nat) (i1 : Int32) (σ : mm_S) : Option (Int32 × mm_S) :=
    if (σ.1 (26 + 1) 0) = 0 then
      some ((-1 : Int32), σ)
    else
      if i1 < 0 then
        some ((-1 : Int32), σ)
      else
        if i1 ≤ (60 : Int32) then
          bv (f_X9_walkFromNow a0 σ) fun σ21 =>
          bv (f_X7_passHours 200 i1 σ21) fun σ23 =>
          lt ((σ23.1 201 1)) fun x24 =>
          f_X9_stays_50 a0 x24 (0 : Int32) σ23
        else
          some ((-1 : Int32), σ)
theorem v_X9_stays {g : mm_G} (d : Nat) {a0 : Nat} {i1 : Int32} {σ : mm_S} {res : Int32 × mm_S} (h_a0 : (mm_K a0).1 = 9) (h : f_X9_stays a0 i1 σ = some res) : SM g (d + 5) yy_X9_stays [.ref a0, .int i1] σ (.int res.1) res.2 := by
  refine s_of (by decide) (Nat.le_of_ble_eq_true rfl) (L := [(0, .ref a0), (1, .int i1)]) rfl ?_
  unfold f_X9_stays at h
  refine e_aload_n 0 dX9_stays_0 rfl rfl ?_
  refine s_getr dX9_stays_1 fl_RX9_50 h_a0 (r_9_5 h_a0).1 ?_
  refine s_getr dX9_stays_4 fl_RX9_71 (ka_1 (r_9_5 (w := 0) h_a0).2) (r_8_0 (ka_1 (r_9_5 (w := 0) h_a0).2)).1 ?_
  refine s_geti dX9_stays_7 fl_RX9_188 (ka_1 (r_8_0 (w := 0) (ka_1 (r_9_5 (w := 0) h_a0).2)).2) ?_
  refine e_if_eq 23 dX9_stays_10 (by decide) (fun c17 => ?_) (fun c17 => ?_)
  · rw [if_pos c17] at h
    refine e_iconst (v := (-1 : Int32)) dX9_stays_23 (by decide) ?_
    obtain rfl := Option.some.inj h
    exact s_ret rfl ⟨_, rfl, rfl⟩ dX9_stays_24
  · rw [if_neg c17] at h
    refine e_iload_n 1 dX9_stays_13 rfl rfl ?_
    refine e_if_lt 23 dX9_stays_14 (by decide) (fun c18 => ?_) (fun c18 => ?_)
    · rw [if_pos c18] at h
      refine e_iconst (v := (-1 : Int32)) dX9_stays_23 (by decide) ?_
      obtain rfl := Option.some.inj h
      exact s_ret rfl ⟨_, rfl, rfl⟩ dX9_stays_24
    · rw [if_neg c18] at h
      refine e_iload_n 1 dX9_stays_17 rfl rfl ?_
      refine e_bipush (v := (60 : Int32)) dX9_stays_18 (by decide) ?_
      refine e_icmp_le 25 dX9_stays_20 (by decide) (fun c19 => ?_) (fun c19 => ?_)
      · rw [if_pos c19] at h
        refine e_aload_n 0 dX9_stays_25 rfl rfl ?_
        obtain ⟨σ21, q20, h⟩ := bv_some h
        refine s_callVv [] dX9_stays_26 ml_RX9_196 h_a0 rfl rfl (v_X9_walkFromNow (d + 1) h_a0 q20) (Nat.le_of_ble_eq_true rfl) ?_
        refine e_aload_n 0 dX9_stays_29 rfl rfl ?_
        refine s_getr dX9_stays_30 fl_RX9_77 h_a0 (r_9_9 h_a0).1 ?_
        refine e_iload_n 1 dX9_stays_33 rfl rfl ?_
        obtain ⟨σ23, q22, h⟩ := bv_some h
        refine s_callVv [.int i1] dX9_stays_34 ml_RX9_199 (ka_1 (r_9_9 (w := 0) h_a0).2) rfl rfl (v_X7_passHours (d + 0) (ka_1 (r_9_9 (w := 0) h_a0).2) q22) (Nat.le_of_ble_eq_true rfl) ?_
        refine e_aload_n 0 dX9_stays_37 rfl rfl ?_
        refine s_getr dX9_stays_38 fl_RX9_77 h_a0 (r_9_9 h_a0).1 ?_
        refine s_getr dX9_stays_41 fl_RX9_202 (ka_1 (r_9_9 (w := 0) h_a0).2) (r_7_1 (ka_1 (r_9_9 (w := 0) h_a0).2)).1 ?_
        refine s_geti dX9_stays_44 fl_RX9_174 (ka_1 (r_7_1 (w := 0) (ka_1 (r_9_9 (w := 0) h_a0).2)).2) ?_
        obtain ⟨x24, q25, h⟩ := lt_some h
        refine s_nmi q25 ?_
        refine e_istore_n (L' := [(0, .ref a0), (1, .int i1), (2, .int x24)]) dX9_stays_47 rfl (by decide) rfl ?_
        refine e_iconst (v := (0 : Int32)) dX9_stays_48 (by decide) ?_
        refine e_istore_n (L' := [(0, .ref a0), (1, .int i1), (2, .int x24), (3, .int (0 : Int32))]) dX9_stays_49 rfl (by decide) rfl ?_
        refine s_pick (L' := [(0, .ref a0), (2, .int x24), (3, .int (0 : Int32))]) [0, 2, 3] rfl ?_
        exact v_X9_stays_50 d h_a0 h
      · rw [if_neg c19] at h
        refine e_iconst (v := (-1 : Int32)) dX9_stays_23 (by decide) ?_
        obtain rfl := Option.some.inj h
        exact s_ret rfl ⟨_, rfl, rfl⟩ dX9_stays_24
abbrev yy_X9_note : mm_Y := (yX9_note, cX9_note, 4, (some .int))
theorem dX9_note_0 : decode cX9_note 0 = .ok (.iload_n 1, 1) := by decide +kernel
theorem dX9_note_1 : decode cX9_note 1 = .ok (.iconst (-1), 1) := by decide +kernel
theorem dX9_note_2 : decode cX9_note 2 = .ok (.if_icmp .ne 16, 3) := by decide +kernel
theorem dX9_note_5 : decode cX9_note 5 = .ok (.aload_n 0, 1) := by decide +kernel
theorem dX9_note_6 : decode cX9_note 6 = .ok (.getfield 50, 3) := by decide +kernel
theorem dX9_note_9 : decode cX9_note 9 = .ok (.getfield 116, 3) := by decide +kernel
theorem dX9_note_12 : decode cX9_note 12 = .ok (.iconst 0, 1) := by decide +kernel
theorem dX9_note_13 : decode cX9_note 13 = .ok (.putfield 120, 3) := by decide +kernel
theorem dX9_note_16 : decode cX9_note 16 = .ok (.iconst 0, 1) := by decide +kernel
theorem dX9_note_17 : decode cX9_note 17 = .ok (.ireturn, 1) := by decide +kernel
theorem dX9_note_18 : decode cX9_note 18 = .ok (.iload_n 1, 1) := by decide +kernel
theorem dX9_note_19 : decode cX9_note 19 = .ok (.ifCond .lt 41, 3) := by decide +kernel
theorem dX9_note_22 : decode cX9_note 22 = .ok (.iload_n 1, 1) := by decide +kernel
theorem dX9_note_23 : decode cX9_note 23 = .ok (.bipush 60, 2) := by decide +kernel
theorem dX9_note_25 : decode cX9_note 25 = .ok (.if_icmp .gt 35, 3) := by decide +kernel
theorem dX9_note_28 : decode cX9_note 28 = .ok (.aload_n 0, 1) := by decide +kernel
theorem dX9_note_29 : decode cX9_note 29 = .ok (.iload_n 2, 1) := by decide +kernel
theorem dX9_note_30 : decode cX9_note 30 = .ok (.invokevirtual 138, 3) := by decide +kernel
theorem dX9_note_33 : decode cX9_note 33 = .ok (.ifCond .eq 27, 3) := by decide +kernel
theorem dX9_note_36 : decode cX9_note 36 = .ok (.iload_n 3, 1) := by decide +kernel
theorem dX9_note_37 : decode cX9_note 37 = .ok (.ifCond .lt 23, 3) := by decide +kernel
theorem dX9_note_40 : decode cX9_note 40 = .ok (.iload_n 3, 1) := by decide +kernel
theorem dX9_note_41 : decode cX9_note 41 = .ok (.iconst 1, 1) := by decide +kernel
theorem dX9_note_42 : decode cX9_note 42 = .ok (.if_icmp .gt 18, 3) := by decide +kernel
theorem dX9_note_45 : decode cX9_note 45 = .ok (.aload_n 0, 1) := by decide +kernel
theorem dX9_note_46 : decode cX9_note 46 = .ok (.getfield 50, 3) := by decide +kernel
theorem dX9_note_49 : decode cX9_note 49 = .ok (.getfield 116, 3) := by decide +kernel
theorem dX9_note_52 : decode cX9_note 52 = .ok (.getfield 120, 3) := by decide +kernel
theorem dX9_note_55 : decode cX9_note 55 = .ok (.bipush 10, 2) := by decide +kernel
theorem dX9_note_57 : decode cX9_note 57 = .ok (.if_icmp .lt 6, 3) := by decide +kernel
theorem dX9_note_60 : decode cX9_note 60 = .ok (.bipush (-2), 2) := by decide +kernel
theorem dX9_note_62 : decode cX9_note 62 = .ok (.ireturn, 1) := by decide +kernel
theorem dX9_note_63 : decode cX9_note 63 = .ok (.aload_n 0, 1) := by decide +kernel
theorem dX9_note_64 : decode cX9_note 64 = .ok (.getfield 50, 3) := by decide +kernel
theorem dX9_note_67 : decode cX9_note 67 = .ok (.getfield 116, 3) := by decide +kernel
theorem dX9_note_70 : decode cX9_note 70 = .ok (.iload_n 1, 1) := by decide +kernel
theorem dX9_note_71 : decode cX9_note 71 = .ok (.iload_n 2, 1) := by decide +kernel
theorem dX9_note_72 : decode cX9_note 72 = .ok (.iload_n 3, 1) := by decide +kernel
theorem dX9_note_73 : decode cX9_note 73 = .ok (.invokevirtual 267, 3) := by decide +kernel
theorem dX9_note_76 : decode cX9_note 76 = .ok (.aload_n 0, 1) := by decide +kernel
theorem dX9_note_77 : decode cX9_note 77 = .ok (.getfield 50, 3) := by decide +kernel
theorem dX9_note_80 : decode cX9_note 80 = .ok (.getfield 116, 3) := by decide +kernel
theorem dX9_note_83 : decode cX9_note 83 = .ok (.getfield 120, 3) := by decide +kernel
theorem dX9_note_86 : decode cX9_note 86 = .ok (.ireturn, 1) := by decide +kernel
def f_X9_note (a0 : Nat) (i1 : Int32) (i2 : Int32) (i3 : Int32) (σ : mm_S) : Option (Int32 × mm_S) :=
    if i1 = (-1 : Int32) then
      lt (su_i σ (26 + 10) 0 (0 : Int32)) fun σ27 =>
      some ((0 : Int32), σ27)
    else
      if i1 < 0 then
        some ((-2 : Int32), σ)
      else
        if (60 : Int32) < i1 then
          some ((-2 : Int32), σ)
        else
          bd (f_X9_isLodger a0 i2 σ) fun r20 σ19 =>
          if r20 = 0 then
            some ((-2 : Int32), σ19)
          else
            if i3 < 0 then
              some ((-2 : Int32), σ19)
            else
              if (1 : Int32) < i3 then
                some ((-2 : Int32), σ19)
              else
                if (σ19.1 (26 + 10) 0) < (10 : Int32) then
                  bv (f_X3_add (26 + 10) i1 i2 i3 σ19) fun σ26 =>
                  some ((σ26.1 (26 + 10) 0), σ26)
                else
                  some ((-2 : Int32), σ19)
theorem v_X9_note {g : mm_G} (d : Nat) {a0 : Nat} {i1 : Int32} {i2 : Int32} {i3 : Int32} {σ : mm_S} {res : Int32 × mm_S} (h_a0 : (mm_K a0).1 = 9) (h : f_X9_note a0 i1 i2 i3 σ = some res) : SM g (d + 1) yy_X9_note [.ref a0, .int i1, .int i2, .int i3] σ (.int res.1) res.2 := by
  refine s_of (by decide) (Nat.le_of_ble_eq_true rfl) (L := [(0, .ref a0), (1, .int i1), (2, .int i2), (3, .int i3)]) rfl ?_
  unfold f_X9_note at h
  refine e_iload_n 1 dX9_note_0 rfl rfl ?_
  refine e_iconst (v := (-1 : Int32)) dX9_note_1 (by decide) ?_
  refine e_icmp_ne 18 dX9_note_2 (by decide) (fun c15 => ?_) (fun c15 => ?_)
  · rw [if_neg c15] at h
    refine e_iload_n 1 dX9_note_18 rfl rfl ?_
    refine e_if_lt 60 dX9_note_19 (by decide) (fun c16 => ?_) (fun c16 => ?_)
    · rw [if_pos c16] at h
      refine e_bipush (v := (-2 : Int32)) dX9_note_60 (by decide) ?_
      obtain rfl := Option.some.inj h
      exact s_ret rfl ⟨_, rfl, rfl⟩ dX9_note_62
    · rw [if_neg c16] at h
      refine e_iload_n 1 dX9_note_22 rfl rfl ?_
      refine e_bipush (v := (60 : Int32)) dX9_note_23 (by decide) ?_
      refine e_icmp_gt 60 dX9_note_25 (by decide) (fun c17 => ?_) (fun c17 => ?_)
      · rw [if_pos c17] at h
        refine e_bipush (v := (-2 : Int32)) dX9_note_60 (by decide) ?_
        obtain rfl := Option.some.inj h
        exact s_ret rfl ⟨_, rfl, rfl⟩ dX9_note_62
      · rw [if_neg c17] at h
        refine e_aload_n 0 dX9_note_28 rfl rfl ?_
        refine e_iload_n 2 dX9_note_29 rfl rfl ?_
        obtain ⟨r20, σ19, q18, h⟩ := bd_some h
        refine s_callVi [.int i2] dX9_note_30 ml_RX9_138 h_a0 ⟨_, rfl, by decide⟩ rfl (v_X9_isLodger (d + 0) h_a0 q18) (Nat.le_of_ble_eq_true rfl) ?_
        refine e_if_eq 60 dX9_note_33 (by decide) (fun c21 => ?_) (fun c21 => ?_)
        · rw [if_pos c21] at h
          refine e_bipush (v := (-2 : Int32)) dX9_note_60 (by decide) ?_
          obtain rfl := Option.some.inj h
          exact s_ret rfl ⟨_, rfl, rfl⟩ dX9_note_62
        · rw [if_neg c21] at h
          refine e_iload_n 3 dX9_note_36 rfl rfl ?_
          refine e_if_lt 60 dX9_note_37 (by decide) (fun c22 => ?_) (fun c22 => ?_)
          · rw [if_pos c22] at h
            refine e_bipush (v := (-2 : Int32)) dX9_note_60 (by decide) ?_
            obtain rfl := Option.some.inj h
            exact s_ret rfl ⟨_, rfl, rfl⟩ dX9_note_62
          · rw [if_neg c22] at h
            refine e_iload_n 3 dX9_note_40 rfl rfl ?_
            refine e_iconst (v := (1 : Int32)) dX9_note_41 (by decide) ?_
            refine e_icmp_gt 60 dX9_note_42 (by decide) (fun c23 => ?_) (fun c23 => ?_)
            · rw [if_pos c23] at h
              refine e_bipush (v := (-2 : Int32)) dX9_note_60 (by decide) ?_
              obtain rfl := Option.some.inj h
              exact s_ret rfl ⟨_, rfl, rfl⟩ dX9_note_62
            · rw [if_neg c23] at h
              refine e_aload_n 0 dX9_note_45 rfl rfl ?_
              refine s_getr dX9_note_46 fl_RX9_50 h_a0 (r_9_5 h_a0).1 ?_
              refine s_getr dX9_note_49 fl_RX9_116 (ka_1 (r_9_5 (w := 0) h_a0).2) (r_8_2 (ka_1 (r_9_5 (w := 0) h_a0).2)).1 ?_
              refine s_geti dX9_note_52 fl_RX9_120 (ka_1 (r_8_2 (w := 0) (ka_1 (r_9_5 (w := 0) h_a0).2)).2) ?_
              refine e_bipush (v := (10 : Int32)) dX9_note_55 (by decide) ?_
              refine e_icmp_lt 63 dX9_note_57 (by decide) (fun c24 => ?_) (fun c24 => ?_)
              · rw [if_pos c24] at h
                refine e_aload_n 0 dX9_note_63 rfl rfl ?_
                refine s_getr dX9_note_64 fl_RX9_50 h_a0 (r_9_5 h_a0).1 ?_
                refine s_getr dX9_note_67 fl_RX9_116 (ka_1 (r_9_5 (w := 0) h_a0).2) (r_8_2 (ka_1 (r_9_5 (w := 0) h_a0).2)).1 ?_
                refine e_iload_n 1 dX9_note_70 rfl rfl ?_
                refine e_iload_n 2 dX9_note_71 rfl rfl ?_
                refine e_iload_n 3 dX9_note_72 rfl rfl ?_
                obtain ⟨σ26, q25, h⟩ := bv_some h
                refine s_callVv [.int i1, .int i2, .int i3] dX9_note_73 ml_RX9_267 (ka_1 (r_8_2 (w := 0) (ka_1 (r_9_5 (w := 0) h_a0).2)).2) rfl rfl (v_X3_add (d + 0) (ka_1 (r_8_2 (w := 0) (ka_1 (r_9_5 (w := 0) h_a0).2)).2) q25) (Nat.le_of_ble_eq_true rfl) ?_
                refine e_aload_n 0 dX9_note_76 rfl rfl ?_
                refine s_getr dX9_note_77 fl_RX9_50 h_a0 (r_9_5 h_a0).1 ?_
                refine s_getr dX9_note_80 fl_RX9_116 (ka_1 (r_9_5 (w := 0) h_a0).2) (r_8_2 (ka_1 (r_9_5 (w := 0) h_a0).2)).1 ?_
                refine s_geti dX9_note_83 fl_RX9_120 (ka_1 (r_8_2 (w := 0) (ka_1 (r_9_5 (w := 0) h_a0).2)).2) ?_
                obtain rfl := Option.some.inj h
                exact s_ret rfl ⟨_, rfl, rfl⟩ dX9_note_86
              · rw [if_neg c24] at h
                refine e_bipush (v := (-2 : Int32)) dX9_note_60 (by decide) ?_
                obtain rfl := Option.some.inj h
                exact s_ret rfl ⟨_, rfl, rfl⟩ dX9_note_62
  · rw [if_pos c15] at h
    refine e_aload_n 0 dX9_note_5 rfl rfl ?_
    refine s_getr dX9_note_6 fl_RX9_50 h_a0 (r_9_5 h_a0).1 ?_
    refine s_getr dX9_note_9 fl_RX9_116 (ka_1 (r_9_5 (w := 0) h_a0).2) (r_8_2 (ka_1 (r_9_5 (w := 0) h_a0).2)).1 ?_
    refine e_iconst (v := (0 : Int32)) dX9_note_12 (by decide) ?_
    refine s_puti dX9_note_13 fl_RX9_120 (ka_1 (r_8_2 (w := 0) (ka_1 (r_9_5 (w := 0) h_a0).2)).2) rfl rfl rfl ?_
    obtain ⟨σ27, q28, h⟩ := lt_some h
    refine s_nms q28 ?_
    refine e_iconst (v := (0 : Int32)) dX9_note_16 (by decide) ?_
    obtain rfl := Option.some.inj h
    exact s_ret rfl ⟨_, rfl, rfl⟩ dX9_note_17
abbrev yy_X9_fittingRules : mm_Y := (yX9_fittingRules, cX9_fittingRules, 5, (some .int))
theorem dX9_fittingRules_0 : decode cX9_fittingRules 0 = .ok (.iconst 0, 1) := by decide +kernel
theorem dX9_fittingRules_1 : decode cX9_fittingRules 1 = .ok (.istore_n 1, 1) := by decide +kernel
theorem dX9_fittingRules_2 : decode cX9_fittingRules 2 = .ok (.iconst 0, 1) := by decide +kernel
theorem dX9_fittingRules_3 : decode cX9_fittingRules 3 = .ok (.istore_n 2, 1) := by decide +kernel
theorem dX9_fittingRules_4 : decode cX9_fittingRules 4 = .ok (.iload_n 2, 1) := by decide +kernel
theorem dX9_fittingRules_5 : decode cX9_fittingRules 5 = .ok (.aload_n 0, 1) := by decide +kernel
theorem dX9_fittingRules_6 : decode cX9_fittingRules 6 = .ok (.getfield 43, 3) := by decide +kernel
theorem dX9_fittingRules_9 : decode cX9_fittingRules 9 = .ok (.if_icmp .gt 94, 3) := by decide +kernel
theorem dX9_fittingRules_12 : decode cX9_fittingRules 12 = .ok (.iload_n 2, 1) := by decide +kernel
theorem dX9_fittingRules_13 : decode cX9_fittingRules 13 = .ok (.bipush 61, 2) := by decide +kernel
theorem dX9_fittingRules_15 : decode cX9_fittingRules 15 = .ok (.imul, 1) := by decide +kernel
theorem dX9_fittingRules_16 : decode cX9_fittingRules 16 = .ok (.istore_n 3, 1) := by decide +kernel
theorem dX9_fittingRules_17 : decode cX9_fittingRules 17 = .ok (.aload_n 0, 1) := by decide +kernel
theorem dX9_fittingRules_18 : decode cX9_fittingRules 18 = .ok (.getfield 77, 3) := by decide +kernel
theorem dX9_fittingRules_21 : decode cX9_fittingRules 21 = .ok (.aload_n 0, 1) := by decide +kernel
theorem dX9_fittingRules_22 : decode cX9_fittingRules 22 = .ok (.getfield 34, 3) := by decide +kernel
theorem dX9_fittingRules_25 : decode cX9_fittingRules 25 = .ok (.iload_n 2, 1) := by decide +kernel
theorem dX9_fittingRules_26 : decode cX9_fittingRules 26 = .ok (.aaload, 1) := by decide +kernel
theorem dX9_fittingRules_27 : decode cX9_fittingRules 27 = .ok (.invokevirtual 278, 3) := by decide +kernel
theorem dX9_fittingRules_30 : decode cX9_fittingRules 30 = .ok (.iconst 0, 1) := by decide +kernel
theorem dX9_fittingRules_31 : decode cX9_fittingRules 31 = .ok (.istore 4, 2) := by decide +kernel
theorem dX9_fittingRules_33 : decode cX9_fittingRules 33 = .ok (.iload 4, 2) := by decide +kernel
theorem dX9_fittingRules_35 : decode cX9_fittingRules 35 = .ok (.bipush 61, 2) := by decide +kernel
theorem dX9_fittingRules_37 : decode cX9_fittingRules 37 = .ok (.if_icmp .ge 36, 3) := by decide +kernel
theorem dX9_fittingRules_40 : decode cX9_fittingRules 40 = .ok (.aload_n 0, 1) := by decide +kernel
theorem dX9_fittingRules_41 : decode cX9_fittingRules 41 = .ok (.getfield 77, 3) := by decide +kernel
theorem dX9_fittingRules_44 : decode cX9_fittingRules 44 = .ok (.iconst 1, 1) := by decide +kernel
theorem dX9_fittingRules_45 : decode cX9_fittingRules 45 = .ok (.invokevirtual 199, 3) := by decide +kernel
theorem dX9_fittingRules_48 : decode cX9_fittingRules 48 = .ok (.aload_n 0, 1) := by decide +kernel
theorem dX9_fittingRules_49 : decode cX9_fittingRules 49 = .ok (.getfield 88, 3) := by decide +kernel
theorem dX9_fittingRules_52 : decode cX9_fittingRules 52 = .ok (.iload_n 3, 1) := by decide +kernel
theorem dX9_fittingRules_53 : decode cX9_fittingRules 53 = .ok (.iload 4, 2) := by decide +kernel
theorem dX9_fittingRules_55 : decode cX9_fittingRules 55 = .ok (.iadd, 1) := by decide +kernel
theorem dX9_fittingRules_56 : decode cX9_fittingRules 56 = .ok (.aload_n 0, 1) := by decide +kernel
theorem dX9_fittingRules_57 : decode cX9_fittingRules 57 = .ok (.getfield 77, 3) := by decide +kernel
theorem dX9_fittingRules_60 : decode cX9_fittingRules 60 = .ok (.getfield 202, 3) := by decide +kernel
theorem dX9_fittingRules_63 : decode cX9_fittingRules 63 = .ok (.getfield 174, 3) := by decide +kernel
theorem dX9_fittingRules_66 : decode cX9_fittingRules 66 = .ok (.iastore, 1) := by decide +kernel
theorem dX9_fittingRules_67 : decode cX9_fittingRules 67 = .ok (.iinc 4 1, 3) := by decide +kernel
theorem dX9_fittingRules_70 : decode cX9_fittingRules 70 = .ok (.goto (-37), 3) := by decide +kernel
theorem dX9_fittingRules_73 : decode cX9_fittingRules 73 = .ok (.aload_n 0, 1) := by decide +kernel
theorem dX9_fittingRules_74 : decode cX9_fittingRules 74 = .ok (.getfield 50, 3) := by decide +kernel
theorem dX9_fittingRules_77 : decode cX9_fittingRules 77 = .ok (.getfield 116, 3) := by decide +kernel
theorem dX9_fittingRules_80 : decode cX9_fittingRules 80 = .ok (.aload_n 0, 1) := by decide +kernel
theorem dX9_fittingRules_81 : decode cX9_fittingRules 81 = .ok (.getfield 88, 3) := by decide +kernel
theorem dX9_fittingRules_84 : decode cX9_fittingRules 84 = .ok (.iload_n 3, 1) := by decide +kernel
theorem dX9_fittingRules_85 : decode cX9_fittingRules 85 = .ok (.invokevirtual 281, 3) := by decide +kernel
theorem dX9_fittingRules_88 : decode cX9_fittingRules 88 = .ok (.ifCond .eq 9, 3) := by decide +kernel
theorem dX9_fittingRules_91 : decode cX9_fittingRules 91 = .ok (.iload_n 1, 1) := by decide +kernel
theorem dX9_fittingRules_92 : decode cX9_fittingRules 92 = .ok (.iconst 1, 1) := by decide +kernel
theorem dX9_fittingRules_93 : decode cX9_fittingRules 93 = .ok (.iload_n 2, 1) := by decide +kernel
theorem dX9_fittingRules_94 : decode cX9_fittingRules 94 = .ok (.ishl, 1) := by decide +kernel
theorem dX9_fittingRules_95 : decode cX9_fittingRules 95 = .ok (.ior, 1) := by decide +kernel
theorem dX9_fittingRules_96 : decode cX9_fittingRules 96 = .ok (.istore_n 1, 1) := by decide +kernel
theorem dX9_fittingRules_97 : decode cX9_fittingRules 97 = .ok (.iinc 2 1, 3) := by decide +kernel
theorem dX9_fittingRules_100 : decode cX9_fittingRules 100 = .ok (.goto (-96), 3) := by decide +kernel
theorem dX9_fittingRules_103 : decode cX9_fittingRules 103 = .ok (.iload_n 1, 1) := by decide +kernel
theorem dX9_fittingRules_104 : decode cX9_fittingRules 104 = .ok (.ireturn, 1) := by decide +kernel
def f_X9_fittingRules_33 (k4 : (Int32 × Int32) → mm_S → Option (Int32 × mm_S)) (a0 : Nat) (i1 : Int32) (i2 : Int32) (i3 : Int32) (i4 : Int32) (σ : mm_S) : Option (Int32 × mm_S) :=
  lp lpN (fun (k33 : (Int32) → mm_S → Option (Int32 × mm_S)) (v : Int32) (σ : mm_S) =>
    if (61 : Int32) ≤ v then
      bd (f_X3_areSo (26 + 10) 213 i3 σ) fun r4 σ3 =>
      if r4 = 0 then
        lt (i2 + Int32.ofInt (1)) fun x6 =>
        k4 (i1, x6) σ3
      else
        lt ((i1 ||| ((1 : Int32) <<< (i2 &&& 31)))) fun x8 =>
        lt (i2 + Int32.ofInt (1)) fun x10 =>
        k4 (x8, x10) σ3
    else
      bv (f_X7_passHours 200 (1 : Int32) σ) fun σ13 =>
      gd (i3 + v) 427 <|
      lt (su_i σ13 213 (i3 + v).toNatClampNeg (σ13.1 201 1)) fun σ15 =>
      lt (v + Int32.ofInt (1)) fun x17 =>
      k33 x17 σ15) i4 σ
theorem v_X9_fittingRules_33 {g : mm_G} (d : Nat) {k4 : (Int32 × Int32) → mm_S → Option (Int32 × mm_S)} {a0 : Nat} {i1 : Int32} {i2 : Int32} {i3 : Int32} {i4 : Int32} {σ : mm_S} {res : Int32 × mm_S} (H4 : ∀ v σ, k4 v σ = some res → SV g (d + 5) yy_X9_fittingRules 4 [(0, .ref a0), (1, .int v.1), (2, .int v.2)] [] σ (.int res.1) res.2) (h_a0 : (mm_K a0).1 = 9) (h : f_X9_fittingRules_33 k4 a0 i1 i2 i3 i4 σ = some res) : SV g (d + 5) yy_X9_fittingRules 33 [(0, .ref a0), (1, .int i1), (2, .int i2), (3, .int i3), (4, .int i4)] [] σ (.int res.1) res.2 := by
  unfold f_X9_fittingRules_33 at h
  refine lp_ind (P := fun v σ => SV g (d + 5) yy_X9_fittingRules 33 [(0, .ref a0), (1, .int i1), (2, .int i2), (3, .int i3), (4, .int v)] [] σ (.int res.1) res.2) (fun k33 H33 v σ h => ?_) _ i4 σ h
  refine e_iload 4 dX9_fittingRules_33  rfl ?_
  refine e_bipush (v := (61 : Int32)) dX9_fittingRules_35 (by decide) ?_
  refine e_icmp_ge 73 dX9_fittingRules_37 (by decide) (fun c1 => ?_) (fun c1 => ?_)
  · rw [if_pos c1] at h
    refine e_aload_n 0 dX9_fittingRules_73 rfl rfl ?_
    refine s_getr dX9_fittingRules_74 fl_RX9_50 h_a0 (r_9_5 h_a0).1 ?_
    refine s_getr dX9_fittingRules_77 fl_RX9_116 (ka_1 (r_9_5 (w := 0) h_a0).2) (r_8_2 (ka_1 (r_9_5 (w := 0) h_a0).2)).1 ?_
    refine e_aload_n 0 dX9_fittingRules_80 rfl rfl ?_
    refine s_getr dX9_fittingRules_81 fl_RX9_88 h_a0 (r_9_12 h_a0).1 ?_
    refine e_iload_n 3 dX9_fittingRules_84 rfl rfl ?_
    obtain ⟨r4, σ3, q2, h⟩ := bd_some h
    refine s_callVi [.ref 213, .int i3] dX9_fittingRules_85 ml_RX9_281 (ka_1 (r_8_2 (w := 0) (ka_1 (r_9_5 (w := 0) h_a0).2)).2) ⟨_, rfl, by decide⟩ rfl (v_X3_areSo (d + 4) (ka_1 (r_8_2 (w := 0) (ka_1 (r_9_5 (w := 0) h_a0).2)).2) (ka_1 (r_9_12 (w := 0) h_a0).2) q2) (Nat.le_of_ble_eq_true rfl) ?_
    refine e_if_eq 97 dX9_fittingRules_88 (by decide) (fun c5 => ?_) (fun c5 => ?_)
    · rw [if_pos c5] at h
      obtain ⟨x6, q7, h⟩ := lt_some h
      refine e_iinc (v := x6) (L' := [(0, .ref a0), (1, .int i1), (2, .int x6), (3, .int i3), (4, .int v)]) 2 dX9_fittingRules_97 rfl q7.symm (by decide) rfl ?_
      refine e_goto 4 dX9_fittingRules_100 (by decide) ?_
      refine s_pick (L' := [(0, .ref a0), (1, .int i1), (2, .int x6)]) [0, 1, 2] rfl ?_
      exact H4 (i1, x6) σ3 h
    · rw [if_neg c5] at h
      refine e_iload_n 1 dX9_fittingRules_91 rfl rfl ?_
      refine e_iconst (v := (1 : Int32)) dX9_fittingRules_92 (by decide) ?_
      refine e_iload_n 2 dX9_fittingRules_93 rfl rfl ?_
      refine e_ishl dX9_fittingRules_94 ?_
      refine e_ior dX9_fittingRules_95 ?_
      obtain ⟨x8, q9, h⟩ := lt_some h
      refine s_nmi q9 ?_
      refine e_istore_n (L' := [(0, .ref a0), (1, .int x8), (2, .int i2), (3, .int i3), (4, .int v)]) dX9_fittingRules_96 rfl (by decide) rfl ?_
      obtain ⟨x10, q11, h⟩ := lt_some h
      refine e_iinc (v := x10) (L' := [(0, .ref a0), (1, .int x8), (2, .int x10), (3, .int i3), (4, .int v)]) 2 dX9_fittingRules_97 rfl q11.symm (by decide) rfl ?_
      refine e_goto 4 dX9_fittingRules_100 (by decide) ?_
      refine s_pick (L' := [(0, .ref a0), (1, .int x8), (2, .int x10)]) [0, 1, 2] rfl ?_
      exact H4 (x8, x10) σ3 h
  · rw [if_neg c1] at h
    refine e_aload_n 0 dX9_fittingRules_40 rfl rfl ?_
    refine s_getr dX9_fittingRules_41 fl_RX9_77 h_a0 (r_9_9 h_a0).1 ?_
    refine e_iconst (v := (1 : Int32)) dX9_fittingRules_44 (by decide) ?_
    obtain ⟨σ13, q12, h⟩ := bv_some h
    refine s_callVv [.int (1 : Int32)] dX9_fittingRules_45 ml_RX9_199 (ka_1 (r_9_9 (w := 0) h_a0).2) rfl rfl (v_X7_passHours (d + 0) (ka_1 (r_9_9 (w := 0) h_a0).2) q12) (Nat.le_of_ble_eq_true rfl) ?_
    refine e_aload_n 0 dX9_fittingRules_48 rfl rfl ?_
    refine s_getr dX9_fittingRules_49 fl_RX9_88 h_a0 (r_9_12 h_a0).1 ?_
    refine e_iload_n 3 dX9_fittingRules_52 rfl rfl ?_
    refine e_iload 4 dX9_fittingRules_53  rfl ?_
    refine e_iadd dX9_fittingRules_55 ?_
    refine e_aload_n 0 dX9_fittingRules_56 rfl rfl ?_
    refine s_getr dX9_fittingRules_57 fl_RX9_77 h_a0 (r_9_9 h_a0).1 ?_
    refine s_getr dX9_fittingRules_60 fl_RX9_202 (ka_1 (r_9_9 (w := 0) h_a0).2) (r_7_1 (ka_1 (r_9_9 (w := 0) h_a0).2)).1 ?_
    refine s_geti dX9_fittingRules_63 fl_RX9_174 (ka_1 (r_7_1 (w := 0) (ka_1 (r_9_9 (w := 0) h_a0).2)).2) ?_
    obtain ⟨q14, h⟩ := gd_some h
    refine s_iast dX9_fittingRules_66 (r_9_12 (w := 0) h_a0).2 q14 ?_
    obtain ⟨σ15, q16, h⟩ := lt_some h
    refine s_nms q16 ?_
    obtain ⟨x17, q18, h⟩ := lt_some h
    refine e_iinc (v := x17) (L' := [(0, .ref a0), (1, .int i1), (2, .int i2), (3, .int i3), (4, .int x17)]) 4 dX9_fittingRules_67 rfl q18.symm (by decide) rfl ?_
    refine e_goto 33 dX9_fittingRules_70 (by decide) ?_
    refine s_pick (L' := [(0, .ref a0), (1, .int i1), (2, .int i2), (3, .int i3), (4, .int x17)]) [0, 1, 2, 3, 4] rfl ?_
    exact H33 x17 σ15 h
def f_X9_fittingRules_4 (a0 : Nat) (i1 : Int32) (i2 : Int32) (σ : mm_S) : Option (Int32 × mm_S) :=
  lp lpN (fun (k4 : (Int32 × Int32) → mm_S → Option (Int32 × mm_S)) (v : Int32 × Int32) (σ : mm_S) =>
    if (σ.1 a0 4) < v.2 then
      some (v.1, σ)
    else
      lt ((v.2 * (61 : Int32))) fun x20 =>
      gd v.2 7 <|
      bv (f_X7_beginAsTold 200 (12 + 2 * v.2.toNatClampNeg) σ) fun σ24 =>
      f_X9_fittingRules_33 k4 a0 v.1 v.2 x20 (0 : Int32) σ24) (i1, i2) σ
theorem v_X9_fittingRules_4 {g : mm_G} (d : Nat) {a0 : Nat} {i1 : Int32} {i2 : Int32} {σ : mm_S} {res : Int32 × mm_S}  (h_a0 : (mm_K a0).1 = 9) (h : f_X9_fittingRules_4 a0 i1 i2 σ = some res) : SV g (d + 5) yy_X9_fittingRules 4 [(0, .ref a0), (1, .int i1), (2, .int i2)] [] σ (.int res.1) res.2 := by
  unfold f_X9_fittingRules_4 at h
  refine lp_ind (P := fun v σ => SV g (d + 5) yy_X9_fittingRules 4 [(0, .ref a0), (1, .int v.1), (2, .int v.2)] [] σ (.int res.1) res.2) (fun k4 H4 v σ h => ?_) _ (i1, i2) σ h
  refine e_iload_n 2 dX9_fittingRules_4 rfl rfl ?_
  refine e_aload_n 0 dX9_fittingRules_5 rfl rfl ?_
  refine s_geti dX9_fittingRules_6 fl_RX9_43 h_a0 ?_
  refine e_icmp_gt 103 dX9_fittingRules_9 (by decide) (fun c19 => ?_) (fun c19 => ?_)
  · rw [if_pos c19] at h
    refine e_iload_n 1 dX9_fittingRules_103 rfl rfl ?_
    obtain rfl := Option.some.inj h
    exact s_ret rfl ⟨_, rfl, rfl⟩ dX9_fittingRules_104
  · rw [if_neg c19] at h
    refine e_iload_n 2 dX9_fittingRules_12 rfl rfl ?_
    refine e_bipush (v := (61 : Int32)) dX9_fittingRules_13 (by decide) ?_
    refine e_imul dX9_fittingRules_15 ?_
    obtain ⟨x20, q21, h⟩ := lt_some h
    refine s_nmi q21 ?_
    refine e_istore_n (L' := [(0, .ref a0), (1, .int v.1), (2, .int v.2), (3, .int x20)]) dX9_fittingRules_16 rfl (by decide) rfl ?_
    refine e_aload_n 0 dX9_fittingRules_17 rfl rfl ?_
    refine s_getr dX9_fittingRules_18 fl_RX9_77 h_a0 (r_9_9 h_a0).1 ?_
    refine e_aload_n 0 dX9_fittingRules_21 rfl rfl ?_
    refine s_getr dX9_fittingRules_22 fl_RX9_34 h_a0 (r_9_3 h_a0).1 ?_
    refine e_iload_n 2 dX9_fittingRules_25 rfl rfl ?_
    obtain ⟨q22, h⟩ := gd_some h
    refine s_aald16 dX9_fittingRules_26 (ka_1 (r_9_3 (w := 0) h_a0).2) q22 ?_
    obtain ⟨σ24, q23, h⟩ := bv_some h
    refine s_callVv [.ref (12 + 2 * v.2.toNatClampNeg)] dX9_fittingRules_27 ml_RX9_278 (ka_1 (r_9_9 (w := 0) h_a0).2) rfl rfl (v_X7_beginAsTold (d + 1) (ka_1 (r_9_9 (w := 0) h_a0).2) (r_a16 (w := 0) (ka_1 (r_9_3 (w := 0) h_a0).2) (vin_lt q22)).2.1 q23) (Nat.le_of_ble_eq_true rfl) ?_
    refine e_iconst (v := (0 : Int32)) dX9_fittingRules_30 (by decide) ?_
    refine e_istore (L' := [(0, .ref a0), (1, .int v.1), (2, .int v.2), (3, .int x20), (4, .int (0 : Int32))]) dX9_fittingRules_31  (by decide) rfl ?_
    refine s_pick (L' := [(0, .ref a0), (1, .int v.1), (2, .int v.2), (3, .int x20), (4, .int (0 : Int32))]) [0, 1, 2, 3, 4] rfl ?_
    exact v_X9_fittingRules_33 d H4 h_a0 h
def f_X9_fittingRules (a0 : Nat) (σ : mm_S) : Option (Int32 × mm_S) :=
    f_X9_fittingRules_4 a0 (0 : Int32) (0 : Int32) σ
theorem v_X9_fittingRules {g : mm_G} (d : Nat) {a0 : Nat} {σ : mm_S} {res : Int32 × mm_S} (h_a0 : (mm_K a0).1 = 9) (h : f_X9_fittingRules a0 σ = some res) : SM g (d + 5) yy_X9_fittingRules [.ref a0] σ (.int res.1) res.2 := by
  refine s_of (by decide) (Nat.le_of_ble_eq_true rfl) (L := [(0, .ref a0)]) rfl ?_
  unfold f_X9_fittingRules at h
  refine e_iconst (v := (0 : Int32)) dX9_fittingRules_0 (by decide) ?_
  refine e_istore_n (L' := [(0, .ref a0), (1, .int (0 : Int32))]) dX9_fittingRules_1 rfl (by decide) rfl ?_
  refine e_iconst (v := (0 : Int32)) dX9_fittingRules_2 (by decide) ?_
  refine e_istore_n (L' := [(0, .ref a0), (1, .int (0 : Int32)), (2, .int (0 : Int32))]) dX9_fittingRules_3 rfl (by decide) rfl ?_
  refine s_pick (L' := [(0, .ref a0), (1, .int (0 : Int32)), (2, .int (0 : Int32))]) [0, 1, 2] rfl ?_
  exact v_X9_fittingRules_4 d h_a0 h
