abbrev yy_X9_out : mm_Y := (yX9_out, cX9_out, 7, (some .int))
theorem dX9_out_0 : decode cX9_out 0 = .ok (.aload_n 0, 1) := by decide +kernel
theorem dX9_out_1 : decode cX9_out 1 = .ok (.getfield 50, 3) := by decide +kernel
theorem dX9_out_4 : decode cX9_out 4 = .ok (.getfield 71, 3) := by decide +kernel
theorem dX9_out_7 : decode cX9_out 7 = .ok (.getfield 188, 3) := by decide +kernel
theorem dX9_out_10 : decode cX9_out 10 = .ok (.ifCond .eq 23, 3) := by decide +kernel
theorem dX9_out_13 : decode cX9_out 13 = .ok (.iload_n 1, 1) := by decide +kernel
theorem dX9_out_14 : decode cX9_out 14 = .ok (.iconst 1, 1) := by decide +kernel
theorem dX9_out_15 : decode cX9_out 15 = .ok (.if_icmp .lt 18, 3) := by decide +kernel
theorem dX9_out_18 : decode cX9_out 18 = .ok (.iload_n 1, 1) := by decide +kernel
theorem dX9_out_19 : decode cX9_out 19 = .ok (.bipush 30, 2) := by decide +kernel
theorem dX9_out_21 : decode cX9_out 21 = .ok (.if_icmp .gt 12, 3) := by decide +kernel
theorem dX9_out_24 : decode cX9_out 24 = .ok (.iload_n 2, 1) := by decide +kernel
theorem dX9_out_25 : decode cX9_out 25 = .ok (.ifCond .lt 8, 3) := by decide +kernel
theorem dX9_out_28 : decode cX9_out 28 = .ok (.iload_n 2, 1) := by decide +kernel
theorem dX9_out_29 : decode cX9_out 29 = .ok (.iconst 1, 1) := by decide +kernel
theorem dX9_out_30 : decode cX9_out 30 = .ok (.if_icmp .le 6, 3) := by decide +kernel
theorem dX9_out_33 : decode cX9_out 33 = .ok (.bipush (-2), 2) := by decide +kernel
theorem dX9_out_35 : decode cX9_out 35 = .ok (.ireturn, 1) := by decide +kernel
theorem dX9_out_36 : decode cX9_out 36 = .ok (.iconst (-1), 1) := by decide +kernel
theorem dX9_out_37 : decode cX9_out 37 = .ok (.istore_n 3, 1) := by decide +kernel
theorem dX9_out_38 : decode cX9_out 38 = .ok (.iconst (-1), 1) := by decide +kernel
theorem dX9_out_39 : decode cX9_out 39 = .ok (.istore 4, 2) := by decide +kernel
theorem dX9_out_41 : decode cX9_out 41 = .ok (.iconst (-1), 1) := by decide +kernel
theorem dX9_out_42 : decode cX9_out 42 = .ok (.istore 5, 2) := by decide +kernel
theorem dX9_out_44 : decode cX9_out 44 = .ok (.iload 5, 2) := by decide +kernel
theorem dX9_out_46 : decode cX9_out 46 = .ok (.aload_n 0, 1) := by decide +kernel
theorem dX9_out_47 : decode cX9_out 47 = .ok (.getfield 50, 3) := by decide +kernel
theorem dX9_out_50 : decode cX9_out 50 = .ok (.getfield 71, 3) := by decide +kernel
theorem dX9_out_53 : decode cX9_out 53 = .ok (.getfield 128, 3) := by decide +kernel
theorem dX9_out_56 : decode cX9_out 56 = .ok (.if_icmp .ge 73, 3) := by decide +kernel
theorem dX9_out_59 : decode cX9_out 59 = .ok (.aload_n 0, 1) := by decide +kernel
theorem dX9_out_60 : decode cX9_out 60 = .ok (.invokevirtual 196, 3) := by decide +kernel
theorem dX9_out_63 : decode cX9_out 63 = .ok (.aload_n 0, 1) := by decide +kernel
theorem dX9_out_64 : decode cX9_out 64 = .ok (.getfield 77, 3) := by decide +kernel
theorem dX9_out_67 : decode cX9_out 67 = .ok (.iload 5, 2) := by decide +kernel
theorem dX9_out_69 : decode cX9_out 69 = .ok (.putfield 245, 3) := by decide +kernel
theorem dX9_out_72 : decode cX9_out 72 = .ok (.aload_n 0, 1) := by decide +kernel
theorem dX9_out_73 : decode cX9_out 73 = .ok (.getfield 77, 3) := by decide +kernel
theorem dX9_out_76 : decode cX9_out 76 = .ok (.iload_n 1, 1) := by decide +kernel
theorem dX9_out_77 : decode cX9_out 77 = .ok (.invokevirtual 199, 3) := by decide +kernel
theorem dX9_out_80 : decode cX9_out 80 = .ok (.aload_n 0, 1) := by decide +kernel
theorem dX9_out_81 : decode cX9_out 81 = .ok (.getfield 77, 3) := by decide +kernel
theorem dX9_out_84 : decode cX9_out 84 = .ok (.getfield 202, 3) := by decide +kernel
theorem dX9_out_87 : decode cX9_out 87 = .ok (.getfield 154, 3) := by decide +kernel
theorem dX9_out_90 : decode cX9_out 90 = .ok (.invokestatic 180, 3) := by decide +kernel
theorem dX9_out_93 : decode cX9_out 93 = .ok (.aload_n 0, 1) := by decide +kernel
theorem dX9_out_94 : decode cX9_out 94 = .ok (.getfield 50, 3) := by decide +kernel
theorem dX9_out_97 : decode cX9_out 97 = .ok (.getfield 107, 3) := by decide +kernel
theorem dX9_out_100 : decode cX9_out 100 = .ok (.getfield 154, 3) := by decide +kernel
theorem dX9_out_103 : decode cX9_out 103 = .ok (.invokestatic 180, 3) := by decide +kernel
theorem dX9_out_106 : decode cX9_out 106 = .ok (.isub, 1) := by decide +kernel
theorem dX9_out_107 : decode cX9_out 107 = .ok (.istore 6, 2) := by decide +kernel
theorem dX9_out_109 : decode cX9_out 109 = .ok (.iload 6, 2) := by decide +kernel
theorem dX9_out_111 : decode cX9_out 111 = .ok (.iload 4, 2) := by decide +kernel
theorem dX9_out_113 : decode cX9_out 113 = .ok (.if_icmp .le 10, 3) := by decide +kernel
theorem dX9_out_116 : decode cX9_out 116 = .ok (.iload 6, 2) := by decide +kernel
theorem dX9_out_118 : decode cX9_out 118 = .ok (.istore 4, 2) := by decide +kernel
theorem dX9_out_120 : decode cX9_out 120 = .ok (.iload 5, 2) := by decide +kernel
theorem dX9_out_122 : decode cX9_out 122 = .ok (.istore_n 3, 1) := by decide +kernel
theorem dX9_out_123 : decode cX9_out 123 = .ok (.iinc 5 1, 3) := by decide +kernel
theorem dX9_out_126 : decode cX9_out 126 = .ok (.goto (-82), 3) := by decide +kernel
theorem dX9_out_129 : decode cX9_out 129 = .ok (.iload_n 2, 1) := by decide +kernel
theorem dX9_out_130 : decode cX9_out 130 = .ok (.ifCond .ne 7, 3) := by decide +kernel
theorem dX9_out_133 : decode cX9_out 133 = .ok (.iload_n 3, 1) := by decide +kernel
theorem dX9_out_134 : decode cX9_out 134 = .ok (.goto 5, 3) := by decide +kernel
theorem dX9_out_137 : decode cX9_out 137 = .ok (.iload 4, 2) := by decide +kernel
theorem dX9_out_139 : decode cX9_out 139 = .ok (.ireturn, 1) := by decide +kernel
def f_X9_out_44 (a0 : Nat) (i1 : Int32) (i2 : Int32) (i3 : Int32) (i4 : Int32) (i5 : Int32) (σ : mm_S) : Option (Int32 × mm_S) :=
  lp lpN (fun (k44 : (Int32 × Int32 × Int32) → mm_S → Option (Int32 × mm_S)) (v : Int32 × Int32 × Int32) (σ : mm_S) =>
    if (σ.1 (26 + 1) 3) ≤ v.2.2 then
      if i2 = 0 then
        some (v.1, σ)
      else
        some (v.2.1, σ)
    else
      bv (f_X9_walkFromNow a0 σ) fun σ4 =>
      lt (su_i σ4 200 4 v.2.2) fun σ5 =>
      bv (f_X7_passHours 200 i1 σ5) fun σ8 =>
      bd (f_X9_sum (201 + 4) σ8) fun r11 σ10 =>
      bd (f_X9_sum ((26 + 5) + 4) σ10) fun r14 σ13 =>
      lt ((r11 - r14)) fun x15 =>
      if x15 ≤ v.2.1 then
        lt (v.2.2 + Int32.ofInt (1)) fun x18 =>
        k44 (v.1, v.2.1, x18) σ13
      else
        lt (v.2.2 + Int32.ofInt (1)) fun x20 =>
        k44 (v.2.2, x15, x20) σ13) (i3, i4, i5) σ
theorem v_X9_out_44 {g : mm_G} (d : Nat) {a0 : Nat} {i1 : Int32} {i2 : Int32} {i3 : Int32} {i4 : Int32} {i5 : Int32} {σ : mm_S} {res : Int32 × mm_S}  (h_a0 : (mm_K a0).1 = 9) (h : f_X9_out_44 a0 i1 i2 i3 i4 i5 σ = some res) : SV g (d + 5) yy_X9_out 44 [(0, .ref a0), (1, .int i1), (2, .int i2), (3, .int i3), (4, .int i4), (5, .int i5)] [] σ (.int res.1) res.2 := by
  unfold f_X9_out_44 at h
  refine lp_ind (P := fun v σ => SV g (d + 5) yy_X9_out 44 [(0, .ref a0), (1, .int i1), (2, .int i2), (3, .int v.1), (4, .int v.2.1), (5, .int v.2.2)] [] σ (.int res.1) res.2) (fun k44 H44 v σ h => ?_) _ (i3, i4, i5) σ h
  refine e_iload 5 dX9_out_44  rfl ?_
  refine e_aload_n 0 dX9_out_46 rfl rfl ?_
  refine s_getr dX9_out_47 fl_RX9_50 h_a0 (r_9_5 h_a0).1 ?_
  refine s_getr dX9_out_50 fl_RX9_71 (ka_1 (r_9_5 (w := 0) h_a0).2) (r_8_0 (ka_1 (r_9_5 (w := 0) h_a0).2)).1 ?_
  refine s_geti dX9_out_53 fl_RX9_128 (ka_1 (r_8_0 (w := 0) (ka_1 (r_9_5 (w := 0) h_a0).2)).2) ?_
  refine e_icmp_ge 129 dX9_out_56 (by decide) (fun c1 => ?_) (fun c1 => ?_)
  · rw [if_pos c1] at h
    refine e_iload_n 2 dX9_out_129 rfl rfl ?_
    refine e_if_ne 137 dX9_out_130 (by decide) (fun c2 => ?_) (fun c2 => ?_)
    · rw [if_neg c2] at h
      refine e_iload 4 dX9_out_137  rfl ?_
      obtain rfl := Option.some.inj h
      exact s_ret rfl ⟨_, rfl, rfl⟩ dX9_out_139
    · rw [if_pos c2] at h
      refine e_iload_n 3 dX9_out_133 rfl rfl ?_
      refine e_goto 139 dX9_out_134 (by decide) ?_
      obtain rfl := Option.some.inj h
      exact s_ret rfl ⟨_, rfl, rfl⟩ dX9_out_139
  · rw [if_neg c1] at h
    refine e_aload_n 0 dX9_out_59 rfl rfl ?_
    obtain ⟨σ4, q3, h⟩ := bv_some h
    refine s_callVv [] dX9_out_60 ml_RX9_196 h_a0 rfl rfl (v_X9_walkFromNow (d + 1) h_a0 q3) (Nat.le_of_ble_eq_true rfl) ?_
    refine e_aload_n 0 dX9_out_63 rfl rfl ?_
    refine s_getr dX9_out_64 fl_RX9_77 h_a0 (r_9_9 h_a0).1 ?_
    refine e_iload 5 dX9_out_67  rfl ?_
    refine s_puti dX9_out_69 fl_RX9_245 (ka_1 (r_9_9 (w := 0) h_a0).2) rfl rfl rfl ?_
    obtain ⟨σ5, q6, h⟩ := lt_some h
    refine s_nms q6 ?_
    refine e_aload_n 0 dX9_out_72 rfl rfl ?_
    refine s_getr dX9_out_73 fl_RX9_77 h_a0 (r_9_9 h_a0).1 ?_
    refine e_iload_n 1 dX9_out_76 rfl rfl ?_
    obtain ⟨σ8, q7, h⟩ := bv_some h
    refine s_callVv [.int i1] dX9_out_77 ml_RX9_199 (ka_1 (r_9_9 (w := 0) h_a0).2) rfl rfl (v_X7_passHours (d + 0) (ka_1 (r_9_9 (w := 0) h_a0).2) q7) (Nat.le_of_ble_eq_true rfl) ?_
    refine e_aload_n 0 dX9_out_80 rfl rfl ?_
    refine s_getr dX9_out_81 fl_RX9_77 h_a0 (r_9_9 h_a0).1 ?_
    refine s_getr dX9_out_84 fl_RX9_202 (ka_1 (r_9_9 (w := 0) h_a0).2) (r_7_1 (ka_1 (r_9_9 (w := 0) h_a0).2)).1 ?_
    refine s_getr dX9_out_87 fl_RX9_154 (ka_1 (r_7_1 (w := 0) (ka_1 (r_9_9 (w := 0) h_a0).2)).2) (r_2_5 (ka_1 (r_7_1 (w := 0) (ka_1 (r_9_9 (w := 0) h_a0).2)).2)).1 ?_
    obtain ⟨r11, σ10, q9, h⟩ := bd_some h
    refine s_callSi [.ref (201 + 4)] dX9_out_90 ml_RX9_180 ⟨_, rfl, by decide⟩ rfl (v_X9_sum (d + 4) (ka_1 (r_2_5 (w := 0) (ka_1 (r_7_1 (w := 0) (ka_1 (r_9_9 (w := 0) h_a0).2)).2)).2) q9) (Nat.le_of_ble_eq_true rfl) ?_
    refine e_aload_n 0 dX9_out_93 rfl rfl ?_
    refine s_getr dX9_out_94 fl_RX9_50 h_a0 (r_9_5 h_a0).1 ?_
    refine s_getr dX9_out_97 fl_RX9_107 (ka_1 (r_9_5 (w := 0) h_a0).2) (r_8_1 (ka_1 (r_9_5 (w := 0) h_a0).2)).1 ?_
    refine s_getr dX9_out_100 fl_RX9_154 (ka_1 (r_8_1 (w := 0) (ka_1 (r_9_5 (w := 0) h_a0).2)).2) (r_2_5 (ka_1 (r_8_1 (w := 0) (ka_1 (r_9_5 (w := 0) h_a0).2)).2)).1 ?_
    obtain ⟨r14, σ13, q12, h⟩ := bd_some h
    refine s_callSi [.ref ((26 + 5) + 4)] dX9_out_103 ml_RX9_180 ⟨_, rfl, by decide⟩ rfl (v_X9_sum (d + 4) (ka_1 (r_2_5 (w := 0) (ka_1 (r_8_1 (w := 0) (ka_1 (r_9_5 (w := 0) h_a0).2)).2)).2) q12) (Nat.le_of_ble_eq_true rfl) ?_
    refine e_isub dX9_out_106 ?_
    obtain ⟨x15, q16, h⟩ := lt_some h
    refine s_nmi q16 ?_
    refine e_istore (L' := [(0, .ref a0), (1, .int i1), (2, .int i2), (3, .int v.1), (4, .int v.2.1), (5, .int v.2.2), (6, .int x15)]) dX9_out_107  (by decide) rfl ?_
    refine e_iload 6 dX9_out_109  rfl ?_
    refine e_iload 4 dX9_out_111  rfl ?_
    refine e_icmp_le 123 dX9_out_113 (by decide) (fun c17 => ?_) (fun c17 => ?_)
    · rw [if_pos c17] at h
      obtain ⟨x18, q19, h⟩ := lt_some h
      refine e_iinc (v := x18) (L' := [(0, .ref a0), (1, .int i1), (2, .int i2), (3, .int v.1), (4, .int v.2.1), (5, .int x18), (6, .int x15)]) 5 dX9_out_123 rfl q19.symm (by decide) rfl ?_
      refine e_goto 44 dX9_out_126 (by decide) ?_
      refine s_pick (L' := [(0, .ref a0), (1, .int i1), (2, .int i2), (3, .int v.1), (4, .int v.2.1), (5, .int x18)]) [0, 1, 2, 3, 4, 5] rfl ?_
      exact H44 (v.1, v.2.1, x18) σ13 h
    · rw [if_neg c17] at h
      refine e_iload 6 dX9_out_116  rfl ?_
      refine e_istore (L' := [(0, .ref a0), (1, .int i1), (2, .int i2), (3, .int v.1), (4, .int x15), (5, .int v.2.2), (6, .int x15)]) dX9_out_118  (by decide) rfl ?_
      refine e_iload 5 dX9_out_120  rfl ?_
      refine e_istore_n (L' := [(0, .ref a0), (1, .int i1), (2, .int i2), (3, .int v.2.2), (4, .int x15), (5, .int v.2.2), (6, .int x15)]) dX9_out_122 rfl (by decide) rfl ?_
      obtain ⟨x20, q21, h⟩ := lt_some h
      refine e_iinc (v := x20) (L' := [(0, .ref a0), (1, .int i1), (2, .int i2), (3, .int v.2.2), (4, .int x15), (5, .int x20), (6, .int x15)]) 5 dX9_out_123 rfl q21.symm (by decide) rfl ?_
      refine e_goto 44 dX9_out_126 (by decide) ?_
      refine s_pick (L' := [(0, .ref a0), (1, .int i1), (2, .int i2), (3, .int v.2.2), (4, .int x15), (5, .int x20)]) [0, 1, 2, 3, 4, 5] rfl ?_
      exact H44 (v.2.2, x15, x20) σ13 h
def f_X9_out (a0 : Nat) (i1 : Int32) (i2 : Int32) (σ : mm_S) : Option (Int32 × mm_S) :=
    if (σ.1 (26 + 1) 0) = 0 then
      some ((-2 : Int32), σ)
    else
      if i1 < (1 : Int32) then
        some ((-2 : Int32), σ)
      else
        if (30 : Int32) < i1 then
          some ((-2 : Int32), σ)
        else
          if i2 < 0 then
            some ((-2 : Int32), σ)
          else
            if i2 ≤ (1 : Int32) then
              f_X9_out_44 a0 i1 i2 (-1 : Int32) (-1 : Int32) (-1 : Int32) σ
            else
              some ((-2 : Int32), σ)
theorem v_X9_out {g : mm_G} (d : Nat) {a0 : Nat} {i1 : Int32} {i2 : Int32} {σ : mm_S} {res : Int32 × mm_S} (h_a0 : (mm_K a0).1 = 9) (h : f_X9_out a0 i1 i2 σ = some res) : SM g (d + 5) yy_X9_out [.ref a0, .int i1, .int i2] σ (.int res.1) res.2 := by
  refine s_of (by decide) (Nat.le_of_ble_eq_true rfl) (L := [(0, .ref a0), (1, .int i1), (2, .int i2)]) rfl ?_
  unfold f_X9_out at h
  refine e_aload_n 0 dX9_out_0 rfl rfl ?_
  refine s_getr dX9_out_1 fl_RX9_50 h_a0 (r_9_5 h_a0).1 ?_
  refine s_getr dX9_out_4 fl_RX9_71 (ka_1 (r_9_5 (w := 0) h_a0).2) (r_8_0 (ka_1 (r_9_5 (w := 0) h_a0).2)).1 ?_
  refine s_geti dX9_out_7 fl_RX9_188 (ka_1 (r_8_0 (w := 0) (ka_1 (r_9_5 (w := 0) h_a0).2)).2) ?_
  refine e_if_eq 33 dX9_out_10 (by decide) (fun c27 => ?_) (fun c27 => ?_)
  · rw [if_pos c27] at h
    refine e_bipush (v := (-2 : Int32)) dX9_out_33 (by decide) ?_
    obtain rfl := Option.some.inj h
    exact s_ret rfl ⟨_, rfl, rfl⟩ dX9_out_35
  · rw [if_neg c27] at h
    refine e_iload_n 1 dX9_out_13 rfl rfl ?_
    refine e_iconst (v := (1 : Int32)) dX9_out_14 (by decide) ?_
    refine e_icmp_lt 33 dX9_out_15 (by decide) (fun c28 => ?_) (fun c28 => ?_)
    · rw [if_pos c28] at h
      refine e_bipush (v := (-2 : Int32)) dX9_out_33 (by decide) ?_
      obtain rfl := Option.some.inj h
      exact s_ret rfl ⟨_, rfl, rfl⟩ dX9_out_35
    · rw [if_neg c28] at h
      refine e_iload_n 1 dX9_out_18 rfl rfl ?_
      refine e_bipush (v := (30 : Int32)) dX9_out_19 (by decide) ?_
      refine e_icmp_gt 33 dX9_out_21 (by decide) (fun c29 => ?_) (fun c29 => ?_)
      · rw [if_pos c29] at h
        refine e_bipush (v := (-2 : Int32)) dX9_out_33 (by decide) ?_
        obtain rfl := Option.some.inj h
        exact s_ret rfl ⟨_, rfl, rfl⟩ dX9_out_35
      · rw [if_neg c29] at h
        refine e_iload_n 2 dX9_out_24 rfl rfl ?_
        refine e_if_lt 33 dX9_out_25 (by decide) (fun c30 => ?_) (fun c30 => ?_)
        · rw [if_pos c30] at h
          refine e_bipush (v := (-2 : Int32)) dX9_out_33 (by decide) ?_
          obtain rfl := Option.some.inj h
          exact s_ret rfl ⟨_, rfl, rfl⟩ dX9_out_35
        · rw [if_neg c30] at h
          refine e_iload_n 2 dX9_out_28 rfl rfl ?_
          refine e_iconst (v := (1 : Int32)) dX9_out_29 (by decide) ?_
          refine e_icmp_le 36 dX9_out_30 (by decide) (fun c31 => ?_) (fun c31 => ?_)
          · rw [if_pos c31] at h
            refine e_iconst (v := (-1 : Int32)) dX9_out_36 (by decide) ?_
            refine e_istore_n (L' := [(0, .ref a0), (1, .int i1), (2, .int i2), (3, .int (-1 : Int32))]) dX9_out_37 rfl (by decide) rfl ?_
            refine e_iconst (v := (-1 : Int32)) dX9_out_38 (by decide) ?_
            refine e_istore (L' := [(0, .ref a0), (1, .int i1), (2, .int i2), (3, .int (-1 : Int32)), (4, .int (-1 : Int32))]) dX9_out_39  (by decide) rfl ?_
            refine e_iconst (v := (-1 : Int32)) dX9_out_41 (by decide) ?_
            refine e_istore (L' := [(0, .ref a0), (1, .int i1), (2, .int i2), (3, .int (-1 : Int32)), (4, .int (-1 : Int32)), (5, .int (-1 : Int32))]) dX9_out_42  (by decide) rfl ?_
            refine s_pick (L' := [(0, .ref a0), (1, .int i1), (2, .int i2), (3, .int (-1 : Int32)), (4, .int (-1 : Int32)), (5, .int (-1 : Int32))]) [0, 1, 2, 3, 4, 5] rfl ?_
            exact v_X9_out_44 d h_a0 h
          · rw [if_neg c31] at h
            refine e_bipush (v := (-2 : Int32)) dX9_out_33 (by decide) ?_
            obtain rfl := Option.some.inj h
            exact s_ret rfl ⟨_, rfl, rfl⟩ dX9_out_35
abbrev yy_X9_sleeps : mm_Y := (yX9_sleeps, cX9_sleeps, 7, (some .int))
theorem dX9_sleeps_0 : decode cX9_sleeps 0 = .ok (.aload_n 0, 1) := by decide +kernel
theorem dX9_sleeps_1 : decode cX9_sleeps 1 = .ok (.getfield 50, 3) := by decide +kernel
theorem dX9_sleeps_4 : decode cX9_sleeps 4 = .ok (.getfield 71, 3) := by decide +kernel
theorem dX9_sleeps_7 : decode cX9_sleeps 7 = .ok (.getfield 188, 3) := by decide +kernel
theorem dX9_sleeps_10 : decode cX9_sleeps 10 = .ok (.ifCond .eq 23, 3) := by decide +kernel
theorem dX9_sleeps_13 : decode cX9_sleeps 13 = .ok (.iload_n 1, 1) := by decide +kernel
theorem dX9_sleeps_14 : decode cX9_sleeps 14 = .ok (.iconst 1, 1) := by decide +kernel
theorem dX9_sleeps_15 : decode cX9_sleeps 15 = .ok (.if_icmp .lt 18, 3) := by decide +kernel
theorem dX9_sleeps_18 : decode cX9_sleeps 18 = .ok (.iload_n 1, 1) := by decide +kernel
theorem dX9_sleeps_19 : decode cX9_sleeps 19 = .ok (.bipush 100, 2) := by decide +kernel
theorem dX9_sleeps_21 : decode cX9_sleeps 21 = .ok (.if_icmp .gt 12, 3) := by decide +kernel
theorem dX9_sleeps_24 : decode cX9_sleeps 24 = .ok (.iload_n 2, 1) := by decide +kernel
theorem dX9_sleeps_25 : decode cX9_sleeps 25 = .ok (.ifCond .lt 8, 3) := by decide +kernel
theorem dX9_sleeps_28 : decode cX9_sleeps 28 = .ok (.iload_n 2, 1) := by decide +kernel
theorem dX9_sleeps_29 : decode cX9_sleeps 29 = .ok (.iconst 1, 1) := by decide +kernel
theorem dX9_sleeps_30 : decode cX9_sleeps 30 = .ok (.if_icmp .le 5, 3) := by decide +kernel
theorem dX9_sleeps_33 : decode cX9_sleeps 33 = .ok (.iconst (-1), 1) := by decide +kernel
theorem dX9_sleeps_34 : decode cX9_sleeps 34 = .ok (.ireturn, 1) := by decide +kernel
theorem dX9_sleeps_35 : decode cX9_sleeps 35 = .ok (.aload_n 0, 1) := by decide +kernel
theorem dX9_sleeps_36 : decode cX9_sleeps 36 = .ok (.invokevirtual 196, 3) := by decide +kernel
theorem dX9_sleeps_39 : decode cX9_sleeps 39 = .ok (.aload_n 0, 1) := by decide +kernel
theorem dX9_sleeps_40 : decode cX9_sleeps 40 = .ok (.getfield 77, 3) := by decide +kernel
theorem dX9_sleeps_43 : decode cX9_sleeps 43 = .ok (.iload_n 1, 1) := by decide +kernel
theorem dX9_sleeps_44 : decode cX9_sleeps 44 = .ok (.invokevirtual 199, 3) := by decide +kernel
theorem dX9_sleeps_47 : decode cX9_sleeps 47 = .ok (.bipush (-2), 2) := by decide +kernel
theorem dX9_sleeps_49 : decode cX9_sleeps 49 = .ok (.istore_n 3, 1) := by decide +kernel
theorem dX9_sleeps_50 : decode cX9_sleeps 50 = .ok (.iconst (-1), 1) := by decide +kernel
theorem dX9_sleeps_51 : decode cX9_sleeps 51 = .ok (.istore 4, 2) := by decide +kernel
theorem dX9_sleeps_53 : decode cX9_sleeps 53 = .ok (.iconst 0, 1) := by decide +kernel
theorem dX9_sleeps_54 : decode cX9_sleeps 54 = .ok (.istore 5, 2) := by decide +kernel
theorem dX9_sleeps_56 : decode cX9_sleeps 56 = .ok (.iload 5, 2) := by decide +kernel
theorem dX9_sleeps_58 : decode cX9_sleeps 58 = .ok (.aload_n 0, 1) := by decide +kernel
theorem dX9_sleeps_59 : decode cX9_sleeps 59 = .ok (.getfield 50, 3) := by decide +kernel
theorem dX9_sleeps_62 : decode cX9_sleeps 62 = .ok (.getfield 71, 3) := by decide +kernel
theorem dX9_sleeps_65 : decode cX9_sleeps 65 = .ok (.getfield 128, 3) := by decide +kernel
theorem dX9_sleeps_68 : decode cX9_sleeps 68 = .ok (.if_icmp .ge 52, 3) := by decide +kernel
theorem dX9_sleeps_71 : decode cX9_sleeps 71 = .ok (.aload_n 0, 1) := by decide +kernel
theorem dX9_sleeps_72 : decode cX9_sleeps 72 = .ok (.getfield 77, 3) := by decide +kernel
theorem dX9_sleeps_75 : decode cX9_sleeps 75 = .ok (.getfield 202, 3) := by decide +kernel
theorem dX9_sleeps_78 : decode cX9_sleeps 78 = .ok (.getfield 154, 3) := by decide +kernel
theorem dX9_sleeps_81 : decode cX9_sleeps 81 = .ok (.iload 5, 2) := by decide +kernel
theorem dX9_sleeps_83 : decode cX9_sleeps 83 = .ok (.iaload, 1) := by decide +kernel
theorem dX9_sleeps_84 : decode cX9_sleeps 84 = .ok (.aload_n 0, 1) := by decide +kernel
theorem dX9_sleeps_85 : decode cX9_sleeps 85 = .ok (.getfield 50, 3) := by decide +kernel
theorem dX9_sleeps_88 : decode cX9_sleeps 88 = .ok (.getfield 107, 3) := by decide +kernel
theorem dX9_sleeps_91 : decode cX9_sleeps 91 = .ok (.getfield 154, 3) := by decide +kernel
theorem dX9_sleeps_94 : decode cX9_sleeps 94 = .ok (.iload 5, 2) := by decide +kernel
theorem dX9_sleeps_96 : decode cX9_sleeps 96 = .ok (.iaload, 1) := by decide +kernel
theorem dX9_sleeps_97 : decode cX9_sleeps 97 = .ok (.isub, 1) := by decide +kernel
theorem dX9_sleeps_98 : decode cX9_sleeps 98 = .ok (.istore 6, 2) := by decide +kernel
theorem dX9_sleeps_100 : decode cX9_sleeps 100 = .ok (.iload 6, 2) := by decide +kernel
theorem dX9_sleeps_102 : decode cX9_sleeps 102 = .ok (.iload 4, 2) := by decide +kernel
theorem dX9_sleeps_104 : decode cX9_sleeps 104 = .ok (.if_icmp .le 10, 3) := by decide +kernel
theorem dX9_sleeps_107 : decode cX9_sleeps 107 = .ok (.iload 6, 2) := by decide +kernel
theorem dX9_sleeps_109 : decode cX9_sleeps 109 = .ok (.istore 4, 2) := by decide +kernel
theorem dX9_sleeps_111 : decode cX9_sleeps 111 = .ok (.iload 5, 2) := by decide +kernel
theorem dX9_sleeps_113 : decode cX9_sleeps 113 = .ok (.istore_n 3, 1) := by decide +kernel
theorem dX9_sleeps_114 : decode cX9_sleeps 114 = .ok (.iinc 5 1, 3) := by decide +kernel
theorem dX9_sleeps_117 : decode cX9_sleeps 117 = .ok (.goto (-61), 3) := by decide +kernel
theorem dX9_sleeps_120 : decode cX9_sleeps 120 = .ok (.iload_n 2, 1) := by decide +kernel
theorem dX9_sleeps_121 : decode cX9_sleeps 121 = .ok (.ifCond .ne 7, 3) := by decide +kernel
theorem dX9_sleeps_124 : decode cX9_sleeps 124 = .ok (.iload_n 3, 1) := by decide +kernel
theorem dX9_sleeps_125 : decode cX9_sleeps 125 = .ok (.goto 9, 3) := by decide +kernel
theorem dX9_sleeps_128 : decode cX9_sleeps 128 = .ok (.iload 4, 2) := by decide +kernel
theorem dX9_sleeps_130 : decode cX9_sleeps 130 = .ok (.iconst 0, 1) := by decide +kernel
theorem dX9_sleeps_131 : decode cX9_sleeps 131 = .ok (.invokestatic 248, 3) := by decide +kernel
theorem dX9_sleeps_134 : decode cX9_sleeps 134 = .ok (.ireturn, 1) := by decide +kernel
def f_X9_sleeps_56 (a0 : Nat) (i2 : Int32) (i3 : Int32) (i4 : Int32) (i5 : Int32) (σ : mm_S) : Option (Int32 × mm_S) :=
  lp lpN (fun (k56 : (Int32 × Int32 × Int32) → mm_S → Option (Int32 × mm_S)) (v : Int32 × Int32 × Int32) (σ : mm_S) =>
    if (σ.1 (26 + 1) 3) ≤ v.2.2 then
      if i2 = 0 then
        some (v.1, σ)
      else
        lt ((if v.2.1 < (0 : Int32) then (0 : Int32) else v.2.1)) fun x3 =>
        some (x3, σ)
    else
      gd v.2.2 6 <|
      gd v.2.2 6 <|
      lt (((σ.1 (201 + 4) v.2.2.toNatClampNeg) - (σ.1 ((26 + 5) + 4) v.2.2.toNatClampNeg))) fun x7 =>
      if x7 ≤ v.2.1 then
        lt (v.2.2 + Int32.ofInt (1)) fun x10 =>
        k56 (v.1, v.2.1, x10) σ
      else
        lt (v.2.2 + Int32.ofInt (1)) fun x12 =>
        k56 (v.2.2, x7, x12) σ) (i3, i4, i5) σ
theorem v_X9_sleeps_56 {g : mm_G} (d : Nat) {a0 : Nat} {i2 : Int32} {i3 : Int32} {i4 : Int32} {i5 : Int32} {σ : mm_S} {res : Int32 × mm_S}  (h_a0 : (mm_K a0).1 = 9) (h : f_X9_sleeps_56 a0 i2 i3 i4 i5 σ = some res) : SV g (d + 5) yy_X9_sleeps 56 [(0, .ref a0), (2, .int i2), (3, .int i3), (4, .int i4), (5, .int i5)] [] σ (.int res.1) res.2 := by
  unfold f_X9_sleeps_56 at h
  refine lp_ind (P := fun v σ => SV g (d + 5) yy_X9_sleeps 56 [(0, .ref a0), (2, .int i2), (3, .int v.1), (4, .int v.2.1), (5, .int v.2.2)] [] σ (.int res.1) res.2) (fun k56 H56 v σ h => ?_) _ (i3, i4, i5) σ h
  refine e_iload 4 dX9_sleeps_56  rfl ?_
  refine e_aload_n 0 dX9_sleeps_58 rfl rfl ?_
  refine s_getr dX9_sleeps_59 fl_RX9_50 h_a0 (r_9_5 h_a0).1 ?_
  refine s_getr dX9_sleeps_62 fl_RX9_71 (ka_1 (r_9_5 (w := 0) h_a0).2) (r_8_0 (ka_1 (r_9_5 (w := 0) h_a0).2)).1 ?_
  refine s_geti dX9_sleeps_65 fl_RX9_128 (ka_1 (r_8_0 (w := 0) (ka_1 (r_9_5 (w := 0) h_a0).2)).2) ?_
  refine e_icmp_ge 120 dX9_sleeps_68 (by decide) (fun c1 => ?_) (fun c1 => ?_)
  · rw [if_pos c1] at h
    refine e_iload_n 1 dX9_sleeps_120 rfl rfl ?_
    refine e_if_ne 128 dX9_sleeps_121 (by decide) (fun c2 => ?_) (fun c2 => ?_)
    · rw [if_neg c2] at h
      refine e_iload 3 dX9_sleeps_128  rfl ?_
      refine e_iconst (v := (0 : Int32)) dX9_sleeps_130 (by decide) ?_
      refine s_mmax dX9_sleeps_131 mx_RX9_248 (Nat.le_of_ble_eq_true rfl) ?_
      obtain ⟨x3, q4, h⟩ := lt_some h
      refine s_nmi q4 ?_
      obtain rfl := Option.some.inj h
      exact s_ret rfl ⟨_, rfl, rfl⟩ dX9_sleeps_134
    · rw [if_pos c2] at h
      refine e_iload_n 2 dX9_sleeps_124 rfl rfl ?_
      refine e_goto 134 dX9_sleeps_125 (by decide) ?_
      obtain rfl := Option.some.inj h
      exact s_ret rfl ⟨_, rfl, rfl⟩ dX9_sleeps_134
  · rw [if_neg c1] at h
    refine e_aload_n 0 dX9_sleeps_71 rfl rfl ?_
    refine s_getr dX9_sleeps_72 fl_RX9_77 h_a0 (r_9_9 h_a0).1 ?_
    refine s_getr dX9_sleeps_75 fl_RX9_202 (ka_1 (r_9_9 (w := 0) h_a0).2) (r_7_1 (ka_1 (r_9_9 (w := 0) h_a0).2)).1 ?_
    refine s_getr dX9_sleeps_78 fl_RX9_154 (ka_1 (r_7_1 (w := 0) (ka_1 (r_9_9 (w := 0) h_a0).2)).2) (r_2_5 (ka_1 (r_7_1 (w := 0) (ka_1 (r_9_9 (w := 0) h_a0).2)).2)).1 ?_
    refine e_iload 4 dX9_sleeps_81  rfl ?_
    obtain ⟨q5, h⟩ := gd_some h
    refine s_iald dX9_sleeps_83 (r_2_5 (w := 0) (ka_1 (r_7_1 (w := 0) (ka_1 (r_9_9 (w := 0) h_a0).2)).2)).2 q5 ?_
    refine e_aload_n 0 dX9_sleeps_84 rfl rfl ?_
    refine s_getr dX9_sleeps_85 fl_RX9_50 h_a0 (r_9_5 h_a0).1 ?_
    refine s_getr dX9_sleeps_88 fl_RX9_107 (ka_1 (r_9_5 (w := 0) h_a0).2) (r_8_1 (ka_1 (r_9_5 (w := 0) h_a0).2)).1 ?_
    refine s_getr dX9_sleeps_91 fl_RX9_154 (ka_1 (r_8_1 (w := 0) (ka_1 (r_9_5 (w := 0) h_a0).2)).2) (r_2_5 (ka_1 (r_8_1 (w := 0) (ka_1 (r_9_5 (w := 0) h_a0).2)).2)).1 ?_
    refine e_iload 4 dX9_sleeps_94  rfl ?_
    obtain ⟨q6, h⟩ := gd_some h
    refine s_iald dX9_sleeps_96 (r_2_5 (w := 0) (ka_1 (r_8_1 (w := 0) (ka_1 (r_9_5 (w := 0) h_a0).2)).2)).2 q6 ?_
    refine e_isub dX9_sleeps_97 ?_
    obtain ⟨x7, q8, h⟩ := lt_some h
    refine s_nmi q8 ?_
    refine e_istore (L' := [(0, .ref a0), (2, .int i2), (3, .int v.1), (4, .int v.2.1), (5, .int v.2.2), (6, .int x7)]) dX9_sleeps_98  (by decide) rfl ?_
    refine e_iload 5 dX9_sleeps_100  rfl ?_
    refine e_iload 3 dX9_sleeps_102  rfl ?_
    refine e_icmp_le 114 dX9_sleeps_104 (by decide) (fun c9 => ?_) (fun c9 => ?_)
    · rw [if_pos c9] at h
      obtain ⟨x10, q11, h⟩ := lt_some h
      refine e_iinc (v := x10) (L' := [(0, .ref a0), (2, .int i2), (3, .int v.1), (4, .int v.2.1), (5, .int x10), (6, .int x7)]) 4 dX9_sleeps_114 rfl q11.symm (by decide) rfl ?_
      refine e_goto 56 dX9_sleeps_117 (by decide) ?_
      refine s_pick (L' := [(0, .ref a0), (2, .int i2), (3, .int v.1), (4, .int v.2.1), (5, .int x10)]) [0, 1, 2, 3, 4] rfl ?_
      exact H56 (v.1, v.2.1, x10) σ h
    · rw [if_neg c9] at h
      refine e_iload 5 dX9_sleeps_107  rfl ?_
      refine e_istore (L' := [(0, .ref a0), (2, .int i2), (3, .int v.1), (4, .int x7), (5, .int v.2.2), (6, .int x7)]) dX9_sleeps_109  (by decide) rfl ?_
      refine e_iload 4 dX9_sleeps_111  rfl ?_
      refine e_istore_n (L' := [(0, .ref a0), (2, .int i2), (3, .int v.2.2), (4, .int x7), (5, .int v.2.2), (6, .int x7)]) dX9_sleeps_113 rfl (by decide) rfl ?_
      obtain ⟨x12, q13, h⟩ := lt_some h
      refine e_iinc (v := x12) (L' := [(0, .ref a0), (2, .int i2), (3, .int v.2.2), (4, .int x7), (5, .int x12), (6, .int x7)]) 4 dX9_sleeps_114 rfl q13.symm (by decide) rfl ?_
      refine e_goto 56 dX9_sleeps_117 (by decide) ?_
      refine s_pick (L' := [(0, .ref a0), (2, .int i2), (3, .int v.2.2), (4, .int x7), (5, .int x12)]) [0, 1, 2, 3, 4] rfl ?_
      exact H56 (v.2.2, x7, x12) σ h
def f_X9_sleeps (a0 : Nat) (i1 : Int32) (i2 : Int32) (σ : mm_S) : Option (Int32 × mm_S) :=
    if (σ.1 (26 + 1) 0) = 0 then
      some ((-1 : Int32), σ)
    else
      if i1 < (1 : Int32) then
        some ((-1 : Int32), σ)
      else
        if (100 : Int32) < i1 then
          some ((-1 : Int32), σ)
        else
          if i2 < 0 then
            some ((-1 : Int32), σ)
          else
            if i2 ≤ (1 : Int32) then
              bv (f_X9_walkFromNow a0 σ) fun σ29 =>
              bv (f_X7_passHours 200 i1 σ29) fun σ31 =>
              f_X9_sleeps_56 a0 i2 (-2 : Int32) (-1 : Int32) (0 : Int32) σ31
            else
              some ((-1 : Int32), σ)
theorem v_X9_sleeps {g : mm_G} (d : Nat) {a0 : Nat} {i1 : Int32} {i2 : Int32} {σ : mm_S} {res : Int32 × mm_S} (h_a0 : (mm_K a0).1 = 9) (h : f_X9_sleeps a0 i1 i2 σ = some res) : SM g (d + 5) yy_X9_sleeps [.ref a0, .int i1, .int i2] σ (.int res.1) res.2 := by
  refine s_of (by decide) (Nat.le_of_ble_eq_true rfl) (L := [(0, .ref a0), (1, .int i1), (2, .int i2)]) rfl ?_
  unfold f_X9_sleeps at h
  refine e_aload_n 0 dX9_sleeps_0 rfl rfl ?_
  refine s_getr dX9_sleeps_1 fl_RX9_50 h_a0 (r_9_5 h_a0).1 ?_
  refine s_getr dX9_sleeps_4 fl_RX9_71 (ka_1 (r_9_5 (w := 0) h_a0).2) (r_8_0 (ka_1 (r_9_5 (w := 0) h_a0).2)).1 ?_
  refine s_geti dX9_sleeps_7 fl_RX9_188 (ka_1 (r_8_0 (w := 0) (ka_1 (r_9_5 (w := 0) h_a0).2)).2) ?_
  refine e_if_eq 33 dX9_sleeps_10 (by decide) (fun c23 => ?_) (fun c23 => ?_)
  · rw [if_pos c23] at h
    refine e_iconst (v := (-1 : Int32)) dX9_sleeps_33 (by decide) ?_
    obtain rfl := Option.some.inj h
    exact s_ret rfl ⟨_, rfl, rfl⟩ dX9_sleeps_34
  · rw [if_neg c23] at h
    refine e_iload_n 1 dX9_sleeps_13 rfl rfl ?_
    refine e_iconst (v := (1 : Int32)) dX9_sleeps_14 (by decide) ?_
    refine e_icmp_lt 33 dX9_sleeps_15 (by decide) (fun c24 => ?_) (fun c24 => ?_)
    · rw [if_pos c24] at h
      refine e_iconst (v := (-1 : Int32)) dX9_sleeps_33 (by decide) ?_
      obtain rfl := Option.some.inj h
      exact s_ret rfl ⟨_, rfl, rfl⟩ dX9_sleeps_34
    · rw [if_neg c24] at h
      refine e_iload_n 1 dX9_sleeps_18 rfl rfl ?_
      refine e_bipush (v := (100 : Int32)) dX9_sleeps_19 (by decide) ?_
      refine e_icmp_gt 33 dX9_sleeps_21 (by decide) (fun c25 => ?_) (fun c25 => ?_)
      · rw [if_pos c25] at h
        refine e_iconst (v := (-1 : Int32)) dX9_sleeps_33 (by decide) ?_
        obtain rfl := Option.some.inj h
        exact s_ret rfl ⟨_, rfl, rfl⟩ dX9_sleeps_34
      · rw [if_neg c25] at h
        refine e_iload_n 2 dX9_sleeps_24 rfl rfl ?_
        refine e_if_lt 33 dX9_sleeps_25 (by decide) (fun c26 => ?_) (fun c26 => ?_)
        · rw [if_pos c26] at h
          refine e_iconst (v := (-1 : Int32)) dX9_sleeps_33 (by decide) ?_
          obtain rfl := Option.some.inj h
          exact s_ret rfl ⟨_, rfl, rfl⟩ dX9_sleeps_34
        · rw [if_neg c26] at h
          refine e_iload_n 2 dX9_sleeps_28 rfl rfl ?_
          refine e_iconst (v := (1 : Int32)) dX9_sleeps_29 (by decide) ?_
          refine e_icmp_le 35 dX9_sleeps_30 (by decide) (fun c27 => ?_) (fun c27 => ?_)
          · rw [if_pos c27] at h
            refine e_aload_n 0 dX9_sleeps_35 rfl rfl ?_
            obtain ⟨σ29, q28, h⟩ := bv_some h
            refine s_callVv [] dX9_sleeps_36 ml_RX9_196 h_a0 rfl rfl (v_X9_walkFromNow (d + 1) h_a0 q28) (Nat.le_of_ble_eq_true rfl) ?_
            refine e_aload_n 0 dX9_sleeps_39 rfl rfl ?_
            refine s_getr dX9_sleeps_40 fl_RX9_77 h_a0 (r_9_9 h_a0).1 ?_
            refine e_iload_n 1 dX9_sleeps_43 rfl rfl ?_
            obtain ⟨σ31, q30, h⟩ := bv_some h
            refine s_callVv [.int i1] dX9_sleeps_44 ml_RX9_199 (ka_1 (r_9_9 (w := 0) h_a0).2) rfl rfl (v_X7_passHours (d + 0) (ka_1 (r_9_9 (w := 0) h_a0).2) q30) (Nat.le_of_ble_eq_true rfl) ?_
            refine e_bipush (v := (-2 : Int32)) dX9_sleeps_47 (by decide) ?_
            refine e_istore_n (L' := [(0, .ref a0), (1, .int i1), (2, .int i2), (3, .int (-2 : Int32))]) dX9_sleeps_49 rfl (by decide) rfl ?_
            refine e_iconst (v := (-1 : Int32)) dX9_sleeps_50 (by decide) ?_
            refine e_istore (L' := [(0, .ref a0), (1, .int i1), (2, .int i2), (3, .int (-2 : Int32)), (4, .int (-1 : Int32))]) dX9_sleeps_51  (by decide) rfl ?_
            refine e_iconst (v := (0 : Int32)) dX9_sleeps_53 (by decide) ?_
            refine e_istore (L' := [(0, .ref a0), (1, .int i1), (2, .int i2), (3, .int (-2 : Int32)), (4, .int (-1 : Int32)), (5, .int (0 : Int32))]) dX9_sleeps_54  (by decide) rfl ?_
            refine s_pick (L' := [(0, .ref a0), (2, .int i2), (3, .int (-2 : Int32)), (4, .int (-1 : Int32)), (5, .int (0 : Int32))]) [0, 2, 3, 4, 5] rfl ?_
            exact v_X9_sleeps_56 d h_a0 h
          · rw [if_neg c27] at h
            refine e_iconst (v := (-1 : Int32)) dX9_sleeps_33 (by decide) ?_
            obtain rfl := Option.some.inj h
            exact s_ret rfl ⟨_, rfl, rfl⟩ dX9_sleeps_34
abbrev yy_X9_ring : mm_Y := (yX9_ring, cX9_ring, 4, (some .int))
theorem dX9_ring_0 : decode cX9_ring 0 = .ok (.aload_n 0, 1) := by decide +kernel
theorem dX9_ring_1 : decode cX9_ring 1 = .ok (.getfield 50, 3) := by decide +kernel
theorem dX9_ring_4 : decode cX9_ring 4 = .ok (.getfield 71, 3) := by decide +kernel
theorem dX9_ring_7 : decode cX9_ring 7 = .ok (.getfield 188, 3) := by decide +kernel
theorem dX9_ring_10 : decode cX9_ring 10 = .ok (.ifCond .eq 12, 3) := by decide +kernel
theorem dX9_ring_13 : decode cX9_ring 13 = .ok (.iload_n 1, 1) := by decide +kernel
theorem dX9_ring_14 : decode cX9_ring 14 = .ok (.ifCond .lt 8, 3) := by decide +kernel
theorem dX9_ring_17 : decode cX9_ring 17 = .ok (.iload_n 1, 1) := by decide +kernel
theorem dX9_ring_18 : decode cX9_ring 18 = .ok (.iconst 1, 1) := by decide +kernel
theorem dX9_ring_19 : decode cX9_ring 19 = .ok (.if_icmp .le 5, 3) := by decide +kernel
theorem dX9_ring_22 : decode cX9_ring 22 = .ok (.iconst (-1), 1) := by decide +kernel
theorem dX9_ring_23 : decode cX9_ring 23 = .ok (.ireturn, 1) := by decide +kernel
theorem dX9_ring_24 : decode cX9_ring 24 = .ok (.aload_n 0, 1) := by decide +kernel
theorem dX9_ring_25 : decode cX9_ring 25 = .ok (.invokevirtual 196, 3) := by decide +kernel
theorem dX9_ring_28 : decode cX9_ring 28 = .ok (.iconst 0, 1) := by decide +kernel
theorem dX9_ring_29 : decode cX9_ring 29 = .ok (.istore_n 2, 1) := by decide +kernel
theorem dX9_ring_30 : decode cX9_ring 30 = .ok (.iload_n 2, 1) := by decide +kernel
theorem dX9_ring_31 : decode cX9_ring 31 = .ok (.bipush 61, 2) := by decide +kernel
theorem dX9_ring_33 : decode cX9_ring 33 = .ok (.if_icmp .ge 33, 3) := by decide +kernel
theorem dX9_ring_36 : decode cX9_ring 36 = .ok (.aload_n 0, 1) := by decide +kernel
theorem dX9_ring_37 : decode cX9_ring 37 = .ok (.getfield 88, 3) := by decide +kernel
theorem dX9_ring_40 : decode cX9_ring 40 = .ok (.iload_n 2, 1) := by decide +kernel
theorem dX9_ring_41 : decode cX9_ring 41 = .ok (.aload_n 0, 1) := by decide +kernel
theorem dX9_ring_42 : decode cX9_ring 42 = .ok (.getfield 77, 3) := by decide +kernel
theorem dX9_ring_45 : decode cX9_ring 45 = .ok (.getfield 202, 3) := by decide +kernel
theorem dX9_ring_48 : decode cX9_ring 48 = .ok (.invokevirtual 251, 3) := by decide +kernel
theorem dX9_ring_51 : decode cX9_ring 51 = .ok (.iastore, 1) := by decide +kernel
theorem dX9_ring_52 : decode cX9_ring 52 = .ok (.aload_n 0, 1) := by decide +kernel
theorem dX9_ring_53 : decode cX9_ring 53 = .ok (.getfield 77, 3) := by decide +kernel
theorem dX9_ring_56 : decode cX9_ring 56 = .ok (.iconst 1, 1) := by decide +kernel
theorem dX9_ring_57 : decode cX9_ring 57 = .ok (.invokevirtual 199, 3) := by decide +kernel
theorem dX9_ring_60 : decode cX9_ring 60 = .ok (.iinc 2 1, 3) := by decide +kernel
theorem dX9_ring_63 : decode cX9_ring 63 = .ok (.goto (-33), 3) := by decide +kernel
theorem dX9_ring_66 : decode cX9_ring 66 = .ok (.iconst 0, 1) := by decide +kernel
theorem dX9_ring_67 : decode cX9_ring 67 = .ok (.istore_n 2, 1) := by decide +kernel
theorem dX9_ring_68 : decode cX9_ring 68 = .ok (.iload_n 2, 1) := by decide +kernel
theorem dX9_ring_69 : decode cX9_ring 69 = .ok (.bipush 61, 2) := by decide +kernel
theorem dX9_ring_71 : decode cX9_ring 71 = .ok (.if_icmp .ge 64, 3) := by decide +kernel
theorem dX9_ring_74 : decode cX9_ring 74 = .ok (.iload_n 2, 1) := by decide +kernel
theorem dX9_ring_75 : decode cX9_ring 75 = .ok (.bipush 12, 2) := by decide +kernel
theorem dX9_ring_77 : decode cX9_ring 77 = .ok (.iadd, 1) := by decide +kernel
theorem dX9_ring_78 : decode cX9_ring 78 = .ok (.istore_n 3, 1) := by decide +kernel
theorem dX9_ring_79 : decode cX9_ring 79 = .ok (.iload_n 3, 1) := by decide +kernel
theorem dX9_ring_80 : decode cX9_ring 80 = .ok (.bipush 61, 2) := by decide +kernel
theorem dX9_ring_82 : decode cX9_ring 82 = .ok (.if_icmp .ge 47, 3) := by decide +kernel
theorem dX9_ring_85 : decode cX9_ring 85 = .ok (.aload_n 0, 1) := by decide +kernel
theorem dX9_ring_86 : decode cX9_ring 86 = .ok (.getfield 88, 3) := by decide +kernel
theorem dX9_ring_89 : decode cX9_ring 89 = .ok (.iload_n 2, 1) := by decide +kernel
theorem dX9_ring_90 : decode cX9_ring 90 = .ok (.iaload, 1) := by decide +kernel
theorem dX9_ring_91 : decode cX9_ring 91 = .ok (.aload_n 0, 1) := by decide +kernel
theorem dX9_ring_92 : decode cX9_ring 92 = .ok (.getfield 88, 3) := by decide +kernel
theorem dX9_ring_95 : decode cX9_ring 95 = .ok (.iload_n 3, 1) := by decide +kernel
theorem dX9_ring_96 : decode cX9_ring 96 = .ok (.iaload, 1) := by decide +kernel
theorem dX9_ring_97 : decode cX9_ring 97 = .ok (.if_icmp .ne 26, 3) := by decide +kernel
theorem dX9_ring_100 : decode cX9_ring 100 = .ok (.iload_n 1, 1) := by decide +kernel
theorem dX9_ring_101 : decode cX9_ring 101 = .ok (.ifCond .ne 18, 3) := by decide +kernel
theorem dX9_ring_104 : decode cX9_ring 104 = .ok (.aload_n 0, 1) := by decide +kernel
theorem dX9_ring_105 : decode cX9_ring 105 = .ok (.getfield 50, 3) := by decide +kernel
theorem dX9_ring_108 : decode cX9_ring 108 = .ok (.getfield 107, 3) := by decide +kernel
theorem dX9_ring_111 : decode cX9_ring 111 = .ok (.getfield 171, 3) := by decide +kernel
theorem dX9_ring_114 : decode cX9_ring 114 = .ok (.iload_n 2, 1) := by decide +kernel
theorem dX9_ring_115 : decode cX9_ring 115 = .ok (.iadd, 1) := by decide +kernel
theorem dX9_ring_116 : decode cX9_ring 116 = .ok (.goto 6, 3) := by decide +kernel
theorem dX9_ring_119 : decode cX9_ring 119 = .ok (.iload_n 3, 1) := by decide +kernel
theorem dX9_ring_120 : decode cX9_ring 120 = .ok (.iload_n 2, 1) := by decide +kernel
theorem dX9_ring_121 : decode cX9_ring 121 = .ok (.isub, 1) := by decide +kernel
theorem dX9_ring_122 : decode cX9_ring 122 = .ok (.ireturn, 1) := by decide +kernel
theorem dX9_ring_123 : decode cX9_ring 123 = .ok (.iinc 3 12, 3) := by decide +kernel
theorem dX9_ring_126 : decode cX9_ring 126 = .ok (.goto (-47), 3) := by decide +kernel
theorem dX9_ring_129 : decode cX9_ring 129 = .ok (.iinc 2 1, 3) := by decide +kernel
theorem dX9_ring_132 : decode cX9_ring 132 = .ok (.goto (-64), 3) := by decide +kernel
theorem dX9_ring_135 : decode cX9_ring 135 = .ok (.bipush (-2), 2) := by decide +kernel
theorem dX9_ring_137 : decode cX9_ring 137 = .ok (.ireturn, 1) := by decide +kernel
def f_X9_ring_79 (k68 : (Int32) → mm_S → Option (Int32 × mm_S)) (a0 : Nat) (i1 : Int32) (i2 : Int32) (i3 : Int32) (σ : mm_S) : Option (Int32 × mm_S) :=
  lp lpN (fun (k79 : (Int32) → mm_S → Option (Int32 × mm_S)) (v : Int32) (σ : mm_S) =>
    if (61 : Int32) ≤ v then
      lt (i2 + Int32.ofInt (1)) fun x2 =>
      k68 x2 σ
    else
      gd i2 427 <|
      gd v 427 <|
      if (σ.1 213 i2.toNatClampNeg) = (σ.1 213 v.toNatClampNeg) then
        if i1 = 0 then
          some (((σ.1 (26 + 5) 0) + i2), σ)
        else
          some ((v - i2), σ)
      else
        lt (v + Int32.ofInt (12)) fun x7 =>
        k79 x7 σ) i3 σ
theorem v_X9_ring_79 {g : mm_G} (d : Nat) {k68 : (Int32) → mm_S → Option (Int32 × mm_S)} {a0 : Nat} {i1 : Int32} {i2 : Int32} {i3 : Int32} {σ : mm_S} {res : Int32 × mm_S} (H68 : ∀ v σ, k68 v σ = some res → SV g (d + 5) yy_X9_ring 68 [(0, .ref a0), (1, .int i1), (2, .int v)] [] σ (.int res.1) res.2) (h_a0 : (mm_K a0).1 = 9) (h : f_X9_ring_79 k68 a0 i1 i2 i3 σ = some res) : SV g (d + 5) yy_X9_ring 79 [(0, .ref a0), (1, .int i1), (2, .int i2), (3, .int i3)] [] σ (.int res.1) res.2 := by
  unfold f_X9_ring_79 at h
  refine lp_ind (P := fun v σ => SV g (d + 5) yy_X9_ring 79 [(0, .ref a0), (1, .int i1), (2, .int i2), (3, .int v)] [] σ (.int res.1) res.2) (fun k79 H79 v σ h => ?_) _ i3 σ h
  refine e_iload_n 3 dX9_ring_79 rfl rfl ?_
  refine e_bipush (v := (61 : Int32)) dX9_ring_80 (by decide) ?_
  refine e_icmp_ge 129 dX9_ring_82 (by decide) (fun c1 => ?_) (fun c1 => ?_)
  · rw [if_pos c1] at h
    obtain ⟨x2, q3, h⟩ := lt_some h
    refine e_iinc (v := x2) (L' := [(0, .ref a0), (1, .int i1), (2, .int x2), (3, .int v)]) 2 dX9_ring_129 rfl q3.symm (by decide) rfl ?_
    refine e_goto 68 dX9_ring_132 (by decide) ?_
    refine s_pick (L' := [(0, .ref a0), (1, .int i1), (2, .int x2)]) [0, 1, 2] rfl ?_
    exact H68 x2 σ h
  · rw [if_neg c1] at h
    refine e_aload_n 0 dX9_ring_85 rfl rfl ?_
    refine s_getr dX9_ring_86 fl_RX9_88 h_a0 (r_9_12 h_a0).1 ?_
    refine e_iload_n 2 dX9_ring_89 rfl rfl ?_
    obtain ⟨q4, h⟩ := gd_some h
    refine s_iald dX9_ring_90 (r_9_12 (w := 0) h_a0).2 q4 ?_
    refine e_aload_n 0 dX9_ring_91 rfl rfl ?_
    refine s_getr dX9_ring_92 fl_RX9_88 h_a0 (r_9_12 h_a0).1 ?_
    refine e_iload_n 3 dX9_ring_95 rfl rfl ?_
    obtain ⟨q5, h⟩ := gd_some h
    refine s_iald dX9_ring_96 (r_9_12 (w := 0) h_a0).2 q5 ?_
    refine e_icmp_ne 123 dX9_ring_97 (by decide) (fun c6 => ?_) (fun c6 => ?_)
    · rw [if_neg c6] at h
      obtain ⟨x7, q8, h⟩ := lt_some h
      refine e_iinc (v := x7) (L' := [(0, .ref a0), (1, .int i1), (2, .int i2), (3, .int x7)]) 3 dX9_ring_123 rfl q8.symm (by decide) rfl ?_
      refine e_goto 79 dX9_ring_126 (by decide) ?_
      refine s_pick (L' := [(0, .ref a0), (1, .int i1), (2, .int i2), (3, .int x7)]) [0, 1, 2, 3] rfl ?_
      exact H79 x7 σ h
    · rw [if_pos c6] at h
      refine e_iload_n 1 dX9_ring_100 rfl rfl ?_
      refine e_if_ne 119 dX9_ring_101 (by decide) (fun c9 => ?_) (fun c9 => ?_)
      · rw [if_neg c9] at h
        refine e_iload_n 3 dX9_ring_119 rfl rfl ?_
        refine e_iload_n 2 dX9_ring_120 rfl rfl ?_
        refine e_isub dX9_ring_121 ?_
        obtain rfl := Option.some.inj h
        exact s_ret rfl ⟨_, rfl, rfl⟩ dX9_ring_122
      · rw [if_pos c9] at h
        refine e_aload_n 0 dX9_ring_104 rfl rfl ?_
        refine s_getr dX9_ring_105 fl_RX9_50 h_a0 (r_9_5 h_a0).1 ?_
        refine s_getr dX9_ring_108 fl_RX9_107 (ka_1 (r_9_5 (w := 0) h_a0).2) (r_8_1 (ka_1 (r_9_5 (w := 0) h_a0).2)).1 ?_
        refine s_geti dX9_ring_111 fl_RX9_171 (ka_1 (r_8_1 (w := 0) (ka_1 (r_9_5 (w := 0) h_a0).2)).2) ?_
        refine e_iload_n 2 dX9_ring_114 rfl rfl ?_
        refine e_iadd dX9_ring_115 ?_
        refine e_goto 122 dX9_ring_116 (by decide) ?_
        obtain rfl := Option.some.inj h
        exact s_ret rfl ⟨_, rfl, rfl⟩ dX9_ring_122
def f_X9_ring_68 (a0 : Nat) (i1 : Int32) (i2 : Int32) (σ : mm_S) : Option (Int32 × mm_S) :=
  lp lpN (fun (k68 : (Int32) → mm_S → Option (Int32 × mm_S)) (v : Int32) (σ : mm_S) =>
    if (61 : Int32) ≤ v then
      some ((-2 : Int32), σ)
    else
      lt ((v + (12 : Int32))) fun x11 =>
      f_X9_ring_79 k68 a0 i1 v x11 σ) i2 σ
theorem v_X9_ring_68 {g : mm_G} (d : Nat) {a0 : Nat} {i1 : Int32} {i2 : Int32} {σ : mm_S} {res : Int32 × mm_S}  (h_a0 : (mm_K a0).1 = 9) (h : f_X9_ring_68 a0 i1 i2 σ = some res) : SV g (d + 5) yy_X9_ring 68 [(0, .ref a0), (1, .int i1), (2, .int i2)] [] σ (.int res.1) res.2 := by
  unfold f_X9_ring_68 at h
  refine lp_ind (P := fun v σ => SV g (d + 5) yy_X9_ring 68 [(0, .ref a0), (1, .int i1), (2, .int v)] [] σ (.int res.1) res.2) (fun k68 H68 v σ h => ?_) _ i2 σ h
  refine e_iload_n 2 dX9_ring_68 rfl rfl ?_
  refine e_bipush (v := (61 : Int32)) dX9_ring_69 (by decide) ?_
  refine e_icmp_ge 135 dX9_ring_71 (by decide) (fun c10 => ?_) (fun c10 => ?_)
  · rw [if_pos c10] at h
    refine e_bipush (v := (-2 : Int32)) dX9_ring_135 (by decide) ?_
    obtain rfl := Option.some.inj h
    exact s_ret rfl ⟨_, rfl, rfl⟩ dX9_ring_137
  · rw [if_neg c10] at h
    refine e_iload_n 2 dX9_ring_74 rfl rfl ?_
    refine e_bipush (v := (12 : Int32)) dX9_ring_75 (by decide) ?_
    refine e_iadd dX9_ring_77 ?_
    obtain ⟨x11, q12, h⟩ := lt_some h
    refine s_nmi q12 ?_
    refine e_istore_n (L' := [(0, .ref a0), (1, .int i1), (2, .int v), (3, .int x11)]) dX9_ring_78 rfl (by decide) rfl ?_
    refine s_pick (L' := [(0, .ref a0), (1, .int i1), (2, .int v), (3, .int x11)]) [0, 1, 2, 3] rfl ?_
    exact v_X9_ring_79 d H68 h_a0 h
def f_X9_ring_30 (a0 : Nat) (i1 : Int32) (i2 : Int32) (σ : mm_S) : Option (Int32 × mm_S) :=
  lp lpN (fun (k30 : (Int32) → mm_S → Option (Int32 × mm_S)) (v : Int32) (σ : mm_S) =>
    if (61 : Int32) ≤ v then
      f_X9_ring_68 a0 i1 (0 : Int32) σ
    else
      bd (f_X2_figure 201 σ) fun r16 σ15 =>
      gd v 427 <|
      lt (su_i σ15 213 v.toNatClampNeg r16) fun σ18 =>
      bv (f_X7_passHours 200 (1 : Int32) σ18) fun σ21 =>
      lt (v + Int32.ofInt (1)) fun x22 =>
      k30 x22 σ21) i2 σ
theorem v_X9_ring_30 {g : mm_G} (d : Nat) {a0 : Nat} {i1 : Int32} {i2 : Int32} {σ : mm_S} {res : Int32 × mm_S}  (h_a0 : (mm_K a0).1 = 9) (h : f_X9_ring_30 a0 i1 i2 σ = some res) : SV g (d + 5) yy_X9_ring 30 [(0, .ref a0), (1, .int i1), (2, .int i2)] [] σ (.int res.1) res.2 := by
  unfold f_X9_ring_30 at h
  refine lp_ind (P := fun v σ => SV g (d + 5) yy_X9_ring 30 [(0, .ref a0), (1, .int i1), (2, .int v)] [] σ (.int res.1) res.2) (fun k30 H30 v σ h => ?_) _ i2 σ h
  refine e_iload_n 2 dX9_ring_30 rfl rfl ?_
  refine e_bipush (v := (61 : Int32)) dX9_ring_31 (by decide) ?_
  refine e_icmp_ge 66 dX9_ring_33 (by decide) (fun c13 => ?_) (fun c13 => ?_)
  · rw [if_pos c13] at h
    refine e_iconst (v := (0 : Int32)) dX9_ring_66 (by decide) ?_
    refine e_istore_n (L' := [(0, .ref a0), (1, .int i1), (2, .int (0 : Int32))]) dX9_ring_67 rfl (by decide) rfl ?_
    refine s_pick (L' := [(0, .ref a0), (1, .int i1), (2, .int (0 : Int32))]) [0, 1, 2] rfl ?_
    exact v_X9_ring_68 d h_a0 h
  · rw [if_neg c13] at h
    refine e_aload_n 0 dX9_ring_36 rfl rfl ?_
    refine s_getr dX9_ring_37 fl_RX9_88 h_a0 (r_9_12 h_a0).1 ?_
    refine e_iload_n 2 dX9_ring_40 rfl rfl ?_
    refine e_aload_n 0 dX9_ring_41 rfl rfl ?_
    refine s_getr dX9_ring_42 fl_RX9_77 h_a0 (r_9_9 h_a0).1 ?_
    refine s_getr dX9_ring_45 fl_RX9_202 (ka_1 (r_9_9 (w := 0) h_a0).2) (r_7_1 (ka_1 (r_9_9 (w := 0) h_a0).2)).1 ?_
    obtain ⟨r16, σ15, q14, h⟩ := bd_some h
    refine s_callVi [] dX9_ring_48 ml_RX9_251 (ka_1 (r_7_1 (w := 0) (ka_1 (r_9_9 (w := 0) h_a0).2)).2) ⟨_, rfl, by decide⟩ rfl (v_X2_figure (d + 4) (ka_1 (r_7_1 (w := 0) (ka_1 (r_9_9 (w := 0) h_a0).2)).2) q14) (Nat.le_of_ble_eq_true rfl) ?_
    obtain ⟨q17, h⟩ := gd_some h
    refine s_iast dX9_ring_51 (r_9_12 (w := 0) h_a0).2 q17 ?_
    obtain ⟨σ18, q19, h⟩ := lt_some h
    refine s_nms q19 ?_
    refine e_aload_n 0 dX9_ring_52 rfl rfl ?_
    refine s_getr dX9_ring_53 fl_RX9_77 h_a0 (r_9_9 h_a0).1 ?_
    refine e_iconst (v := (1 : Int32)) dX9_ring_56 (by decide) ?_
    obtain ⟨σ21, q20, h⟩ := bv_some h
    refine s_callVv [.int (1 : Int32)] dX9_ring_57 ml_RX9_199 (ka_1 (r_9_9 (w := 0) h_a0).2) rfl rfl (v_X7_passHours (d + 0) (ka_1 (r_9_9 (w := 0) h_a0).2) q20) (Nat.le_of_ble_eq_true rfl) ?_
    obtain ⟨x22, q23, h⟩ := lt_some h
    refine e_iinc (v := x22) (L' := [(0, .ref a0), (1, .int i1), (2, .int x22)]) 2 dX9_ring_60 rfl q23.symm (by decide) rfl ?_
    refine e_goto 30 dX9_ring_63 (by decide) ?_
    refine s_pick (L' := [(0, .ref a0), (1, .int i1), (2, .int x22)]) [0, 1, 2] rfl ?_
    exact H30 x22 σ21 h
def f_X9_ring (a0 : Nat) (i1 : Int32) (σ : mm_S) : Option (Int32 × mm_S) :=
    if (σ.1 (26 + 1) 0) = 0 then
      some ((-1 : Int32), σ)
    else
      if i1 < 0 then
        some ((-1 : Int32), σ)
      else
        if i1 ≤ (1 : Int32) then
          bv (f_X9_walkFromNow a0 σ) fun σ33 =>
          f_X9_ring_30 a0 i1 (0 : Int32) σ33
        else
          some ((-1 : Int32), σ)
theorem v_X9_ring {g : mm_G} (d : Nat) {a0 : Nat} {i1 : Int32} {σ : mm_S} {res : Int32 × mm_S} (h_a0 : (mm_K a0).1 = 9) (h : f_X9_ring a0 i1 σ = some res) : SM g (d + 5) yy_X9_ring [.ref a0, .int i1] σ (.int res.1) res.2 := by
  refine s_of (by decide) (Nat.le_of_ble_eq_true rfl) (L := [(0, .ref a0), (1, .int i1)]) rfl ?_
  unfold f_X9_ring at h
  refine e_aload_n 0 dX9_ring_0 rfl rfl ?_
  refine s_getr dX9_ring_1 fl_RX9_50 h_a0 (r_9_5 h_a0).1 ?_
  refine s_getr dX9_ring_4 fl_RX9_71 (ka_1 (r_9_5 (w := 0) h_a0).2) (r_8_0 (ka_1 (r_9_5 (w := 0) h_a0).2)).1 ?_
  refine s_geti dX9_ring_7 fl_RX9_188 (ka_1 (r_8_0 (w := 0) (ka_1 (r_9_5 (w := 0) h_a0).2)).2) ?_
  refine e_if_eq 22 dX9_ring_10 (by decide) (fun c29 => ?_) (fun c29 => ?_)
  · rw [if_pos c29] at h
    refine e_iconst (v := (-1 : Int32)) dX9_ring_22 (by decide) ?_
    obtain rfl := Option.some.inj h
    exact s_ret rfl ⟨_, rfl, rfl⟩ dX9_ring_23
  · rw [if_neg c29] at h
    refine e_iload_n 1 dX9_ring_13 rfl rfl ?_
    refine e_if_lt 22 dX9_ring_14 (by decide) (fun c30 => ?_) (fun c30 => ?_)
    · rw [if_pos c30] at h
      refine e_iconst (v := (-1 : Int32)) dX9_ring_22 (by decide) ?_
      obtain rfl := Option.some.inj h
      exact s_ret rfl ⟨_, rfl, rfl⟩ dX9_ring_23
    · rw [if_neg c30] at h
      refine e_iload_n 1 dX9_ring_17 rfl rfl ?_
      refine e_iconst (v := (1 : Int32)) dX9_ring_18 (by decide) ?_
      refine e_icmp_le 24 dX9_ring_19 (by decide) (fun c31 => ?_) (fun c31 => ?_)
      · rw [if_pos c31] at h
        refine e_aload_n 0 dX9_ring_24 rfl rfl ?_
        obtain ⟨σ33, q32, h⟩ := bv_some h
        refine s_callVv [] dX9_ring_25 ml_RX9_196 h_a0 rfl rfl (v_X9_walkFromNow (d + 1) h_a0 q32) (Nat.le_of_ble_eq_true rfl) ?_
        refine e_iconst (v := (0 : Int32)) dX9_ring_28 (by decide) ?_
        refine e_istore_n (L' := [(0, .ref a0), (1, .int i1), (2, .int (0 : Int32))]) dX9_ring_29 rfl (by decide) rfl ?_
        refine s_pick (L' := [(0, .ref a0), (1, .int i1), (2, .int (0 : Int32))]) [0, 1, 2] rfl ?_
        exact v_X9_ring_30 d h_a0 h
      · rw [if_neg c31] at h
        refine e_iconst (v := (-1 : Int32)) dX9_ring_22 (by decide) ?_
        obtain rfl := Option.some.inj h
        exact s_ret rfl ⟨_, rfl, rfl⟩ dX9_ring_23
