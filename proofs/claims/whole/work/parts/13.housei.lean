abbrev yy_X9_ruled : mm_Y := (yX9_ruled, cX9_ruled, 3, (some .int))
theorem dX9_ruled_0 : decode cX9_ruled 0 = .ok (.aload_n 0, 1) := by decide +kernel
theorem dX9_ruled_1 : decode cX9_ruled 1 = .ok (.getfield 50, 3) := by decide +kernel
theorem dX9_ruled_4 : decode cX9_ruled 4 = .ok (.getfield 71, 3) := by decide +kernel
theorem dX9_ruled_7 : decode cX9_ruled 7 = .ok (.getfield 188, 3) := by decide +kernel
theorem dX9_ruled_10 : decode cX9_ruled 10 = .ok (.ifCond .eq 12, 3) := by decide +kernel
theorem dX9_ruled_13 : decode cX9_ruled 13 = .ok (.iload_n 1, 1) := by decide +kernel
theorem dX9_ruled_14 : decode cX9_ruled 14 = .ok (.ifCond .lt 8, 3) := by decide +kernel
theorem dX9_ruled_17 : decode cX9_ruled 17 = .ok (.iload_n 1, 1) := by decide +kernel
theorem dX9_ruled_18 : decode cX9_ruled 18 = .ok (.iconst 1, 1) := by decide +kernel
theorem dX9_ruled_19 : decode cX9_ruled 19 = .ok (.if_icmp .le 6, 3) := by decide +kernel
theorem dX9_ruled_22 : decode cX9_ruled 22 = .ok (.bipush (-3), 2) := by decide +kernel
theorem dX9_ruled_24 : decode cX9_ruled 24 = .ok (.ireturn, 1) := by decide +kernel
theorem dX9_ruled_25 : decode cX9_ruled 25 = .ok (.aload_n 0, 1) := by decide +kernel
theorem dX9_ruled_26 : decode cX9_ruled 26 = .ok (.invokevirtual 269, 3) := by decide +kernel
theorem dX9_ruled_29 : decode cX9_ruled 29 = .ok (.istore_n 2, 1) := by decide +kernel
theorem dX9_ruled_30 : decode cX9_ruled 30 = .ok (.iload_n 1, 1) := by decide +kernel
theorem dX9_ruled_31 : decode cX9_ruled 31 = .ok (.ifCond .ne 8, 3) := by decide +kernel
theorem dX9_ruled_34 : decode cX9_ruled 34 = .ok (.iload_n 2, 1) := by decide +kernel
theorem dX9_ruled_35 : decode cX9_ruled 35 = .ok (.invokestatic 223, 3) := by decide +kernel
theorem dX9_ruled_38 : decode cX9_ruled 38 = .ok (.ireturn, 1) := by decide +kernel
theorem dX9_ruled_39 : decode cX9_ruled 39 = .ok (.iload_n 2, 1) := by decide +kernel
theorem dX9_ruled_40 : decode cX9_ruled 40 = .ok (.ifCond .ne 8, 3) := by decide +kernel
theorem dX9_ruled_43 : decode cX9_ruled 43 = .ok (.bipush (-2), 2) := by decide +kernel
theorem dX9_ruled_45 : decode cX9_ruled 45 = .ok (.goto 9, 3) := by decide +kernel
theorem dX9_ruled_48 : decode cX9_ruled 48 = .ok (.iload_n 2, 1) := by decide +kernel
theorem dX9_ruled_49 : decode cX9_ruled 49 = .ok (.invokestatic 272, 3) := by decide +kernel
theorem dX9_ruled_52 : decode cX9_ruled 52 = .ok (.iconst 1, 1) := by decide +kernel
theorem dX9_ruled_53 : decode cX9_ruled 53 = .ok (.isub, 1) := by decide +kernel
theorem dX9_ruled_54 : decode cX9_ruled 54 = .ok (.ireturn, 1) := by decide +kernel
def f_X9_ruled (a0 : Nat) (i1 : Int32) (σ : mm_S) : Option (Int32 × mm_S) :=
    if (σ.1 (26 + 1) 0) = 0 then
      some ((-3 : Int32), σ)
    else
      if i1 < 0 then
        some ((-3 : Int32), σ)
      else
        if i1 ≤ (1 : Int32) then
          bd (f_X9_fittingRules a0 σ) fun r20 σ19 =>
          if i1 = 0 then
            bd (f_J6_bitCount_0f7a4 r20 σ19) fun r28 σ27 =>
            some (r28, σ27)
          else
            if r20 = 0 then
              some ((-2 : Int32), σ19)
            else
              bd (f_J6_numberOfTrailingZeros_0f7a4 r20 σ19) fun r25 σ24 =>
              some ((r25 - (1 : Int32)), σ24)
        else
          some ((-3 : Int32), σ)
theorem v_X9_ruled {g : mm_G} (d : Nat) {a0 : Nat} {i1 : Int32} {σ : mm_S} {res : Int32 × mm_S} (h_a0 : (mm_K a0).1 = 9) (h : f_X9_ruled a0 i1 σ = some res) : SM g (d + 6) yy_X9_ruled [.ref a0, .int i1] σ (.int res.1) res.2 := by
  refine s_of (by decide) (Nat.le_of_ble_eq_true rfl) (L := [(0, .ref a0), (1, .int i1)]) rfl ?_
  unfold f_X9_ruled at h
  refine e_aload_n 0 dX9_ruled_0 rfl rfl ?_
  refine s_getr dX9_ruled_1 fl_RX9_50 h_a0 (r_9_5 h_a0).1 ?_
  refine s_getr dX9_ruled_4 fl_RX9_71 (ka_1 (r_9_5 (w := 0) h_a0).2) (r_8_0 (ka_1 (r_9_5 (w := 0) h_a0).2)).1 ?_
  refine s_geti dX9_ruled_7 fl_RX9_188 (ka_1 (r_8_0 (w := 0) (ka_1 (r_9_5 (w := 0) h_a0).2)).2) ?_
  refine e_if_eq 22 dX9_ruled_10 (by decide) (fun c15 => ?_) (fun c15 => ?_)
  · rw [if_pos c15] at h
    refine e_bipush (v := (-3 : Int32)) dX9_ruled_22 (by decide) ?_
    obtain rfl := Option.some.inj h
    exact s_ret rfl ⟨_, rfl, rfl⟩ dX9_ruled_24
  · rw [if_neg c15] at h
    refine e_iload_n 1 dX9_ruled_13 rfl rfl ?_
    refine e_if_lt 22 dX9_ruled_14 (by decide) (fun c16 => ?_) (fun c16 => ?_)
    · rw [if_pos c16] at h
      refine e_bipush (v := (-3 : Int32)) dX9_ruled_22 (by decide) ?_
      obtain rfl := Option.some.inj h
      exact s_ret rfl ⟨_, rfl, rfl⟩ dX9_ruled_24
    · rw [if_neg c16] at h
      refine e_iload_n 1 dX9_ruled_17 rfl rfl ?_
      refine e_iconst (v := (1 : Int32)) dX9_ruled_18 (by decide) ?_
      refine e_icmp_le 25 dX9_ruled_19 (by decide) (fun c17 => ?_) (fun c17 => ?_)
      · rw [if_pos c17] at h
        refine e_aload_n 0 dX9_ruled_25 rfl rfl ?_
        obtain ⟨r20, σ19, q18, h⟩ := bd_some h
        refine s_callVi [] dX9_ruled_26 ml_RX9_269 h_a0 ⟨_, rfl, by decide⟩ rfl (v_X9_fittingRules (d + 0) h_a0 q18) (Nat.le_of_ble_eq_true rfl) ?_
        refine e_istore_n (L' := [(0, .ref a0), (1, .int i1), (2, .int r20)]) dX9_ruled_29 rfl (by decide) rfl ?_
        refine e_iload_n 1 dX9_ruled_30 rfl rfl ?_
        refine e_if_ne 39 dX9_ruled_31 (by decide) (fun c21 => ?_) (fun c21 => ?_)
        · rw [if_neg c21] at h
          refine e_iload_n 2 dX9_ruled_39 rfl rfl ?_
          refine e_if_ne 48 dX9_ruled_40 (by decide) (fun c22 => ?_) (fun c22 => ?_)
          · rw [if_neg c22] at h
            refine e_iload_n 2 dX9_ruled_48 rfl rfl ?_
            obtain ⟨r25, σ24, q23, h⟩ := bd_some h
            refine s_callSi [.int r20] dX9_ruled_49 ml_RX9_272 ⟨_, rfl, by decide⟩ rfl (v_J6_numberOfTrailingZeros_0f7a4 (d + 5)  q23) (Nat.le_of_ble_eq_true rfl) ?_
            refine e_iconst (v := (1 : Int32)) dX9_ruled_52 (by decide) ?_
            refine e_isub dX9_ruled_53 ?_
            obtain rfl := Option.some.inj h
            exact s_ret rfl ⟨_, rfl, rfl⟩ dX9_ruled_54
          · rw [if_pos c22] at h
            refine e_bipush (v := (-2 : Int32)) dX9_ruled_43 (by decide) ?_
            refine e_goto 54 dX9_ruled_45 (by decide) ?_
            obtain rfl := Option.some.inj h
            exact s_ret rfl ⟨_, rfl, rfl⟩ dX9_ruled_54
        · rw [if_pos c21] at h
          refine e_iload_n 2 dX9_ruled_34 rfl rfl ?_
          obtain ⟨r28, σ27, q26, h⟩ := bd_some h
          refine s_callSi [.int r20] dX9_ruled_35 ml_RX9_223 ⟨_, rfl, by decide⟩ rfl (v_J6_bitCount_0f7a4 (d + 5)  q26) (Nat.le_of_ble_eq_true rfl) ?_
          obtain rfl := Option.some.inj h
          exact s_ret rfl ⟨_, rfl, rfl⟩ dX9_ruled_38
      · rw [if_neg c17] at h
        refine e_bipush (v := (-3 : Int32)) dX9_ruled_22 (by decide) ?_
        obtain rfl := Option.some.inj h
        exact s_ret rfl ⟨_, rfl, rfl⟩ dX9_ruled_24
abbrev yy_X9_mostAlike : mm_Y := (yX9_mostAlike, cX9_mostAlike, 8, (some .int))
theorem dX9_mostAlike_0 : decode cX9_mostAlike 0 = .ok (.iconst 0, 1) := by decide +kernel
theorem dX9_mostAlike_1 : decode cX9_mostAlike 1 = .ok (.istore_n 3, 1) := by decide +kernel
theorem dX9_mostAlike_2 : decode cX9_mostAlike 2 = .ok (.iconst 0, 1) := by decide +kernel
theorem dX9_mostAlike_3 : decode cX9_mostAlike 3 = .ok (.istore 4, 2) := by decide +kernel
theorem dX9_mostAlike_5 : decode cX9_mostAlike 5 = .ok (.iload 4, 2) := by decide +kernel
theorem dX9_mostAlike_7 : decode cX9_mostAlike 7 = .ok (.aload_n 0, 1) := by decide +kernel
theorem dX9_mostAlike_8 : decode cX9_mostAlike 8 = .ok (.getfield 43, 3) := by decide +kernel
theorem dX9_mostAlike_11 : decode cX9_mostAlike 11 = .ok (.if_icmp .gt 99, 3) := by decide +kernel
theorem dX9_mostAlike_14 : decode cX9_mostAlike 14 = .ok (.iconst 0, 1) := by decide +kernel
theorem dX9_mostAlike_15 : decode cX9_mostAlike 15 = .ok (.istore 5, 2) := by decide +kernel
theorem dX9_mostAlike_17 : decode cX9_mostAlike 17 = .ok (.iconst 0, 1) := by decide +kernel
theorem dX9_mostAlike_18 : decode cX9_mostAlike 18 = .ok (.istore 6, 2) := by decide +kernel
theorem dX9_mostAlike_20 : decode cX9_mostAlike 20 = .ok (.iload 6, 2) := by decide +kernel
theorem dX9_mostAlike_22 : decode cX9_mostAlike 22 = .ok (.aload_n 0, 1) := by decide +kernel
theorem dX9_mostAlike_23 : decode cX9_mostAlike 23 = .ok (.getfield 43, 3) := by decide +kernel
theorem dX9_mostAlike_26 : decode cX9_mostAlike 26 = .ok (.if_icmp .gt 71, 3) := by decide +kernel
theorem dX9_mostAlike_29 : decode cX9_mostAlike 29 = .ok (.iload_n 1, 1) := by decide +kernel
theorem dX9_mostAlike_30 : decode cX9_mostAlike 30 = .ok (.iload 4, 2) := by decide +kernel
theorem dX9_mostAlike_32 : decode cX9_mostAlike 32 = .ok (.ishr, 1) := by decide +kernel
theorem dX9_mostAlike_33 : decode cX9_mostAlike 33 = .ok (.iconst 1, 1) := by decide +kernel
theorem dX9_mostAlike_34 : decode cX9_mostAlike 34 = .ok (.iand, 1) := by decide +kernel
theorem dX9_mostAlike_35 : decode cX9_mostAlike 35 = .ok (.iconst 1, 1) := by decide +kernel
theorem dX9_mostAlike_36 : decode cX9_mostAlike 36 = .ok (.if_icmp .ne 17, 3) := by decide +kernel
theorem dX9_mostAlike_39 : decode cX9_mostAlike 39 = .ok (.iload_n 1, 1) := by decide +kernel
theorem dX9_mostAlike_40 : decode cX9_mostAlike 40 = .ok (.iload 6, 2) := by decide +kernel
theorem dX9_mostAlike_42 : decode cX9_mostAlike 42 = .ok (.ishr, 1) := by decide +kernel
theorem dX9_mostAlike_43 : decode cX9_mostAlike 43 = .ok (.iconst 1, 1) := by decide +kernel
theorem dX9_mostAlike_44 : decode cX9_mostAlike 44 = .ok (.iand, 1) := by decide +kernel
theorem dX9_mostAlike_45 : decode cX9_mostAlike 45 = .ok (.iconst 1, 1) := by decide +kernel
theorem dX9_mostAlike_46 : decode cX9_mostAlike 46 = .ok (.if_icmp .ne 7, 3) := by decide +kernel
theorem dX9_mostAlike_49 : decode cX9_mostAlike 49 = .ok (.iconst 1, 1) := by decide +kernel
theorem dX9_mostAlike_50 : decode cX9_mostAlike 50 = .ok (.goto 4, 3) := by decide +kernel
theorem dX9_mostAlike_53 : decode cX9_mostAlike 53 = .ok (.iconst 0, 1) := by decide +kernel
theorem dX9_mostAlike_54 : decode cX9_mostAlike 54 = .ok (.istore 7, 2) := by decide +kernel
theorem dX9_mostAlike_56 : decode cX9_mostAlike 56 = .ok (.iload 7, 2) := by decide +kernel
theorem dX9_mostAlike_58 : decode cX9_mostAlike 58 = .ok (.ifCond .eq 33, 3) := by decide +kernel
theorem dX9_mostAlike_61 : decode cX9_mostAlike 61 = .ok (.aload_n 0, 1) := by decide +kernel
theorem dX9_mostAlike_62 : decode cX9_mostAlike 62 = .ok (.getfield 88, 3) := by decide +kernel
theorem dX9_mostAlike_65 : decode cX9_mostAlike 65 = .ok (.iload 4, 2) := by decide +kernel
theorem dX9_mostAlike_67 : decode cX9_mostAlike 67 = .ok (.bipush 61, 2) := by decide +kernel
theorem dX9_mostAlike_69 : decode cX9_mostAlike 69 = .ok (.imul, 1) := by decide +kernel
theorem dX9_mostAlike_70 : decode cX9_mostAlike 70 = .ok (.iload_n 2, 1) := by decide +kernel
theorem dX9_mostAlike_71 : decode cX9_mostAlike 71 = .ok (.iadd, 1) := by decide +kernel
theorem dX9_mostAlike_72 : decode cX9_mostAlike 72 = .ok (.iaload, 1) := by decide +kernel
theorem dX9_mostAlike_73 : decode cX9_mostAlike 73 = .ok (.aload_n 0, 1) := by decide +kernel
theorem dX9_mostAlike_74 : decode cX9_mostAlike 74 = .ok (.getfield 88, 3) := by decide +kernel
theorem dX9_mostAlike_77 : decode cX9_mostAlike 77 = .ok (.iload 6, 2) := by decide +kernel
theorem dX9_mostAlike_79 : decode cX9_mostAlike 79 = .ok (.bipush 61, 2) := by decide +kernel
theorem dX9_mostAlike_81 : decode cX9_mostAlike 81 = .ok (.imul, 1) := by decide +kernel
theorem dX9_mostAlike_82 : decode cX9_mostAlike 82 = .ok (.iload_n 2, 1) := by decide +kernel
theorem dX9_mostAlike_83 : decode cX9_mostAlike 83 = .ok (.iadd, 1) := by decide +kernel
theorem dX9_mostAlike_84 : decode cX9_mostAlike 84 = .ok (.iaload, 1) := by decide +kernel
theorem dX9_mostAlike_85 : decode cX9_mostAlike 85 = .ok (.if_icmp .ne 6, 3) := by decide +kernel
theorem dX9_mostAlike_88 : decode cX9_mostAlike 88 = .ok (.iinc 5 1, 3) := by decide +kernel
theorem dX9_mostAlike_91 : decode cX9_mostAlike 91 = .ok (.iinc 6 1, 3) := by decide +kernel
theorem dX9_mostAlike_94 : decode cX9_mostAlike 94 = .ok (.goto (-74), 3) := by decide +kernel
theorem dX9_mostAlike_97 : decode cX9_mostAlike 97 = .ok (.iload_n 3, 1) := by decide +kernel
theorem dX9_mostAlike_98 : decode cX9_mostAlike 98 = .ok (.iload 5, 2) := by decide +kernel
theorem dX9_mostAlike_100 : decode cX9_mostAlike 100 = .ok (.invokestatic 248, 3) := by decide +kernel
theorem dX9_mostAlike_103 : decode cX9_mostAlike 103 = .ok (.istore_n 3, 1) := by decide +kernel
theorem dX9_mostAlike_104 : decode cX9_mostAlike 104 = .ok (.iinc 4 1, 3) := by decide +kernel
theorem dX9_mostAlike_107 : decode cX9_mostAlike 107 = .ok (.goto (-102), 3) := by decide +kernel
theorem dX9_mostAlike_110 : decode cX9_mostAlike 110 = .ok (.iload_n 3, 1) := by decide +kernel
theorem dX9_mostAlike_111 : decode cX9_mostAlike 111 = .ok (.ireturn, 1) := by decide +kernel
def f_X9_mostAlike_54 (k5 : (Int32 × Int32) → mm_S → Option (Int32 × mm_S)) (k20 : (Int32 × Int32) → mm_S → Option (Int32 × mm_S)) (a0 : Nat) (i1 : Int32) (i2 : Int32) (i3 : Int32) (i4 : Int32) (i5 : Int32) (i6 : Int32) (s0 : Int32) (σ : mm_S) : Option (Int32 × mm_S) :=
    if s0 = 0 then
      lt (i6 + Int32.ofInt (1)) fun x2 =>
      k20 (i5, x2) σ
    else
      gd ((i4 * (61 : Int32)) + i2) 427 <|
      gd ((i6 * (61 : Int32)) + i2) 427 <|
      if (σ.1 213 ((i4 * (61 : Int32)) + i2).toNatClampNeg) = (σ.1 213 ((i6 * (61 : Int32)) + i2).toNatClampNeg) then
        lt (i5 + Int32.ofInt (1)) fun x9 =>
        lt (i6 + Int32.ofInt (1)) fun x11 =>
        k20 (x9, x11) σ
      else
        lt (i6 + Int32.ofInt (1)) fun x7 =>
        k20 (i5, x7) σ
theorem v_X9_mostAlike_54 {g : mm_G} (d : Nat) {k5 : (Int32 × Int32) → mm_S → Option (Int32 × mm_S)} {k20 : (Int32 × Int32) → mm_S → Option (Int32 × mm_S)} {a0 : Nat} {i1 : Int32} {i2 : Int32} {i3 : Int32} {i4 : Int32} {i5 : Int32} {i6 : Int32} {s0 : Int32} {σ : mm_S} {res : Int32 × mm_S} (H5 : ∀ v σ, k5 v σ = some res → SV g (d + 1) yy_X9_mostAlike 5 [(0, .ref a0), (1, .int i1), (2, .int i2), (3, .int v.1), (4, .int v.2)] [] σ (.int res.1) res.2) (H20 : ∀ v σ, k20 v σ = some res → SV g (d + 1) yy_X9_mostAlike 20 [(0, .ref a0), (1, .int i1), (2, .int i2), (3, .int i3), (4, .int i4), (5, .int v.1), (6, .int v.2)] [] σ (.int res.1) res.2) (h_a0 : (mm_K a0).1 = 9) (h : f_X9_mostAlike_54 k5 k20 a0 i1 i2 i3 i4 i5 i6 s0 σ = some res) : SV g (d + 1) yy_X9_mostAlike 54 [(0, .ref a0), (1, .int i1), (2, .int i2), (3, .int i3), (4, .int i4), (5, .int i5), (6, .int i6)] [.int s0] σ (.int res.1) res.2 := by
  unfold f_X9_mostAlike_54 at h
  refine e_istore (L' := [(0, .ref a0), (1, .int i1), (2, .int i2), (3, .int i3), (4, .int i4), (5, .int i5), (6, .int i6), (7, .int s0)]) dX9_mostAlike_54  (by decide) rfl ?_
  refine e_iload 7 dX9_mostAlike_56  rfl ?_
  refine e_if_eq 91 dX9_mostAlike_58 (by decide) (fun c1 => ?_) (fun c1 => ?_)
  · rw [if_pos c1] at h
    obtain ⟨x2, q3, h⟩ := lt_some h
    refine e_iinc (v := x2) (L' := [(0, .ref a0), (1, .int i1), (2, .int i2), (3, .int i3), (4, .int i4), (5, .int i5), (6, .int x2), (7, .int s0)]) 6 dX9_mostAlike_91 rfl q3.symm (by decide) rfl ?_
    refine e_goto 20 dX9_mostAlike_94 (by decide) ?_
    refine s_pick (L' := [(0, .ref a0), (1, .int i1), (2, .int i2), (3, .int i3), (4, .int i4), (5, .int i5), (6, .int x2)]) [0, 1, 2, 3, 4, 5, 6] rfl ?_
    exact H20 (i5, x2) σ h
  · rw [if_neg c1] at h
    refine e_aload_n 0 dX9_mostAlike_61 rfl rfl ?_
    refine s_getr dX9_mostAlike_62 fl_RX9_88 h_a0 (r_9_12 h_a0).1 ?_
    refine e_iload 4 dX9_mostAlike_65  rfl ?_
    refine e_bipush (v := (61 : Int32)) dX9_mostAlike_67 (by decide) ?_
    refine e_imul dX9_mostAlike_69 ?_
    refine e_iload_n 2 dX9_mostAlike_70 rfl rfl ?_
    refine e_iadd dX9_mostAlike_71 ?_
    obtain ⟨q4, h⟩ := gd_some h
    refine s_iald dX9_mostAlike_72 (r_9_12 (w := 0) h_a0).2 q4 ?_
    refine e_aload_n 0 dX9_mostAlike_73 rfl rfl ?_
    refine s_getr dX9_mostAlike_74 fl_RX9_88 h_a0 (r_9_12 h_a0).1 ?_
    refine e_iload 6 dX9_mostAlike_77  rfl ?_
    refine e_bipush (v := (61 : Int32)) dX9_mostAlike_79 (by decide) ?_
    refine e_imul dX9_mostAlike_81 ?_
    refine e_iload_n 2 dX9_mostAlike_82 rfl rfl ?_
    refine e_iadd dX9_mostAlike_83 ?_
    obtain ⟨q5, h⟩ := gd_some h
    refine s_iald dX9_mostAlike_84 (r_9_12 (w := 0) h_a0).2 q5 ?_
    refine e_icmp_ne 91 dX9_mostAlike_85 (by decide) (fun c6 => ?_) (fun c6 => ?_)
    · rw [if_neg c6] at h
      obtain ⟨x7, q8, h⟩ := lt_some h
      refine e_iinc (v := x7) (L' := [(0, .ref a0), (1, .int i1), (2, .int i2), (3, .int i3), (4, .int i4), (5, .int i5), (6, .int x7), (7, .int s0)]) 6 dX9_mostAlike_91 rfl q8.symm (by decide) rfl ?_
      refine e_goto 20 dX9_mostAlike_94 (by decide) ?_
      refine s_pick (L' := [(0, .ref a0), (1, .int i1), (2, .int i2), (3, .int i3), (4, .int i4), (5, .int i5), (6, .int x7)]) [0, 1, 2, 3, 4, 5, 6] rfl ?_
      exact H20 (i5, x7) σ h
    · rw [if_pos c6] at h
      obtain ⟨x9, q10, h⟩ := lt_some h
      refine e_iinc (v := x9) (L' := [(0, .ref a0), (1, .int i1), (2, .int i2), (3, .int i3), (4, .int i4), (5, .int x9), (6, .int i6), (7, .int s0)]) 5 dX9_mostAlike_88 rfl q10.symm (by decide) rfl ?_
      obtain ⟨x11, q12, h⟩ := lt_some h
      refine e_iinc (v := x11) (L' := [(0, .ref a0), (1, .int i1), (2, .int i2), (3, .int i3), (4, .int i4), (5, .int x9), (6, .int x11), (7, .int s0)]) 6 dX9_mostAlike_91 rfl q12.symm (by decide) rfl ?_
      refine e_goto 20 dX9_mostAlike_94 (by decide) ?_
      refine s_pick (L' := [(0, .ref a0), (1, .int i1), (2, .int i2), (3, .int i3), (4, .int i4), (5, .int x9), (6, .int x11)]) [0, 1, 2, 3, 4, 5, 6] rfl ?_
      exact H20 (x9, x11) σ h
def f_X9_mostAlike_20 (k5 : (Int32 × Int32) → mm_S → Option (Int32 × mm_S)) (a0 : Nat) (i1 : Int32) (i2 : Int32) (i3 : Int32) (i4 : Int32) (i5 : Int32) (i6 : Int32) (σ : mm_S) : Option (Int32 × mm_S) :=
  lp lpN (fun (k20 : (Int32 × Int32) → mm_S → Option (Int32 × mm_S)) (v : Int32 × Int32) (σ : mm_S) =>
    if (σ.1 a0 4) < v.2 then
      lt ((if i3 < v.1 then v.1 else i3)) fun x14 =>
      lt (i4 + Int32.ofInt (1)) fun x16 =>
      k5 (x14, x16) σ
    else
      if ((i1 >>> (i4 &&& 31)) &&& (1 : Int32)) = (1 : Int32) then
        if ((i1 >>> (v.2 &&& 31)) &&& (1 : Int32)) = (1 : Int32) then
          f_X9_mostAlike_54 k5 k20 a0 i1 i2 i3 i4 v.1 v.2 (1 : Int32) σ
        else
          f_X9_mostAlike_54 k5 k20 a0 i1 i2 i3 i4 v.1 v.2 (0 : Int32) σ
      else
        f_X9_mostAlike_54 k5 k20 a0 i1 i2 i3 i4 v.1 v.2 (0 : Int32) σ) (i5, i6) σ
theorem v_X9_mostAlike_20 {g : mm_G} (d : Nat) {k5 : (Int32 × Int32) → mm_S → Option (Int32 × mm_S)} {a0 : Nat} {i1 : Int32} {i2 : Int32} {i3 : Int32} {i4 : Int32} {i5 : Int32} {i6 : Int32} {σ : mm_S} {res : Int32 × mm_S} (H5 : ∀ v σ, k5 v σ = some res → SV g (d + 1) yy_X9_mostAlike 5 [(0, .ref a0), (1, .int i1), (2, .int i2), (3, .int v.1), (4, .int v.2)] [] σ (.int res.1) res.2) (h_a0 : (mm_K a0).1 = 9) (h : f_X9_mostAlike_20 k5 a0 i1 i2 i3 i4 i5 i6 σ = some res) : SV g (d + 1) yy_X9_mostAlike 20 [(0, .ref a0), (1, .int i1), (2, .int i2), (3, .int i3), (4, .int i4), (5, .int i5), (6, .int i6)] [] σ (.int res.1) res.2 := by
  unfold f_X9_mostAlike_20 at h
  refine lp_ind (P := fun v σ => SV g (d + 1) yy_X9_mostAlike 20 [(0, .ref a0), (1, .int i1), (2, .int i2), (3, .int i3), (4, .int i4), (5, .int v.1), (6, .int v.2)] [] σ (.int res.1) res.2) (fun k20 H20 v σ h => ?_) _ (i5, i6) σ h
  refine e_iload 6 dX9_mostAlike_20  rfl ?_
  refine e_aload_n 0 dX9_mostAlike_22 rfl rfl ?_
  refine s_geti dX9_mostAlike_23 fl_RX9_43 h_a0 ?_
  refine e_icmp_gt 97 dX9_mostAlike_26 (by decide) (fun c13 => ?_) (fun c13 => ?_)
  · rw [if_pos c13] at h
    refine e_iload_n 3 dX9_mostAlike_97 rfl rfl ?_
    refine e_iload 5 dX9_mostAlike_98  rfl ?_
    refine s_mmax dX9_mostAlike_100 mx_RX9_248 (Nat.le_of_ble_eq_true rfl) ?_
    obtain ⟨x14, q15, h⟩ := lt_some h
    refine s_nmi q15 ?_
    refine e_istore_n (L' := [(0, .ref a0), (1, .int i1), (2, .int i2), (3, .int x14), (4, .int i4), (5, .int v.1), (6, .int v.2)]) dX9_mostAlike_103 rfl (by decide) rfl ?_
    obtain ⟨x16, q17, h⟩ := lt_some h
    refine e_iinc (v := x16) (L' := [(0, .ref a0), (1, .int i1), (2, .int i2), (3, .int x14), (4, .int x16), (5, .int v.1), (6, .int v.2)]) 4 dX9_mostAlike_104 rfl q17.symm (by decide) rfl ?_
    refine e_goto 5 dX9_mostAlike_107 (by decide) ?_
    refine s_pick (L' := [(0, .ref a0), (1, .int i1), (2, .int i2), (3, .int x14), (4, .int x16)]) [0, 1, 2, 3, 4] rfl ?_
    exact H5 (x14, x16) σ h
  · rw [if_neg c13] at h
    refine e_iload_n 1 dX9_mostAlike_29 rfl rfl ?_
    refine e_iload 4 dX9_mostAlike_30  rfl ?_
    refine e_ishr dX9_mostAlike_32 ?_
    refine e_iconst (v := (1 : Int32)) dX9_mostAlike_33 (by decide) ?_
    refine e_iand dX9_mostAlike_34 ?_
    refine e_iconst (v := (1 : Int32)) dX9_mostAlike_35 (by decide) ?_
    refine e_icmp_ne 53 dX9_mostAlike_36 (by decide) (fun c18 => ?_) (fun c18 => ?_)
    · rw [if_neg c18] at h
      refine e_iconst (v := (0 : Int32)) dX9_mostAlike_53 (by decide) ?_
      refine s_pick (L' := [(0, .ref a0), (1, .int i1), (2, .int i2), (3, .int i3), (4, .int i4), (5, .int v.1), (6, .int v.2)]) [0, 1, 2, 3, 4, 5, 6] rfl ?_
      exact v_X9_mostAlike_54 d H5 H20 h_a0 h
    · rw [if_pos c18] at h
      refine e_iload_n 1 dX9_mostAlike_39 rfl rfl ?_
      refine e_iload 6 dX9_mostAlike_40  rfl ?_
      refine e_ishr dX9_mostAlike_42 ?_
      refine e_iconst (v := (1 : Int32)) dX9_mostAlike_43 (by decide) ?_
      refine e_iand dX9_mostAlike_44 ?_
      refine e_iconst (v := (1 : Int32)) dX9_mostAlike_45 (by decide) ?_
      refine e_icmp_ne 53 dX9_mostAlike_46 (by decide) (fun c19 => ?_) (fun c19 => ?_)
      · rw [if_neg c19] at h
        refine e_iconst (v := (0 : Int32)) dX9_mostAlike_53 (by decide) ?_
        refine s_pick (L' := [(0, .ref a0), (1, .int i1), (2, .int i2), (3, .int i3), (4, .int i4), (5, .int v.1), (6, .int v.2)]) [0, 1, 2, 3, 4, 5, 6] rfl ?_
        exact v_X9_mostAlike_54 d H5 H20 h_a0 h
      · rw [if_pos c19] at h
        refine e_iconst (v := (1 : Int32)) dX9_mostAlike_49 (by decide) ?_
        refine e_goto 54 dX9_mostAlike_50 (by decide) ?_
        refine s_pick (L' := [(0, .ref a0), (1, .int i1), (2, .int i2), (3, .int i3), (4, .int i4), (5, .int v.1), (6, .int v.2)]) [0, 1, 2, 3, 4, 5, 6] rfl ?_
        exact v_X9_mostAlike_54 d H5 H20 h_a0 h
def f_X9_mostAlike_5 (a0 : Nat) (i1 : Int32) (i2 : Int32) (i3 : Int32) (i4 : Int32) (σ : mm_S) : Option (Int32 × mm_S) :=
  lp lpN (fun (k5 : (Int32 × Int32) → mm_S → Option (Int32 × mm_S)) (v : Int32 × Int32) (σ : mm_S) =>
    if (σ.1 a0 4) < v.2 then
      some (v.1, σ)
    else
      f_X9_mostAlike_20 k5 a0 i1 i2 v.1 v.2 (0 : Int32) (0 : Int32) σ) (i3, i4) σ
theorem v_X9_mostAlike_5 {g : mm_G} (d : Nat) {a0 : Nat} {i1 : Int32} {i2 : Int32} {i3 : Int32} {i4 : Int32} {σ : mm_S} {res : Int32 × mm_S}  (h_a0 : (mm_K a0).1 = 9) (h : f_X9_mostAlike_5 a0 i1 i2 i3 i4 σ = some res) : SV g (d + 1) yy_X9_mostAlike 5 [(0, .ref a0), (1, .int i1), (2, .int i2), (3, .int i3), (4, .int i4)] [] σ (.int res.1) res.2 := by
  unfold f_X9_mostAlike_5 at h
  refine lp_ind (P := fun v σ => SV g (d + 1) yy_X9_mostAlike 5 [(0, .ref a0), (1, .int i1), (2, .int i2), (3, .int v.1), (4, .int v.2)] [] σ (.int res.1) res.2) (fun k5 H5 v σ h => ?_) _ (i3, i4) σ h
  refine e_iload 4 dX9_mostAlike_5  rfl ?_
  refine e_aload_n 0 dX9_mostAlike_7 rfl rfl ?_
  refine s_geti dX9_mostAlike_8 fl_RX9_43 h_a0 ?_
  refine e_icmp_gt 110 dX9_mostAlike_11 (by decide) (fun c20 => ?_) (fun c20 => ?_)
  · rw [if_pos c20] at h
    refine e_iload_n 3 dX9_mostAlike_110 rfl rfl ?_
    obtain rfl := Option.some.inj h
    exact s_ret rfl ⟨_, rfl, rfl⟩ dX9_mostAlike_111
  · rw [if_neg c20] at h
    refine e_iconst (v := (0 : Int32)) dX9_mostAlike_14 (by decide) ?_
    refine e_istore (L' := [(0, .ref a0), (1, .int i1), (2, .int i2), (3, .int v.1), (4, .int v.2), (5, .int (0 : Int32))]) dX9_mostAlike_15  (by decide) rfl ?_
    refine e_iconst (v := (0 : Int32)) dX9_mostAlike_17 (by decide) ?_
    refine e_istore (L' := [(0, .ref a0), (1, .int i1), (2, .int i2), (3, .int v.1), (4, .int v.2), (5, .int (0 : Int32)), (6, .int (0 : Int32))]) dX9_mostAlike_18  (by decide) rfl ?_
    refine s_pick (L' := [(0, .ref a0), (1, .int i1), (2, .int i2), (3, .int v.1), (4, .int v.2), (5, .int (0 : Int32)), (6, .int (0 : Int32))]) [0, 1, 2, 3, 4, 5, 6] rfl ?_
    exact v_X9_mostAlike_20 d H5 h_a0 h
def f_X9_mostAlike (a0 : Nat) (i1 : Int32) (i2 : Int32) (σ : mm_S) : Option (Int32 × mm_S) :=
    f_X9_mostAlike_5 a0 i1 i2 (0 : Int32) (0 : Int32) σ
theorem v_X9_mostAlike {g : mm_G} (d : Nat) {a0 : Nat} {i1 : Int32} {i2 : Int32} {σ : mm_S} {res : Int32 × mm_S} (h_a0 : (mm_K a0).1 = 9) (h : f_X9_mostAlike a0 i1 i2 σ = some res) : SM g (d + 1) yy_X9_mostAlike [.ref a0, .int i1, .int i2] σ (.int res.1) res.2 := by
  refine s_of (by decide) (Nat.le_of_ble_eq_true rfl) (L := [(0, .ref a0), (1, .int i1), (2, .int i2)]) rfl ?_
  unfold f_X9_mostAlike at h
  refine e_iconst (v := (0 : Int32)) dX9_mostAlike_0 (by decide) ?_
  refine e_istore_n (L' := [(0, .ref a0), (1, .int i1), (2, .int i2), (3, .int (0 : Int32))]) dX9_mostAlike_1 rfl (by decide) rfl ?_
  refine e_iconst (v := (0 : Int32)) dX9_mostAlike_2 (by decide) ?_
  refine e_istore (L' := [(0, .ref a0), (1, .int i1), (2, .int i2), (3, .int (0 : Int32)), (4, .int (0 : Int32))]) dX9_mostAlike_3  (by decide) rfl ?_
  refine s_pick (L' := [(0, .ref a0), (1, .int i1), (2, .int i2), (3, .int (0 : Int32)), (4, .int (0 : Int32))]) [0, 1, 2, 3, 4] rfl ?_
  exact v_X9_mostAlike_5 d h_a0 h
abbrev yy_X9_look : mm_Y := (yX9_look, cX9_look, 7, (some .int))
theorem dX9_look_0 : decode cX9_look 0 = .ok (.aload_n 0, 1) := by decide +kernel
theorem dX9_look_1 : decode cX9_look 1 = .ok (.getfield 50, 3) := by decide +kernel
theorem dX9_look_4 : decode cX9_look 4 = .ok (.getfield 71, 3) := by decide +kernel
theorem dX9_look_7 : decode cX9_look 7 = .ok (.getfield 188, 3) := by decide +kernel
theorem dX9_look_10 : decode cX9_look 10 = .ok (.ifCond .eq 12, 3) := by decide +kernel
theorem dX9_look_13 : decode cX9_look 13 = .ok (.iload_n 1, 1) := by decide +kernel
theorem dX9_look_14 : decode cX9_look 14 = .ok (.ifCond .lt 8, 3) := by decide +kernel
theorem dX9_look_17 : decode cX9_look 17 = .ok (.iload_n 1, 1) := by decide +kernel
theorem dX9_look_18 : decode cX9_look 18 = .ok (.iconst 1, 1) := by decide +kernel
theorem dX9_look_19 : decode cX9_look 19 = .ok (.if_icmp .le 5, 3) := by decide +kernel
theorem dX9_look_22 : decode cX9_look 22 = .ok (.iconst (-1), 1) := by decide +kernel
theorem dX9_look_23 : decode cX9_look 23 = .ok (.ireturn, 1) := by decide +kernel
theorem dX9_look_24 : decode cX9_look 24 = .ok (.aload_n 0, 1) := by decide +kernel
theorem dX9_look_25 : decode cX9_look 25 = .ok (.invokevirtual 269, 3) := by decide +kernel
theorem dX9_look_28 : decode cX9_look 28 = .ok (.istore_n 2, 1) := by decide +kernel
theorem dX9_look_29 : decode cX9_look 29 = .ok (.iload_n 2, 1) := by decide +kernel
theorem dX9_look_30 : decode cX9_look 30 = .ok (.ifCond .ne 6, 3) := by decide +kernel
theorem dX9_look_33 : decode cX9_look 33 = .ok (.bipush (-2), 2) := by decide +kernel
theorem dX9_look_35 : decode cX9_look 35 = .ok (.ireturn, 1) := by decide +kernel
theorem dX9_look_36 : decode cX9_look 36 = .ok (.iconst 0, 1) := by decide +kernel
theorem dX9_look_37 : decode cX9_look 37 = .ok (.istore_n 3, 1) := by decide +kernel
theorem dX9_look_38 : decode cX9_look 38 = .ok (.bipush 8, 2) := by decide +kernel
theorem dX9_look_40 : decode cX9_look 40 = .ok (.istore 4, 2) := by decide +kernel
theorem dX9_look_42 : decode cX9_look 42 = .ok (.iconst 0, 1) := by decide +kernel
theorem dX9_look_43 : decode cX9_look 43 = .ok (.istore 5, 2) := by decide +kernel
theorem dX9_look_45 : decode cX9_look 45 = .ok (.iload 5, 2) := by decide +kernel
theorem dX9_look_47 : decode cX9_look 47 = .ok (.bipush 61, 2) := by decide +kernel
theorem dX9_look_49 : decode cX9_look 49 = .ok (.if_icmp .ge 32, 3) := by decide +kernel
theorem dX9_look_52 : decode cX9_look 52 = .ok (.aload_n 0, 1) := by decide +kernel
theorem dX9_look_53 : decode cX9_look 53 = .ok (.iload_n 2, 1) := by decide +kernel
theorem dX9_look_54 : decode cX9_look 54 = .ok (.iload 5, 2) := by decide +kernel
theorem dX9_look_56 : decode cX9_look 56 = .ok (.invokevirtual 275, 3) := by decide +kernel
theorem dX9_look_59 : decode cX9_look 59 = .ok (.istore 6, 2) := by decide +kernel
theorem dX9_look_61 : decode cX9_look 61 = .ok (.iload 6, 2) := by decide +kernel
theorem dX9_look_63 : decode cX9_look 63 = .ok (.iload 4, 2) := by decide +kernel
theorem dX9_look_65 : decode cX9_look 65 = .ok (.if_icmp .ge 10, 3) := by decide +kernel
theorem dX9_look_68 : decode cX9_look 68 = .ok (.iload 6, 2) := by decide +kernel
theorem dX9_look_70 : decode cX9_look 70 = .ok (.istore 4, 2) := by decide +kernel
theorem dX9_look_72 : decode cX9_look 72 = .ok (.iload 5, 2) := by decide +kernel
theorem dX9_look_74 : decode cX9_look 74 = .ok (.istore_n 3, 1) := by decide +kernel
theorem dX9_look_75 : decode cX9_look 75 = .ok (.iinc 5 1, 3) := by decide +kernel
theorem dX9_look_78 : decode cX9_look 78 = .ok (.goto (-33), 3) := by decide +kernel
theorem dX9_look_81 : decode cX9_look 81 = .ok (.iload_n 1, 1) := by decide +kernel
theorem dX9_look_82 : decode cX9_look 82 = .ok (.ifCond .ne 7, 3) := by decide +kernel
theorem dX9_look_85 : decode cX9_look 85 = .ok (.iload_n 3, 1) := by decide +kernel
theorem dX9_look_86 : decode cX9_look 86 = .ok (.goto 5, 3) := by decide +kernel
theorem dX9_look_89 : decode cX9_look 89 = .ok (.iload 4, 2) := by decide +kernel
theorem dX9_look_91 : decode cX9_look 91 = .ok (.ireturn, 1) := by decide +kernel
def f_X9_look_45 (a0 : Nat) (i1 : Int32) (i2 : Int32) (i3 : Int32) (i4 : Int32) (i5 : Int32) (σ : mm_S) : Option (Int32 × mm_S) :=
  lp lpN (fun (k45 : (Int32 × Int32 × Int32) → mm_S → Option (Int32 × mm_S)) (v : Int32 × Int32 × Int32) (σ : mm_S) =>
    if (61 : Int32) ≤ v.2.2 then
      if i1 = 0 then
        some (v.1, σ)
      else
        some (v.2.1, σ)
    else
      bd (f_X9_mostAlike a0 i2 v.2.2 σ) fun r5 σ4 =>
      if v.2.1 ≤ r5 then
        lt (v.2.2 + Int32.ofInt (1)) fun x7 =>
        k45 (v.1, v.2.1, x7) σ4
      else
        lt (v.2.2 + Int32.ofInt (1)) fun x9 =>
        k45 (v.2.2, r5, x9) σ4) (i3, i4, i5) σ
theorem v_X9_look_45 {g : mm_G} (d : Nat) {a0 : Nat} {i1 : Int32} {i2 : Int32} {i3 : Int32} {i4 : Int32} {i5 : Int32} {σ : mm_S} {res : Int32 × mm_S}  (h_a0 : (mm_K a0).1 = 9) (h : f_X9_look_45 a0 i1 i2 i3 i4 i5 σ = some res) : SV g (d + 6) yy_X9_look 45 [(0, .ref a0), (1, .int i1), (2, .int i2), (3, .int i3), (4, .int i4), (5, .int i5)] [] σ (.int res.1) res.2 := by
  unfold f_X9_look_45 at h
  refine lp_ind (P := fun v σ => SV g (d + 6) yy_X9_look 45 [(0, .ref a0), (1, .int i1), (2, .int i2), (3, .int v.1), (4, .int v.2.1), (5, .int v.2.2)] [] σ (.int res.1) res.2) (fun k45 H45 v σ h => ?_) _ (i3, i4, i5) σ h
  refine e_iload 5 dX9_look_45  rfl ?_
  refine e_bipush (v := (61 : Int32)) dX9_look_47 (by decide) ?_
  refine e_icmp_ge 81 dX9_look_49 (by decide) (fun c1 => ?_) (fun c1 => ?_)
  · rw [if_pos c1] at h
    refine e_iload_n 1 dX9_look_81 rfl rfl ?_
    refine e_if_ne 89 dX9_look_82 (by decide) (fun c2 => ?_) (fun c2 => ?_)
    · rw [if_neg c2] at h
      refine e_iload 4 dX9_look_89  rfl ?_
      obtain rfl := Option.some.inj h
      exact s_ret rfl ⟨_, rfl, rfl⟩ dX9_look_91
    · rw [if_pos c2] at h
      refine e_iload_n 3 dX9_look_85 rfl rfl ?_
      refine e_goto 91 dX9_look_86 (by decide) ?_
      obtain rfl := Option.some.inj h
      exact s_ret rfl ⟨_, rfl, rfl⟩ dX9_look_91
  · rw [if_neg c1] at h
    refine e_aload_n 0 dX9_look_52 rfl rfl ?_
    refine e_iload_n 2 dX9_look_53 rfl rfl ?_
    refine e_iload 5 dX9_look_54  rfl ?_
    obtain ⟨r5, σ4, q3, h⟩ := bd_some h
    refine s_callVi [.int i2, .int v.2.2] dX9_look_56 ml_RX9_275 h_a0 ⟨_, rfl, by decide⟩ rfl (v_X9_mostAlike (d + 4) h_a0 q3) (Nat.le_of_ble_eq_true rfl) ?_
    refine e_istore (L' := [(0, .ref a0), (1, .int i1), (2, .int i2), (3, .int v.1), (4, .int v.2.1), (5, .int v.2.2), (6, .int r5)]) dX9_look_59  (by decide) rfl ?_
    refine e_iload 6 dX9_look_61  rfl ?_
    refine e_iload 4 dX9_look_63  rfl ?_
    refine e_icmp_ge 75 dX9_look_65 (by decide) (fun c6 => ?_) (fun c6 => ?_)
    · rw [if_pos c6] at h
      obtain ⟨x7, q8, h⟩ := lt_some h
      refine e_iinc (v := x7) (L' := [(0, .ref a0), (1, .int i1), (2, .int i2), (3, .int v.1), (4, .int v.2.1), (5, .int x7), (6, .int r5)]) 5 dX9_look_75 rfl q8.symm (by decide) rfl ?_
      refine e_goto 45 dX9_look_78 (by decide) ?_
      refine s_pick (L' := [(0, .ref a0), (1, .int i1), (2, .int i2), (3, .int v.1), (4, .int v.2.1), (5, .int x7)]) [0, 1, 2, 3, 4, 5] rfl ?_
      exact H45 (v.1, v.2.1, x7) σ4 h
    · rw [if_neg c6] at h
      refine e_iload 6 dX9_look_68  rfl ?_
      refine e_istore (L' := [(0, .ref a0), (1, .int i1), (2, .int i2), (3, .int v.1), (4, .int r5), (5, .int v.2.2), (6, .int r5)]) dX9_look_70  (by decide) rfl ?_
      refine e_iload 5 dX9_look_72  rfl ?_
      refine e_istore_n (L' := [(0, .ref a0), (1, .int i1), (2, .int i2), (3, .int v.2.2), (4, .int r5), (5, .int v.2.2), (6, .int r5)]) dX9_look_74 rfl (by decide) rfl ?_
      obtain ⟨x9, q10, h⟩ := lt_some h
      refine e_iinc (v := x9) (L' := [(0, .ref a0), (1, .int i1), (2, .int i2), (3, .int v.2.2), (4, .int r5), (5, .int x9), (6, .int r5)]) 5 dX9_look_75 rfl q10.symm (by decide) rfl ?_
      refine e_goto 45 dX9_look_78 (by decide) ?_
      refine s_pick (L' := [(0, .ref a0), (1, .int i1), (2, .int i2), (3, .int v.2.2), (4, .int r5), (5, .int x9)]) [0, 1, 2, 3, 4, 5] rfl ?_
      exact H45 (v.2.2, r5, x9) σ4 h
def f_X9_look (a0 : Nat) (i1 : Int32) (σ : mm_S) : Option (Int32 × mm_S) :=
    if (σ.1 (26 + 1) 0) = 0 then
      some ((-1 : Int32), σ)
    else
      if i1 < 0 then
        some ((-1 : Int32), σ)
      else
        if i1 ≤ (1 : Int32) then
          bd (f_X9_fittingRules a0 σ) fun r23 σ22 =>
          if r23 = 0 then
            some ((-2 : Int32), σ22)
          else
            f_X9_look_45 a0 i1 r23 (0 : Int32) (8 : Int32) (0 : Int32) σ22
        else
          some ((-1 : Int32), σ)
theorem v_X9_look {g : mm_G} (d : Nat) {a0 : Nat} {i1 : Int32} {σ : mm_S} {res : Int32 × mm_S} (h_a0 : (mm_K a0).1 = 9) (h : f_X9_look a0 i1 σ = some res) : SM g (d + 6) yy_X9_look [.ref a0, .int i1] σ (.int res.1) res.2 := by
  refine s_of (by decide) (Nat.le_of_ble_eq_true rfl) (L := [(0, .ref a0), (1, .int i1)]) rfl ?_
  unfold f_X9_look at h
  refine e_aload_n 0 dX9_look_0 rfl rfl ?_
  refine s_getr dX9_look_1 fl_RX9_50 h_a0 (r_9_5 h_a0).1 ?_
  refine s_getr dX9_look_4 fl_RX9_71 (ka_1 (r_9_5 (w := 0) h_a0).2) (r_8_0 (ka_1 (r_9_5 (w := 0) h_a0).2)).1 ?_
  refine s_geti dX9_look_7 fl_RX9_188 (ka_1 (r_8_0 (w := 0) (ka_1 (r_9_5 (w := 0) h_a0).2)).2) ?_
  refine e_if_eq 22 dX9_look_10 (by decide) (fun c18 => ?_) (fun c18 => ?_)
  · rw [if_pos c18] at h
    refine e_iconst (v := (-1 : Int32)) dX9_look_22 (by decide) ?_
    obtain rfl := Option.some.inj h
    exact s_ret rfl ⟨_, rfl, rfl⟩ dX9_look_23
  · rw [if_neg c18] at h
    refine e_iload_n 1 dX9_look_13 rfl rfl ?_
    refine e_if_lt 22 dX9_look_14 (by decide) (fun c19 => ?_) (fun c19 => ?_)
    · rw [if_pos c19] at h
      refine e_iconst (v := (-1 : Int32)) dX9_look_22 (by decide) ?_
      obtain rfl := Option.some.inj h
      exact s_ret rfl ⟨_, rfl, rfl⟩ dX9_look_23
    · rw [if_neg c19] at h
      refine e_iload_n 1 dX9_look_17 rfl rfl ?_
      refine e_iconst (v := (1 : Int32)) dX9_look_18 (by decide) ?_
      refine e_icmp_le 24 dX9_look_19 (by decide) (fun c20 => ?_) (fun c20 => ?_)
      · rw [if_pos c20] at h
        refine e_aload_n 0 dX9_look_24 rfl rfl ?_
        obtain ⟨r23, σ22, q21, h⟩ := bd_some h
        refine s_callVi [] dX9_look_25 ml_RX9_269 h_a0 ⟨_, rfl, by decide⟩ rfl (v_X9_fittingRules (d + 0) h_a0 q21) (Nat.le_of_ble_eq_true rfl) ?_
        refine e_istore_n (L' := [(0, .ref a0), (1, .int i1), (2, .int r23)]) dX9_look_28 rfl (by decide) rfl ?_
        refine e_iload_n 2 dX9_look_29 rfl rfl ?_
        refine e_if_ne 36 dX9_look_30 (by decide) (fun c24 => ?_) (fun c24 => ?_)
        · rw [if_neg c24] at h
          refine e_iconst (v := (0 : Int32)) dX9_look_36 (by decide) ?_
          refine e_istore_n (L' := [(0, .ref a0), (1, .int i1), (2, .int r23), (3, .int (0 : Int32))]) dX9_look_37 rfl (by decide) rfl ?_
          refine e_bipush (v := (8 : Int32)) dX9_look_38 (by decide) ?_
          refine e_istore (L' := [(0, .ref a0), (1, .int i1), (2, .int r23), (3, .int (0 : Int32)), (4, .int (8 : Int32))]) dX9_look_40  (by decide) rfl ?_
          refine e_iconst (v := (0 : Int32)) dX9_look_42 (by decide) ?_
          refine e_istore (L' := [(0, .ref a0), (1, .int i1), (2, .int r23), (3, .int (0 : Int32)), (4, .int (8 : Int32)), (5, .int (0 : Int32))]) dX9_look_43  (by decide) rfl ?_
          refine s_pick (L' := [(0, .ref a0), (1, .int i1), (2, .int r23), (3, .int (0 : Int32)), (4, .int (8 : Int32)), (5, .int (0 : Int32))]) [0, 1, 2, 3, 4, 5] rfl ?_
          exact v_X9_look_45 d h_a0 h
        · rw [if_pos c24] at h
          refine e_bipush (v := (-2 : Int32)) dX9_look_33 (by decide) ?_
          obtain rfl := Option.some.inj h
          exact s_ret rfl ⟨_, rfl, rfl⟩ dX9_look_35
      · rw [if_neg c20] at h
        refine e_iconst (v := (-1 : Int32)) dX9_look_22 (by decide) ?_
        obtain rfl := Option.some.inj h
        exact s_ret rfl ⟨_, rfl, rfl⟩ dX9_look_23
abbrev yy_X9_seed : mm_Y := (yX9_seed, cX9_seed, 3, (some .int))
theorem dX9_seed_0 : decode cX9_seed 0 = .ok (.iload_n 1, 1) := by decide +kernel
theorem dX9_seed_1 : decode cX9_seed 1 = .ok (.ifCond .ge 5, 3) := by decide +kernel
theorem dX9_seed_4 : decode cX9_seed 4 = .ok (.iconst (-1), 1) := by decide +kernel
theorem dX9_seed_5 : decode cX9_seed 5 = .ok (.ireturn, 1) := by decide +kernel
theorem dX9_seed_6 : decode cX9_seed 6 = .ok (.aload_n 0, 1) := by decide +kernel
theorem dX9_seed_7 : decode cX9_seed 7 = .ok (.getfield 50, 3) := by decide +kernel
theorem dX9_seed_10 : decode cX9_seed 10 = .ok (.getfield 185, 3) := by decide +kernel
theorem dX9_seed_13 : decode cX9_seed 13 = .ok (.istore_n 2, 1) := by decide +kernel
theorem dX9_seed_14 : decode cX9_seed 14 = .ok (.aload_n 0, 1) := by decide +kernel
theorem dX9_seed_15 : decode cX9_seed 15 = .ok (.getfield 50, 3) := by decide +kernel
theorem dX9_seed_18 : decode cX9_seed 18 = .ok (.iload_n 1, 1) := by decide +kernel
theorem dX9_seed_19 : decode cX9_seed 19 = .ok (.putfield 185, 3) := by decide +kernel
theorem dX9_seed_22 : decode cX9_seed 22 = .ok (.iload_n 2, 1) := by decide +kernel
theorem dX9_seed_23 : decode cX9_seed 23 = .ok (.ireturn, 1) := by decide +kernel
def f_X9_seed (a0 : Nat) (i1 : Int32) (σ : mm_S) : Option (Int32 × mm_S) :=
    if 0 ≤ i1 then
      lt ((σ.1 26 4)) fun x7 =>
      lt (su_i σ 26 4 i1) fun σ9 =>
      some (x7, σ9)
    else
      some ((-1 : Int32), σ)
theorem v_X9_seed {g : mm_G} (d : Nat) {a0 : Nat} {i1 : Int32} {σ : mm_S} {res : Int32 × mm_S} (h_a0 : (mm_K a0).1 = 9) (h : f_X9_seed a0 i1 σ = some res) : SM g (d + 0) yy_X9_seed [.ref a0, .int i1] σ (.int res.1) res.2 := by
  refine s_of (by decide) (Nat.le_of_ble_eq_true rfl) (L := [(0, .ref a0), (1, .int i1)]) rfl ?_
  unfold f_X9_seed at h
  refine e_iload_n 1 dX9_seed_0 rfl rfl ?_
  refine e_if_ge 6 dX9_seed_1 (by decide) (fun c6 => ?_) (fun c6 => ?_)
  · rw [if_pos c6] at h
    refine e_aload_n 0 dX9_seed_6 rfl rfl ?_
    refine s_getr dX9_seed_7 fl_RX9_50 h_a0 (r_9_5 h_a0).1 ?_
    refine s_geti dX9_seed_10 fl_RX9_185 (ka_1 (r_9_5 (w := 0) h_a0).2) ?_
    obtain ⟨x7, q8, h⟩ := lt_some h
    refine s_nmi q8 ?_
    refine e_istore_n (L' := [(0, .ref a0), (1, .int i1), (2, .int x7)]) dX9_seed_13 rfl (by decide) rfl ?_
    refine e_aload_n 0 dX9_seed_14 rfl rfl ?_
    refine s_getr dX9_seed_15 fl_RX9_50 h_a0 (r_9_5 h_a0).1 ?_
    refine e_iload_n 1 dX9_seed_18 rfl rfl ?_
    refine s_puti dX9_seed_19 fl_RX9_185 (ka_1 (r_9_5 (w := 0) h_a0).2) rfl rfl rfl ?_
    obtain ⟨σ9, q10, h⟩ := lt_some h
    refine s_nms q10 ?_
    refine e_iload_n 2 dX9_seed_22 rfl rfl ?_
    obtain rfl := Option.some.inj h
    exact s_ret rfl ⟨_, rfl, rfl⟩ dX9_seed_23
  · rw [if_neg c6] at h
    refine e_iconst (v := (-1 : Int32)) dX9_seed_4 (by decide) ?_
    obtain rfl := Option.some.inj h
    exact s_ret rfl ⟨_, rfl, rfl⟩ dX9_seed_5
abbrev yy_X9_strangers : mm_Y := (yX9_strangers, cX9_strangers, 9, (some .int))
theorem dX9_strangers_0 : decode cX9_strangers 0 = .ok (.aload_n 0, 1) := by decide +kernel
theorem dX9_strangers_1 : decode cX9_strangers 1 = .ok (.getfield 50, 3) := by decide +kernel
theorem dX9_strangers_4 : decode cX9_strangers 4 = .ok (.getfield 71, 3) := by decide +kernel
theorem dX9_strangers_7 : decode cX9_strangers 7 = .ok (.getfield 188, 3) := by decide +kernel
theorem dX9_strangers_10 : decode cX9_strangers 10 = .ok (.ifCond .eq 46, 3) := by decide +kernel
theorem dX9_strangers_13 : decode cX9_strangers 13 = .ok (.iload_n 1, 1) := by decide +kernel
theorem dX9_strangers_14 : decode cX9_strangers 14 = .ok (.iconst 1, 1) := by decide +kernel
theorem dX9_strangers_15 : decode cX9_strangers 15 = .ok (.if_icmp .lt 41, 3) := by decide +kernel
theorem dX9_strangers_18 : decode cX9_strangers 18 = .ok (.iload_n 1, 1) := by decide +kernel
theorem dX9_strangers_19 : decode cX9_strangers 19 = .ok (.bipush 10, 2) := by decide +kernel
theorem dX9_strangers_21 : decode cX9_strangers 21 = .ok (.if_icmp .gt 35, 3) := by decide +kernel
theorem dX9_strangers_24 : decode cX9_strangers 24 = .ok (.iload_n 2, 1) := by decide +kernel
theorem dX9_strangers_25 : decode cX9_strangers 25 = .ok (.iconst 1, 1) := by decide +kernel
theorem dX9_strangers_26 : decode cX9_strangers 26 = .ok (.if_icmp .lt 30, 3) := by decide +kernel
theorem dX9_strangers_29 : decode cX9_strangers 29 = .ok (.iload_n 2, 1) := by decide +kernel
theorem dX9_strangers_30 : decode cX9_strangers 30 = .ok (.bipush 60, 2) := by decide +kernel
theorem dX9_strangers_32 : decode cX9_strangers 32 = .ok (.if_icmp .gt 24, 3) := by decide +kernel
theorem dX9_strangers_35 : decode cX9_strangers 35 = .ok (.iload_n 3, 1) := by decide +kernel
theorem dX9_strangers_36 : decode cX9_strangers 36 = .ok (.ifCond .lt 20, 3) := by decide +kernel
theorem dX9_strangers_39 : decode cX9_strangers 39 = .ok (.iload_n 3, 1) := by decide +kernel
theorem dX9_strangers_40 : decode cX9_strangers 40 = .ok (.bipush 100, 2) := by decide +kernel
theorem dX9_strangers_42 : decode cX9_strangers 42 = .ok (.if_icmp .gt 14, 3) := by decide +kernel
theorem dX9_strangers_45 : decode cX9_strangers 45 = .ok (.iload 4, 2) := by decide +kernel
theorem dX9_strangers_47 : decode cX9_strangers 47 = .ok (.ifCond .lt 9, 3) := by decide +kernel
theorem dX9_strangers_50 : decode cX9_strangers 50 = .ok (.iload 4, 2) := by decide +kernel
theorem dX9_strangers_52 : decode cX9_strangers 52 = .ok (.iconst 1, 1) := by decide +kernel
theorem dX9_strangers_53 : decode cX9_strangers 53 = .ok (.if_icmp .le 5, 3) := by decide +kernel
theorem dX9_strangers_56 : decode cX9_strangers 56 = .ok (.iconst (-1), 1) := by decide +kernel
theorem dX9_strangers_57 : decode cX9_strangers 57 = .ok (.ireturn, 1) := by decide +kernel
theorem dX9_strangers_58 : decode cX9_strangers 58 = .ok (.iconst 0, 1) := by decide +kernel
theorem dX9_strangers_59 : decode cX9_strangers 59 = .ok (.istore 5, 2) := by decide +kernel
theorem dX9_strangers_61 : decode cX9_strangers 61 = .ok (.iconst 0, 1) := by decide +kernel
theorem dX9_strangers_62 : decode cX9_strangers 62 = .ok (.istore 6, 2) := by decide +kernel
theorem dX9_strangers_64 : decode cX9_strangers 64 = .ok (.aload_n 0, 1) := by decide +kernel
theorem dX9_strangers_65 : decode cX9_strangers 65 = .ok (.getfield 77, 3) := by decide +kernel
theorem dX9_strangers_68 : decode cX9_strangers 68 = .ok (.aload_n 0, 1) := by decide +kernel
theorem dX9_strangers_69 : decode cX9_strangers 69 = .ok (.getfield 50, 3) := by decide +kernel
theorem dX9_strangers_72 : decode cX9_strangers 72 = .ok (.getfield 185, 3) := by decide +kernel
theorem dX9_strangers_75 : decode cX9_strangers 75 = .ok (.putfield 285, 3) := by decide +kernel
theorem dX9_strangers_78 : decode cX9_strangers 78 = .ok (.iconst 0, 1) := by decide +kernel
theorem dX9_strangers_79 : decode cX9_strangers 79 = .ok (.istore 7, 2) := by decide +kernel
theorem dX9_strangers_81 : decode cX9_strangers 81 = .ok (.iload 7, 2) := by decide +kernel
theorem dX9_strangers_83 : decode cX9_strangers 83 = .ok (.iload_n 1, 1) := by decide +kernel
theorem dX9_strangers_84 : decode cX9_strangers 84 = .ok (.if_icmp .ge 94, 3) := by decide +kernel
theorem dX9_strangers_87 : decode cX9_strangers 87 = .ok (.aload_n 0, 1) := by decide +kernel
theorem dX9_strangers_88 : decode cX9_strangers 88 = .ok (.invokevirtual 196, 3) := by decide +kernel
theorem dX9_strangers_91 : decode cX9_strangers 91 = .ok (.iconst 0, 1) := by decide +kernel
theorem dX9_strangers_92 : decode cX9_strangers 92 = .ok (.istore 8, 2) := by decide +kernel
theorem dX9_strangers_94 : decode cX9_strangers 94 = .ok (.iload 8, 2) := by decide +kernel
theorem dX9_strangers_96 : decode cX9_strangers 96 = .ok (.iload_n 2, 1) := by decide +kernel
theorem dX9_strangers_97 : decode cX9_strangers 97 = .ok (.if_icmp .ge 25, 3) := by decide +kernel
theorem dX9_strangers_100 : decode cX9_strangers 100 = .ok (.aload_n 0, 1) := by decide +kernel
theorem dX9_strangers_101 : decode cX9_strangers 101 = .ok (.getfield 77, 3) := by decide +kernel
theorem dX9_strangers_104 : decode cX9_strangers 104 = .ok (.iload_n 3, 1) := by decide +kernel
theorem dX9_strangers_105 : decode cX9_strangers 105 = .ok (.invokevirtual 286, 3) := by decide +kernel
theorem dX9_strangers_108 : decode cX9_strangers 108 = .ok (.aload_n 0, 1) := by decide +kernel
theorem dX9_strangers_109 : decode cX9_strangers 109 = .ok (.getfield 77, 3) := by decide +kernel
theorem dX9_strangers_112 : decode cX9_strangers 112 = .ok (.iconst 1, 1) := by decide +kernel
theorem dX9_strangers_113 : decode cX9_strangers 113 = .ok (.invokevirtual 199, 3) := by decide +kernel
theorem dX9_strangers_116 : decode cX9_strangers 116 = .ok (.iinc 8 1, 3) := by decide +kernel
theorem dX9_strangers_119 : decode cX9_strangers 119 = .ok (.goto (-25), 3) := by decide +kernel
theorem dX9_strangers_122 : decode cX9_strangers 122 = .ok (.iload 5, 2) := by decide +kernel
theorem dX9_strangers_124 : decode cX9_strangers 124 = .ok (.aload_n 0, 1) := by decide +kernel
theorem dX9_strangers_125 : decode cX9_strangers 125 = .ok (.getfield 77, 3) := by decide +kernel
theorem dX9_strangers_128 : decode cX9_strangers 128 = .ok (.getfield 202, 3) := by decide +kernel
theorem dX9_strangers_131 : decode cX9_strangers 131 = .ok (.getfield 154, 3) := by decide +kernel
theorem dX9_strangers_134 : decode cX9_strangers 134 = .ok (.invokestatic 180, 3) := by decide +kernel
theorem dX9_strangers_137 : decode cX9_strangers 137 = .ok (.aload_n 0, 1) := by decide +kernel
theorem dX9_strangers_138 : decode cX9_strangers 138 = .ok (.getfield 50, 3) := by decide +kernel
theorem dX9_strangers_141 : decode cX9_strangers 141 = .ok (.getfield 107, 3) := by decide +kernel
theorem dX9_strangers_144 : decode cX9_strangers 144 = .ok (.getfield 154, 3) := by decide +kernel
theorem dX9_strangers_147 : decode cX9_strangers 147 = .ok (.invokestatic 180, 3) := by decide +kernel
theorem dX9_strangers_150 : decode cX9_strangers 150 = .ok (.isub, 1) := by decide +kernel
theorem dX9_strangers_151 : decode cX9_strangers 151 = .ok (.iadd, 1) := by decide +kernel
theorem dX9_strangers_152 : decode cX9_strangers 152 = .ok (.istore 5, 2) := by decide +kernel
theorem dX9_strangers_154 : decode cX9_strangers 154 = .ok (.iload 6, 2) := by decide +kernel
theorem dX9_strangers_156 : decode cX9_strangers 156 = .ok (.aload_n 0, 1) := by decide +kernel
theorem dX9_strangers_157 : decode cX9_strangers 157 = .ok (.getfield 77, 3) := by decide +kernel
theorem dX9_strangers_160 : decode cX9_strangers 160 = .ok (.getfield 202, 3) := by decide +kernel
theorem dX9_strangers_163 : decode cX9_strangers 163 = .ok (.getfield 142, 3) := by decide +kernel
theorem dX9_strangers_166 : decode cX9_strangers 166 = .ok (.invokestatic 180, 3) := by decide +kernel
theorem dX9_strangers_169 : decode cX9_strangers 169 = .ok (.iadd, 1) := by decide +kernel
theorem dX9_strangers_170 : decode cX9_strangers 170 = .ok (.istore 6, 2) := by decide +kernel
theorem dX9_strangers_172 : decode cX9_strangers 172 = .ok (.iinc 7 1, 3) := by decide +kernel
theorem dX9_strangers_175 : decode cX9_strangers 175 = .ok (.goto (-94), 3) := by decide +kernel
theorem dX9_strangers_178 : decode cX9_strangers 178 = .ok (.iload 4, 2) := by decide +kernel
theorem dX9_strangers_180 : decode cX9_strangers 180 = .ok (.ifCond .ne 8, 3) := by decide +kernel
theorem dX9_strangers_183 : decode cX9_strangers 183 = .ok (.iload 5, 2) := by decide +kernel
theorem dX9_strangers_185 : decode cX9_strangers 185 = .ok (.goto 5, 3) := by decide +kernel
theorem dX9_strangers_188 : decode cX9_strangers 188 = .ok (.iload 6, 2) := by decide +kernel
theorem dX9_strangers_190 : decode cX9_strangers 190 = .ok (.ireturn, 1) := by decide +kernel
def f_X9_strangers_94 (k81 : (Int32 × Int32 × Int32) → mm_S → Option (Int32 × mm_S)) (a0 : Nat) (i1 : Int32) (i2 : Int32) (i3 : Int32) (i4 : Int32) (i5 : Int32) (i6 : Int32) (i7 : Int32) (i8 : Int32) (σ : mm_S) : Option (Int32 × mm_S) :=
  lp lpN (fun (k94 : (Int32) → mm_S → Option (Int32 × mm_S)) (v : Int32) (σ : mm_S) =>
    if i2 ≤ v then
      bd (f_X9_sum (201 + 4) σ) fun r4 σ3 =>
      bd (f_X9_sum ((26 + 5) + 4) σ3) fun r7 σ6 =>
      lt ((i5 + (r4 - r7))) fun x8 =>
      bd (f_X9_sum (201 + 1) σ6) fun r12 σ11 =>
      lt ((i6 + r12)) fun x13 =>
      lt (i7 + Int32.ofInt (1)) fun x15 =>
      k81 (x8, x13, x15) σ11
    else
      bv (f_X7_drawStranger 200 i3 σ) fun σ18 =>
      bv (f_X7_passHours 200 (1 : Int32) σ18) fun σ20 =>
      lt (v + Int32.ofInt (1)) fun x21 =>
      k94 x21 σ20) i8 σ
theorem v_X9_strangers_94 {g : mm_G} (d : Nat) {k81 : (Int32 × Int32 × Int32) → mm_S → Option (Int32 × mm_S)} {a0 : Nat} {i1 : Int32} {i2 : Int32} {i3 : Int32} {i4 : Int32} {i5 : Int32} {i6 : Int32} {i7 : Int32} {i8 : Int32} {σ : mm_S} {res : Int32 × mm_S} (H81 : ∀ v σ, k81 v σ = some res → SV g (d + 5) yy_X9_strangers 81 [(0, .ref a0), (1, .int i1), (2, .int i2), (3, .int i3), (4, .int i4), (5, .int v.1), (6, .int v.2.1), (7, .int v.2.2)] [] σ (.int res.1) res.2) (h_a0 : (mm_K a0).1 = 9) (h : f_X9_strangers_94 k81 a0 i1 i2 i3 i4 i5 i6 i7 i8 σ = some res) : SV g (d + 5) yy_X9_strangers 94 [(0, .ref a0), (1, .int i1), (2, .int i2), (3, .int i3), (4, .int i4), (5, .int i5), (6, .int i6), (7, .int i7), (8, .int i8)] [] σ (.int res.1) res.2 := by
  unfold f_X9_strangers_94 at h
  refine lp_ind (P := fun v σ => SV g (d + 5) yy_X9_strangers 94 [(0, .ref a0), (1, .int i1), (2, .int i2), (3, .int i3), (4, .int i4), (5, .int i5), (6, .int i6), (7, .int i7), (8, .int v)] [] σ (.int res.1) res.2) (fun k94 H94 v σ h => ?_) _ i8 σ h
  refine e_iload 8 dX9_strangers_94  rfl ?_
  refine e_iload_n 2 dX9_strangers_96 rfl rfl ?_
  refine e_icmp_ge 122 dX9_strangers_97 (by decide) (fun c1 => ?_) (fun c1 => ?_)
  · rw [if_pos c1] at h
    refine e_iload 5 dX9_strangers_122  rfl ?_
    refine e_aload_n 0 dX9_strangers_124 rfl rfl ?_
    refine s_getr dX9_strangers_125 fl_RX9_77 h_a0 (r_9_9 h_a0).1 ?_
    refine s_getr dX9_strangers_128 fl_RX9_202 (ka_1 (r_9_9 (w := 0) h_a0).2) (r_7_1 (ka_1 (r_9_9 (w := 0) h_a0).2)).1 ?_
    refine s_getr dX9_strangers_131 fl_RX9_154 (ka_1 (r_7_1 (w := 0) (ka_1 (r_9_9 (w := 0) h_a0).2)).2) (r_2_5 (ka_1 (r_7_1 (w := 0) (ka_1 (r_9_9 (w := 0) h_a0).2)).2)).1 ?_
    obtain ⟨r4, σ3, q2, h⟩ := bd_some h
    refine s_callSi [.ref (201 + 4)] dX9_strangers_134 ml_RX9_180 ⟨_, rfl, by decide⟩ rfl (v_X9_sum (d + 4) (ka_1 (r_2_5 (w := 0) (ka_1 (r_7_1 (w := 0) (ka_1 (r_9_9 (w := 0) h_a0).2)).2)).2) q2) (Nat.le_of_ble_eq_true rfl) ?_
    refine e_aload_n 0 dX9_strangers_137 rfl rfl ?_
    refine s_getr dX9_strangers_138 fl_RX9_50 h_a0 (r_9_5 h_a0).1 ?_
    refine s_getr dX9_strangers_141 fl_RX9_107 (ka_1 (r_9_5 (w := 0) h_a0).2) (r_8_1 (ka_1 (r_9_5 (w := 0) h_a0).2)).1 ?_
    refine s_getr dX9_strangers_144 fl_RX9_154 (ka_1 (r_8_1 (w := 0) (ka_1 (r_9_5 (w := 0) h_a0).2)).2) (r_2_5 (ka_1 (r_8_1 (w := 0) (ka_1 (r_9_5 (w := 0) h_a0).2)).2)).1 ?_
    obtain ⟨r7, σ6, q5, h⟩ := bd_some h
    refine s_callSi [.ref ((26 + 5) + 4)] dX9_strangers_147 ml_RX9_180 ⟨_, rfl, by decide⟩ rfl (v_X9_sum (d + 4) (ka_1 (r_2_5 (w := 0) (ka_1 (r_8_1 (w := 0) (ka_1 (r_9_5 (w := 0) h_a0).2)).2)).2) q5) (Nat.le_of_ble_eq_true rfl) ?_
    refine e_isub dX9_strangers_150 ?_
    refine e_iadd dX9_strangers_151 ?_
    obtain ⟨x8, q9, h⟩ := lt_some h
    refine s_nmi q9 ?_
    refine e_istore (L' := [(0, .ref a0), (1, .int i1), (2, .int i2), (3, .int i3), (4, .int i4), (5, .int x8), (6, .int i6), (7, .int i7), (8, .int v)]) dX9_strangers_152  (by decide) rfl ?_
    refine e_iload 6 dX9_strangers_154  rfl ?_
    refine e_aload_n 0 dX9_strangers_156 rfl rfl ?_
    refine s_getr dX9_strangers_157 fl_RX9_77 h_a0 (r_9_9 h_a0).1 ?_
    refine s_getr dX9_strangers_160 fl_RX9_202 (ka_1 (r_9_9 (w := 0) h_a0).2) (r_7_1 (ka_1 (r_9_9 (w := 0) h_a0).2)).1 ?_
    refine s_getr dX9_strangers_163 fl_RX9_142 (ka_1 (r_7_1 (w := 0) (ka_1 (r_9_9 (w := 0) h_a0).2)).2) (r_2_2 (ka_1 (r_7_1 (w := 0) (ka_1 (r_9_9 (w := 0) h_a0).2)).2)).1 ?_
    obtain ⟨r12, σ11, q10, h⟩ := bd_some h
    refine s_callSi [.ref (201 + 1)] dX9_strangers_166 ml_RX9_180 ⟨_, rfl, by decide⟩ rfl (v_X9_sum (d + 4) (ka_1 (r_2_2 (w := 0) (ka_1 (r_7_1 (w := 0) (ka_1 (r_9_9 (w := 0) h_a0).2)).2)).2) q10) (Nat.le_of_ble_eq_true rfl) ?_
    refine e_iadd dX9_strangers_169 ?_
    obtain ⟨x13, q14, h⟩ := lt_some h
    refine s_nmi q14 ?_
    refine e_istore (L' := [(0, .ref a0), (1, .int i1), (2, .int i2), (3, .int i3), (4, .int i4), (5, .int x8), (6, .int x13), (7, .int i7), (8, .int v)]) dX9_strangers_170  (by decide) rfl ?_
    obtain ⟨x15, q16, h⟩ := lt_some h
    refine e_iinc (v := x15) (L' := [(0, .ref a0), (1, .int i1), (2, .int i2), (3, .int i3), (4, .int i4), (5, .int x8), (6, .int x13), (7, .int x15), (8, .int v)]) 7 dX9_strangers_172 rfl q16.symm (by decide) rfl ?_
    refine e_goto 81 dX9_strangers_175 (by decide) ?_
    refine s_pick (L' := [(0, .ref a0), (1, .int i1), (2, .int i2), (3, .int i3), (4, .int i4), (5, .int x8), (6, .int x13), (7, .int x15)]) [0, 1, 2, 3, 4, 5, 6, 7] rfl ?_
    exact H81 (x8, x13, x15) σ11 h
  · rw [if_neg c1] at h
    refine e_aload_n 0 dX9_strangers_100 rfl rfl ?_
    refine s_getr dX9_strangers_101 fl_RX9_77 h_a0 (r_9_9 h_a0).1 ?_
    refine e_iload_n 3 dX9_strangers_104 rfl rfl ?_
    obtain ⟨σ18, q17, h⟩ := bv_some h
    refine s_callVv [.int i3] dX9_strangers_105 ml_RX9_286 (ka_1 (r_9_9 (w := 0) h_a0).2) rfl rfl (v_X7_drawStranger (d + 3) (ka_1 (r_9_9 (w := 0) h_a0).2) q17) (Nat.le_of_ble_eq_true rfl) ?_
    refine e_aload_n 0 dX9_strangers_108 rfl rfl ?_
    refine s_getr dX9_strangers_109 fl_RX9_77 h_a0 (r_9_9 h_a0).1 ?_
    refine e_iconst (v := (1 : Int32)) dX9_strangers_112 (by decide) ?_
    obtain ⟨σ20, q19, h⟩ := bv_some h
    refine s_callVv [.int (1 : Int32)] dX9_strangers_113 ml_RX9_199 (ka_1 (r_9_9 (w := 0) h_a0).2) rfl rfl (v_X7_passHours (d + 0) (ka_1 (r_9_9 (w := 0) h_a0).2) q19) (Nat.le_of_ble_eq_true rfl) ?_
    obtain ⟨x21, q22, h⟩ := lt_some h
    refine e_iinc (v := x21) (L' := [(0, .ref a0), (1, .int i1), (2, .int i2), (3, .int i3), (4, .int i4), (5, .int i5), (6, .int i6), (7, .int i7), (8, .int x21)]) 8 dX9_strangers_116 rfl q22.symm (by decide) rfl ?_
    refine e_goto 94 dX9_strangers_119 (by decide) ?_
    refine s_pick (L' := [(0, .ref a0), (1, .int i1), (2, .int i2), (3, .int i3), (4, .int i4), (5, .int i5), (6, .int i6), (7, .int i7), (8, .int x21)]) [0, 1, 2, 3, 4, 5, 6, 7, 8] rfl ?_
    exact H94 x21 σ20 h
def f_X9_strangers_81 (a0 : Nat) (i1 : Int32) (i2 : Int32) (i3 : Int32) (i4 : Int32) (i5 : Int32) (i6 : Int32) (i7 : Int32) (σ : mm_S) : Option (Int32 × mm_S) :=
  lp lpN (fun (k81 : (Int32 × Int32 × Int32) → mm_S → Option (Int32 × mm_S)) (v : Int32 × Int32 × Int32) (σ : mm_S) =>
    if i1 ≤ v.2.2 then
      if i4 = 0 then
        some (v.1, σ)
      else
        some (v.2.1, σ)
    else
      bv (f_X9_walkFromNow a0 σ) fun σ26 =>
      f_X9_strangers_94 k81 a0 i1 i2 i3 i4 v.1 v.2.1 v.2.2 (0 : Int32) σ26) (i5, i6, i7) σ
theorem v_X9_strangers_81 {g : mm_G} (d : Nat) {a0 : Nat} {i1 : Int32} {i2 : Int32} {i3 : Int32} {i4 : Int32} {i5 : Int32} {i6 : Int32} {i7 : Int32} {σ : mm_S} {res : Int32 × mm_S}  (h_a0 : (mm_K a0).1 = 9) (h : f_X9_strangers_81 a0 i1 i2 i3 i4 i5 i6 i7 σ = some res) : SV g (d + 5) yy_X9_strangers 81 [(0, .ref a0), (1, .int i1), (2, .int i2), (3, .int i3), (4, .int i4), (5, .int i5), (6, .int i6), (7, .int i7)] [] σ (.int res.1) res.2 := by
  unfold f_X9_strangers_81 at h
  refine lp_ind (P := fun v σ => SV g (d + 5) yy_X9_strangers 81 [(0, .ref a0), (1, .int i1), (2, .int i2), (3, .int i3), (4, .int i4), (5, .int v.1), (6, .int v.2.1), (7, .int v.2.2)] [] σ (.int res.1) res.2) (fun k81 H81 v σ h => ?_) _ (i5, i6, i7) σ h
  refine e_iload 7 dX9_strangers_81  rfl ?_
  refine e_iload_n 1 dX9_strangers_83 rfl rfl ?_
  refine e_icmp_ge 178 dX9_strangers_84 (by decide) (fun c23 => ?_) (fun c23 => ?_)
  · rw [if_pos c23] at h
    refine e_iload 4 dX9_strangers_178  rfl ?_
    refine e_if_ne 188 dX9_strangers_180 (by decide) (fun c24 => ?_) (fun c24 => ?_)
    · rw [if_neg c24] at h
      refine e_iload 6 dX9_strangers_188  rfl ?_
      obtain rfl := Option.some.inj h
      exact s_ret rfl ⟨_, rfl, rfl⟩ dX9_strangers_190
    · rw [if_pos c24] at h
      refine e_iload 5 dX9_strangers_183  rfl ?_
      refine e_goto 190 dX9_strangers_185 (by decide) ?_
      obtain rfl := Option.some.inj h
      exact s_ret rfl ⟨_, rfl, rfl⟩ dX9_strangers_190
  · rw [if_neg c23] at h
    refine e_aload_n 0 dX9_strangers_87 rfl rfl ?_
    obtain ⟨σ26, q25, h⟩ := bv_some h
    refine s_callVv [] dX9_strangers_88 ml_RX9_196 h_a0 rfl rfl (v_X9_walkFromNow (d + 1) h_a0 q25) (Nat.le_of_ble_eq_true rfl) ?_
    refine e_iconst (v := (0 : Int32)) dX9_strangers_91 (by decide) ?_
    refine e_istore (L' := [(0, .ref a0), (1, .int i1), (2, .int i2), (3, .int i3), (4, .int i4), (5, .int v.1), (6, .int v.2.1), (7, .int v.2.2), (8, .int (0 : Int32))]) dX9_strangers_92  (by decide) rfl ?_
    refine s_pick (L' := [(0, .ref a0), (1, .int i1), (2, .int i2), (3, .int i3), (4, .int i4), (5, .int v.1), (6, .int v.2.1), (7, .int v.2.2), (8, .int (0 : Int32))]) [0, 1, 2, 3, 4, 5, 6, 7, 8] rfl ?_
    exact v_X9_strangers_94 d H81 h_a0 h
def f_X9_strangers (a0 : Nat) (i1 : Int32) (i2 : Int32) (i3 : Int32) (i4 : Int32) (σ : mm_S) : Option (Int32 × mm_S) :=
    if (σ.1 (26 + 1) 0) = 0 then
      some ((-1 : Int32), σ)
    else
      if i1 < (1 : Int32) then
        some ((-1 : Int32), σ)
      else
        if (10 : Int32) < i1 then
          some ((-1 : Int32), σ)
        else
          if i2 < (1 : Int32) then
            some ((-1 : Int32), σ)
          else
            if (60 : Int32) < i2 then
              some ((-1 : Int32), σ)
            else
              if i3 < 0 then
                some ((-1 : Int32), σ)
              else
                if (100 : Int32) < i3 then
                  some ((-1 : Int32), σ)
                else
                  if i4 < 0 then
                    some ((-1 : Int32), σ)
                  else
                    if i4 ≤ (1 : Int32) then
                      lt (su_i σ 200 7 (σ.1 26 4)) fun σ47 =>
                      f_X9_strangers_81 a0 i1 i2 i3 i4 (0 : Int32) (0 : Int32) (0 : Int32) σ47
                    else
                      some ((-1 : Int32), σ)
theorem v_X9_strangers {g : mm_G} (d : Nat) {a0 : Nat} {i1 : Int32} {i2 : Int32} {i3 : Int32} {i4 : Int32} {σ : mm_S} {res : Int32 × mm_S} (h_a0 : (mm_K a0).1 = 9) (h : f_X9_strangers a0 i1 i2 i3 i4 σ = some res) : SM g (d + 5) yy_X9_strangers [.ref a0, .int i1, .int i2, .int i3, .int i4] σ (.int res.1) res.2 := by
  refine s_of (by decide) (Nat.le_of_ble_eq_true rfl) (L := [(0, .ref a0), (1, .int i1), (2, .int i2), (3, .int i3), (4, .int i4)]) rfl ?_
  unfold f_X9_strangers at h
  refine e_aload_n 0 dX9_strangers_0 rfl rfl ?_
  refine s_getr dX9_strangers_1 fl_RX9_50 h_a0 (r_9_5 h_a0).1 ?_
  refine s_getr dX9_strangers_4 fl_RX9_71 (ka_1 (r_9_5 (w := 0) h_a0).2) (r_8_0 (ka_1 (r_9_5 (w := 0) h_a0).2)).1 ?_
  refine s_geti dX9_strangers_7 fl_RX9_188 (ka_1 (r_8_0 (w := 0) (ka_1 (r_9_5 (w := 0) h_a0).2)).2) ?_
  refine e_if_eq 56 dX9_strangers_10 (by decide) (fun c38 => ?_) (fun c38 => ?_)
  · rw [if_pos c38] at h
    refine e_iconst (v := (-1 : Int32)) dX9_strangers_56 (by decide) ?_
    obtain rfl := Option.some.inj h
    exact s_ret rfl ⟨_, rfl, rfl⟩ dX9_strangers_57
  · rw [if_neg c38] at h
    refine e_iload_n 1 dX9_strangers_13 rfl rfl ?_
    refine e_iconst (v := (1 : Int32)) dX9_strangers_14 (by decide) ?_
    refine e_icmp_lt 56 dX9_strangers_15 (by decide) (fun c39 => ?_) (fun c39 => ?_)
    · rw [if_pos c39] at h
      refine e_iconst (v := (-1 : Int32)) dX9_strangers_56 (by decide) ?_
      obtain rfl := Option.some.inj h
      exact s_ret rfl ⟨_, rfl, rfl⟩ dX9_strangers_57
    · rw [if_neg c39] at h
      refine e_iload_n 1 dX9_strangers_18 rfl rfl ?_
      refine e_bipush (v := (10 : Int32)) dX9_strangers_19 (by decide) ?_
      refine e_icmp_gt 56 dX9_strangers_21 (by decide) (fun c40 => ?_) (fun c40 => ?_)
      · rw [if_pos c40] at h
        refine e_iconst (v := (-1 : Int32)) dX9_strangers_56 (by decide) ?_
        obtain rfl := Option.some.inj h
        exact s_ret rfl ⟨_, rfl, rfl⟩ dX9_strangers_57
      · rw [if_neg c40] at h
        refine e_iload_n 2 dX9_strangers_24 rfl rfl ?_
        refine e_iconst (v := (1 : Int32)) dX9_strangers_25 (by decide) ?_
        refine e_icmp_lt 56 dX9_strangers_26 (by decide) (fun c41 => ?_) (fun c41 => ?_)
        · rw [if_pos c41] at h
          refine e_iconst (v := (-1 : Int32)) dX9_strangers_56 (by decide) ?_
          obtain rfl := Option.some.inj h
          exact s_ret rfl ⟨_, rfl, rfl⟩ dX9_strangers_57
        · rw [if_neg c41] at h
          refine e_iload_n 2 dX9_strangers_29 rfl rfl ?_
          refine e_bipush (v := (60 : Int32)) dX9_strangers_30 (by decide) ?_
          refine e_icmp_gt 56 dX9_strangers_32 (by decide) (fun c42 => ?_) (fun c42 => ?_)
          · rw [if_pos c42] at h
            refine e_iconst (v := (-1 : Int32)) dX9_strangers_56 (by decide) ?_
            obtain rfl := Option.some.inj h
            exact s_ret rfl ⟨_, rfl, rfl⟩ dX9_strangers_57
          · rw [if_neg c42] at h
            refine e_iload_n 3 dX9_strangers_35 rfl rfl ?_
            refine e_if_lt 56 dX9_strangers_36 (by decide) (fun c43 => ?_) (fun c43 => ?_)
            · rw [if_pos c43] at h
              refine e_iconst (v := (-1 : Int32)) dX9_strangers_56 (by decide) ?_
              obtain rfl := Option.some.inj h
              exact s_ret rfl ⟨_, rfl, rfl⟩ dX9_strangers_57
            · rw [if_neg c43] at h
              refine e_iload_n 3 dX9_strangers_39 rfl rfl ?_
              refine e_bipush (v := (100 : Int32)) dX9_strangers_40 (by decide) ?_
              refine e_icmp_gt 56 dX9_strangers_42 (by decide) (fun c44 => ?_) (fun c44 => ?_)
              · rw [if_pos c44] at h
                refine e_iconst (v := (-1 : Int32)) dX9_strangers_56 (by decide) ?_
                obtain rfl := Option.some.inj h
                exact s_ret rfl ⟨_, rfl, rfl⟩ dX9_strangers_57
              · rw [if_neg c44] at h
                refine e_iload 4 dX9_strangers_45  rfl ?_
                refine e_if_lt 56 dX9_strangers_47 (by decide) (fun c45 => ?_) (fun c45 => ?_)
                · rw [if_pos c45] at h
                  refine e_iconst (v := (-1 : Int32)) dX9_strangers_56 (by decide) ?_
                  obtain rfl := Option.some.inj h
                  exact s_ret rfl ⟨_, rfl, rfl⟩ dX9_strangers_57
                · rw [if_neg c45] at h
                  refine e_iload 4 dX9_strangers_50  rfl ?_
                  refine e_iconst (v := (1 : Int32)) dX9_strangers_52 (by decide) ?_
                  refine e_icmp_le 58 dX9_strangers_53 (by decide) (fun c46 => ?_) (fun c46 => ?_)
                  · rw [if_pos c46] at h
                    refine e_iconst (v := (0 : Int32)) dX9_strangers_58 (by decide) ?_
                    refine e_istore (L' := [(0, .ref a0), (1, .int i1), (2, .int i2), (3, .int i3), (4, .int i4), (5, .int (0 : Int32))]) dX9_strangers_59  (by decide) rfl ?_
                    refine e_iconst (v := (0 : Int32)) dX9_strangers_61 (by decide) ?_
                    refine e_istore (L' := [(0, .ref a0), (1, .int i1), (2, .int i2), (3, .int i3), (4, .int i4), (5, .int (0 : Int32)), (6, .int (0 : Int32))]) dX9_strangers_62  (by decide) rfl ?_
                    refine e_aload_n 0 dX9_strangers_64 rfl rfl ?_
                    refine s_getr dX9_strangers_65 fl_RX9_77 h_a0 (r_9_9 h_a0).1 ?_
                    refine e_aload_n 0 dX9_strangers_68 rfl rfl ?_
                    refine s_getr dX9_strangers_69 fl_RX9_50 h_a0 (r_9_5 h_a0).1 ?_
                    refine s_geti dX9_strangers_72 fl_RX9_185 (ka_1 (r_9_5 (w := 0) h_a0).2) ?_
                    refine s_puti dX9_strangers_75 fl_RX9_285 (ka_1 (r_9_9 (w := 0) h_a0).2) rfl rfl rfl ?_
                    obtain ⟨σ47, q48, h⟩ := lt_some h
                    refine s_nms q48 ?_
                    refine e_iconst (v := (0 : Int32)) dX9_strangers_78 (by decide) ?_
                    refine e_istore (L' := [(0, .ref a0), (1, .int i1), (2, .int i2), (3, .int i3), (4, .int i4), (5, .int (0 : Int32)), (6, .int (0 : Int32)), (7, .int (0 : Int32))]) dX9_strangers_79  (by decide) rfl ?_
                    refine s_pick (L' := [(0, .ref a0), (1, .int i1), (2, .int i2), (3, .int i3), (4, .int i4), (5, .int (0 : Int32)), (6, .int (0 : Int32)), (7, .int (0 : Int32))]) [0, 1, 2, 3, 4, 5, 6, 7] rfl ?_
                    exact v_X9_strangers_81 d h_a0 h
                  · rw [if_neg c46] at h
                    refine e_iconst (v := (-1 : Int32)) dX9_strangers_56 (by decide) ?_
                    obtain rfl := Option.some.inj h
                    exact s_ret rfl ⟨_, rfl, rfl⟩ dX9_strangers_57
