abbrev yy_X10_choice : mm_Y := (yX10_choice, cX10_choice, 8, (some .int))
theorem dX10_choice_0 : decode cX10_choice 0 = .ok (.iconst (-1), 1) := by decide +kernel
theorem dX10_choice_1 : decode cX10_choice 1 = .ok (.istore_n 2, 1) := by decide +kernel
theorem dX10_choice_2 : decode cX10_choice 2 = .ok (.lconst 0, 1) := by decide +kernel
theorem dX10_choice_3 : decode cX10_choice 3 = .ok (.lstore_n 3, 1) := by decide +kernel
theorem dX10_choice_4 : decode cX10_choice 4 = .ok (.iconst 0, 1) := by decide +kernel
theorem dX10_choice_5 : decode cX10_choice 5 = .ok (.istore 5, 2) := by decide +kernel
theorem dX10_choice_7 : decode cX10_choice 7 = .ok (.iload 5, 2) := by decide +kernel
theorem dX10_choice_9 : decode cX10_choice 9 = .ok (.aload_n 0, 1) := by decide +kernel
theorem dX10_choice_10 : decode cX10_choice 10 = .ok (.getfield 39, 3) := by decide +kernel
theorem dX10_choice_13 : decode cX10_choice 13 = .ok (.iconst 3, 1) := by decide +kernel
theorem dX10_choice_14 : decode cX10_choice 14 = .ok (.iaload, 1) := by decide +kernel
theorem dX10_choice_15 : decode cX10_choice 15 = .ok (.if_icmp .ge 43, 3) := by decide +kernel
theorem dX10_choice_18 : decode cX10_choice 18 = .ok (.iload 5, 2) := by decide +kernel
theorem dX10_choice_20 : decode cX10_choice 20 = .ok (.iload_n 1, 1) := by decide +kernel
theorem dX10_choice_21 : decode cX10_choice 21 = .ok (.if_icmp .ne 6, 3) := by decide +kernel
theorem dX10_choice_24 : decode cX10_choice 24 = .ok (.goto 28, 3) := by decide +kernel
theorem dX10_choice_27 : decode cX10_choice 27 = .ok (.aload_n 0, 1) := by decide +kernel
theorem dX10_choice_28 : decode cX10_choice 28 = .ok (.iload_n 1, 1) := by decide +kernel
theorem dX10_choice_29 : decode cX10_choice 29 = .ok (.iload 5, 2) := by decide +kernel
theorem dX10_choice_31 : decode cX10_choice 31 = .ok (.invokevirtual 348, 3) := by decide +kernel
theorem dX10_choice_34 : decode cX10_choice 34 = .ok (.lstore 6, 2) := by decide +kernel
theorem dX10_choice_36 : decode cX10_choice 36 = .ok (.lload 6, 2) := by decide +kernel
theorem dX10_choice_38 : decode cX10_choice 38 = .ok (.lload_n 3, 1) := by decide +kernel
theorem dX10_choice_39 : decode cX10_choice 39 = .ok (.lcmp, 1) := by decide +kernel
theorem dX10_choice_40 : decode cX10_choice 40 = .ok (.ifCond .gt 6, 3) := by decide +kernel
theorem dX10_choice_43 : decode cX10_choice 43 = .ok (.goto 9, 3) := by decide +kernel
theorem dX10_choice_46 : decode cX10_choice 46 = .ok (.iload 5, 2) := by decide +kernel
theorem dX10_choice_48 : decode cX10_choice 48 = .ok (.istore_n 2, 1) := by decide +kernel
theorem dX10_choice_49 : decode cX10_choice 49 = .ok (.lload 6, 2) := by decide +kernel
theorem dX10_choice_51 : decode cX10_choice 51 = .ok (.lstore_n 3, 1) := by decide +kernel
theorem dX10_choice_52 : decode cX10_choice 52 = .ok (.iinc 5 1, 3) := by decide +kernel
theorem dX10_choice_55 : decode cX10_choice 55 = .ok (.goto (-48), 3) := by decide +kernel
theorem dX10_choice_58 : decode cX10_choice 58 = .ok (.iload_n 2, 1) := by decide +kernel
theorem dX10_choice_59 : decode cX10_choice 59 = .ok (.ireturn, 1) := by decide +kernel
def f_X10_choice_7 (a0 : Nat) (i1 : Int32) (i2 : Int32) (j3 : Int64) (i5 : Int32) (σ : mm_S) : Option (Int32 × mm_S) :=
  lp lpN (fun (k7 : (Int32 × Int64 × Int32) → mm_S → Option (Int32 × mm_S)) (v : Int32 × Int64 × Int32) (σ : mm_S) =>
    gd (3 : Int32) 121 <|
    if (σ.1 224 (3 : Int32).toNatClampNeg) ≤ v.2.2 then
      some (v.1, σ)
    else
      if v.2.2 = i1 then
        lt (v.2.2 + Int32.ofInt (1)) fun x12 =>
        k7 (v.1, v.2.1, x12) σ
      else
        bd (f_X10_sumOf a0 i1 v.2.2 σ) fun r6 σ5 =>
        if 0 < (lg_cmp r6 v.2.1) then
          lt (v.2.2 + Int32.ofInt (1)) fun x8 =>
          k7 (v.2.2, r6, x8) σ5
        else
          lt (v.2.2 + Int32.ofInt (1)) fun x10 =>
          k7 (v.1, v.2.1, x10) σ5) (i2, j3, i5) σ
theorem v_X10_choice_7 {g : mm_G} (d : Nat) {a0 : Nat} {i1 : Int32} {i2 : Int32} {j3 : Int64} {i5 : Int32} {σ : mm_S} {res : Int32 × mm_S}  (h_a0 : (mm_K a0).1 = 10) (h : f_X10_choice_7 a0 i1 i2 j3 i5 σ = some res) : SV g (d + 4) yy_X10_choice 7 [(0, .ref a0), (1, .int i1), (2, .int i2), (3, .long j3), (5, .int i5)] [] σ (.int res.1) res.2 := by
  unfold f_X10_choice_7 at h
  refine lp_ind (P := fun v σ => SV g (d + 4) yy_X10_choice 7 [(0, .ref a0), (1, .int i1), (2, .int v.1), (3, .long v.2.1), (5, .int v.2.2)] [] σ (.int res.1) res.2) (fun k7 H7 v σ h => ?_) _ (i2, j3, i5) σ h
  refine e_iload 4 dX10_choice_7  rfl ?_
  refine e_aload_n 0 dX10_choice_9 rfl rfl ?_
  refine s_getr dX10_choice_10 fl_RX10_39 h_a0 (r_10_20 h_a0).1 ?_
  refine e_iconst (v := (3 : Int32)) dX10_choice_13 (by decide) ?_
  obtain ⟨q1, h⟩ := gd_some h
  refine s_iald dX10_choice_14 (r_10_20 (w := 0) h_a0).2 q1 ?_
  refine e_icmp_ge 58 dX10_choice_15 (by decide) (fun c2 => ?_) (fun c2 => ?_)
  · rw [if_pos c2] at h
    refine e_iload_n 2 dX10_choice_58 rfl rfl ?_
    obtain rfl := Option.some.inj h
    exact s_ret rfl ⟨_, rfl, rfl⟩ dX10_choice_59
  · rw [if_neg c2] at h
    refine e_iload 4 dX10_choice_18  rfl ?_
    refine e_iload_n 1 dX10_choice_20 rfl rfl ?_
    refine e_icmp_ne 27 dX10_choice_21 (by decide) (fun c3 => ?_) (fun c3 => ?_)
    · rw [if_neg c3] at h
      refine e_aload_n 0 dX10_choice_27 rfl rfl ?_
      refine e_iload_n 1 dX10_choice_28 rfl rfl ?_
      refine e_iload 4 dX10_choice_29  rfl ?_
      obtain ⟨r6, σ5, q4, h⟩ := bd_some h
      refine s_callVl [.int i1, .int v.2.2] dX10_choice_31 ml_RX10_348 h_a0 rfl rfl (v_X10_sumOf (d + 0) h_a0 q4) (Nat.le_of_ble_eq_true rfl) ?_
      refine e_lstore (L' := [(0, .ref a0), (1, .int i1), (2, .int v.1), (3, .long v.2.1), (5, .int v.2.2), (6, .long r6)]) dX10_choice_34  (by decide) rfl ?_
      refine e_lload 5 dX10_choice_36  rfl ?_
      refine e_lload_n 3 dX10_choice_38 rfl rfl ?_
      refine e_lcmp dX10_choice_39 ?_
      refine e_if_gt 46 dX10_choice_40 (by decide) (fun c7 => ?_) (fun c7 => ?_)
      · rw [if_pos c7] at h
        refine e_iload 4 dX10_choice_46  rfl ?_
        refine e_istore_n (L' := [(0, .ref a0), (1, .int i1), (2, .int v.2.2), (3, .long v.2.1), (5, .int v.2.2), (6, .long r6)]) dX10_choice_48 rfl (by decide) rfl ?_
        refine e_lload 5 dX10_choice_49  rfl ?_
        refine e_lstore_n (L' := [(0, .ref a0), (1, .int i1), (2, .int v.2.2), (3, .long r6), (5, .int v.2.2), (6, .long r6)]) dX10_choice_51 rfl (by decide) rfl ?_
        obtain ⟨x8, q9, h⟩ := lt_some h
        refine e_iinc (v := x8) (L' := [(0, .ref a0), (1, .int i1), (2, .int v.2.2), (3, .long r6), (5, .int x8), (6, .long r6)]) 4 dX10_choice_52 rfl q9.symm (by decide) rfl ?_
        refine e_goto 7 dX10_choice_55 (by decide) ?_
        refine s_pick (L' := [(0, .ref a0), (1, .int i1), (2, .int v.2.2), (3, .long r6), (5, .int x8)]) [0, 1, 2, 3, 4] rfl ?_
        exact H7 (v.2.2, r6, x8) σ5 h
      · rw [if_neg c7] at h
        refine e_goto 52 dX10_choice_43 (by decide) ?_
        obtain ⟨x10, q11, h⟩ := lt_some h
        refine e_iinc (v := x10) (L' := [(0, .ref a0), (1, .int i1), (2, .int v.1), (3, .long v.2.1), (5, .int x10), (6, .long r6)]) 4 dX10_choice_52 rfl q11.symm (by decide) rfl ?_
        refine e_goto 7 dX10_choice_55 (by decide) ?_
        refine s_pick (L' := [(0, .ref a0), (1, .int i1), (2, .int v.1), (3, .long v.2.1), (5, .int x10)]) [0, 1, 2, 3, 4] rfl ?_
        exact H7 (v.1, v.2.1, x10) σ5 h
    · rw [if_pos c3] at h
      refine e_goto 52 dX10_choice_24 (by decide) ?_
      obtain ⟨x12, q13, h⟩ := lt_some h
      refine e_iinc (v := x12) (L' := [(0, .ref a0), (1, .int i1), (2, .int v.1), (3, .long v.2.1), (5, .int x12)]) 4 dX10_choice_52 rfl q13.symm (by decide) rfl ?_
      refine e_goto 7 dX10_choice_55 (by decide) ?_
      refine s_pick (L' := [(0, .ref a0), (1, .int i1), (2, .int v.1), (3, .long v.2.1), (5, .int x12)]) [0, 1, 2, 3, 4] rfl ?_
      exact H7 (v.1, v.2.1, x12) σ h
def f_X10_choice (a0 : Nat) (i1 : Int32) (σ : mm_S) : Option (Int32 × mm_S) :=
    f_X10_choice_7 a0 i1 (-1 : Int32) (0 : Int64) (0 : Int32) σ
theorem v_X10_choice {g : mm_G} (d : Nat) {a0 : Nat} {i1 : Int32} {σ : mm_S} {res : Int32 × mm_S} (h_a0 : (mm_K a0).1 = 10) (h : f_X10_choice a0 i1 σ = some res) : SM g (d + 4) yy_X10_choice [.ref a0, .int i1] σ (.int res.1) res.2 := by
  refine s_of (by decide) (Nat.le_of_ble_eq_true rfl) (L := [(0, .ref a0), (1, .int i1)]) rfl ?_
  unfold f_X10_choice at h
  refine e_iconst (v := (-1 : Int32)) dX10_choice_0 (by decide) ?_
  refine e_istore_n (L' := [(0, .ref a0), (1, .int i1), (2, .int (-1 : Int32))]) dX10_choice_1 rfl (by decide) rfl ?_
  refine e_lconst (v := (0 : Int64)) dX10_choice_2 (by decide) ?_
  refine e_lstore_n (L' := [(0, .ref a0), (1, .int i1), (2, .int (-1 : Int32)), (3, .long (0 : Int64))]) dX10_choice_3 rfl (by decide) rfl ?_
  refine e_iconst (v := (0 : Int32)) dX10_choice_4 (by decide) ?_
  refine e_istore (L' := [(0, .ref a0), (1, .int i1), (2, .int (-1 : Int32)), (3, .long (0 : Int64)), (5, .int (0 : Int32))]) dX10_choice_5  (by decide) rfl ?_
  refine s_pick (L' := [(0, .ref a0), (1, .int i1), (2, .int (-1 : Int32)), (3, .long (0 : Int64)), (5, .int (0 : Int32))]) [0, 1, 2, 3, 4] rfl ?_
  exact v_X10_choice_7 d h_a0 h
abbrev yy_X10_goesIn : mm_Y := (yX10_goesIn, cX10_goesIn, 4, none)
theorem dX10_goesIn_0 : decode cX10_goesIn 0 = .ok (.aload_n 0, 1) := by decide +kernel
theorem dX10_goesIn_1 : decode cX10_goesIn 1 = .ok (.invokevirtual 352, 3) := by decide +kernel
theorem dX10_goesIn_4 : decode cX10_goesIn 4 = .ok (.istore_n 1, 1) := by decide +kernel
theorem dX10_goesIn_5 : decode cX10_goesIn 5 = .ok (.iconst 0, 1) := by decide +kernel
theorem dX10_goesIn_6 : decode cX10_goesIn 6 = .ok (.istore_n 2, 1) := by decide +kernel
theorem dX10_goesIn_7 : decode cX10_goesIn 7 = .ok (.iload_n 2, 1) := by decide +kernel
theorem dX10_goesIn_8 : decode cX10_goesIn 8 = .ok (.aload_n 0, 1) := by decide +kernel
theorem dX10_goesIn_9 : decode cX10_goesIn 9 = .ok (.getfield 39, 3) := by decide +kernel
theorem dX10_goesIn_12 : decode cX10_goesIn 12 = .ok (.iconst 3, 1) := by decide +kernel
theorem dX10_goesIn_13 : decode cX10_goesIn 13 = .ok (.iaload, 1) := by decide +kernel
theorem dX10_goesIn_14 : decode cX10_goesIn 14 = .ok (.if_icmp .ge 86, 3) := by decide +kernel
theorem dX10_goesIn_17 : decode cX10_goesIn 17 = .ok (.iload_n 1, 1) := by decide +kernel
theorem dX10_goesIn_18 : decode cX10_goesIn 18 = .ok (.iload_n 2, 1) := by decide +kernel
theorem dX10_goesIn_19 : decode cX10_goesIn 19 = .ok (.invokestatic 314, 3) := by decide +kernel
theorem dX10_goesIn_22 : decode cX10_goesIn 22 = .ok (.ifCond .ne 11, 3) := by decide +kernel
theorem dX10_goesIn_25 : decode cX10_goesIn 25 = .ok (.iload_n 2, 1) := by decide +kernel
theorem dX10_goesIn_26 : decode cX10_goesIn 26 = .ok (.aload_n 0, 1) := by decide +kernel
theorem dX10_goesIn_27 : decode cX10_goesIn 27 = .ok (.getfield 49, 3) := by decide +kernel
theorem dX10_goesIn_30 : decode cX10_goesIn 30 = .ok (.if_icmp .ne 22, 3) := by decide +kernel
theorem dX10_goesIn_33 : decode cX10_goesIn 33 = .ok (.iload_n 2, 1) := by decide +kernel
theorem dX10_goesIn_34 : decode cX10_goesIn 34 = .ok (.aload_n 0, 1) := by decide +kernel
theorem dX10_goesIn_35 : decode cX10_goesIn 35 = .ok (.getfield 46, 3) := by decide +kernel
theorem dX10_goesIn_38 : decode cX10_goesIn 38 = .ok (.if_icmp .eq 14, 3) := by decide +kernel
theorem dX10_goesIn_41 : decode cX10_goesIn 41 = .ok (.aload_n 0, 1) := by decide +kernel
theorem dX10_goesIn_42 : decode cX10_goesIn 42 = .ok (.invokevirtual 355, 3) := by decide +kernel
theorem dX10_goesIn_45 : decode cX10_goesIn 45 = .ok (.ifCond .ne 7, 3) := by decide +kernel
theorem dX10_goesIn_48 : decode cX10_goesIn 48 = .ok (.iconst 1, 1) := by decide +kernel
theorem dX10_goesIn_49 : decode cX10_goesIn 49 = .ok (.goto 4, 3) := by decide +kernel
theorem dX10_goesIn_52 : decode cX10_goesIn 52 = .ok (.iconst 0, 1) := by decide +kernel
theorem dX10_goesIn_53 : decode cX10_goesIn 53 = .ok (.istore_n 3, 1) := by decide +kernel
theorem dX10_goesIn_54 : decode cX10_goesIn 54 = .ok (.aload_n 0, 1) := by decide +kernel
theorem dX10_goesIn_55 : decode cX10_goesIn 55 = .ok (.getfield 39, 3) := by decide +kernel
theorem dX10_goesIn_58 : decode cX10_goesIn 58 = .ok (.bipush 11, 2) := by decide +kernel
theorem dX10_goesIn_60 : decode cX10_goesIn 60 = .ok (.iconst 5, 1) := by decide +kernel
theorem dX10_goesIn_61 : decode cX10_goesIn 61 = .ok (.iload_n 2, 1) := by decide +kernel
theorem dX10_goesIn_62 : decode cX10_goesIn 62 = .ok (.imul, 1) := by decide +kernel
theorem dX10_goesIn_63 : decode cX10_goesIn 63 = .ok (.iadd, 1) := by decide +kernel
theorem dX10_goesIn_64 : decode cX10_goesIn 64 = .ok (.iconst 2, 1) := by decide +kernel
theorem dX10_goesIn_65 : decode cX10_goesIn 65 = .ok (.iadd, 1) := by decide +kernel
theorem dX10_goesIn_66 : decode cX10_goesIn 66 = .ok (.iload_n 3, 1) := by decide +kernel
theorem dX10_goesIn_67 : decode cX10_goesIn 67 = .ok (.ifCond .eq 7, 3) := by decide +kernel
theorem dX10_goesIn_70 : decode cX10_goesIn 70 = .ok (.iconst 1, 1) := by decide +kernel
theorem dX10_goesIn_71 : decode cX10_goesIn 71 = .ok (.goto 4, 3) := by decide +kernel
theorem dX10_goesIn_74 : decode cX10_goesIn 74 = .ok (.iconst 0, 1) := by decide +kernel
theorem dX10_goesIn_75 : decode cX10_goesIn 75 = .ok (.iastore, 1) := by decide +kernel
theorem dX10_goesIn_76 : decode cX10_goesIn 76 = .ok (.aload_n 0, 1) := by decide +kernel
theorem dX10_goesIn_77 : decode cX10_goesIn 77 = .ok (.getfield 55, 3) := by decide +kernel
theorem dX10_goesIn_80 : decode cX10_goesIn 80 = .ok (.iload_n 2, 1) := by decide +kernel
theorem dX10_goesIn_81 : decode cX10_goesIn 81 = .ok (.aload_n 0, 1) := by decide +kernel
theorem dX10_goesIn_82 : decode cX10_goesIn 82 = .ok (.iload_n 2, 1) := by decide +kernel
theorem dX10_goesIn_83 : decode cX10_goesIn 83 = .ok (.invokevirtual 305, 3) := by decide +kernel
theorem dX10_goesIn_86 : decode cX10_goesIn 86 = .ok (.iastore, 1) := by decide +kernel
theorem dX10_goesIn_87 : decode cX10_goesIn 87 = .ok (.aload_n 0, 1) := by decide +kernel
theorem dX10_goesIn_88 : decode cX10_goesIn 88 = .ok (.getfield 58, 3) := by decide +kernel
theorem dX10_goesIn_91 : decode cX10_goesIn 91 = .ok (.iload_n 2, 1) := by decide +kernel
theorem dX10_goesIn_92 : decode cX10_goesIn 92 = .ok (.iconst 0, 1) := by decide +kernel
theorem dX10_goesIn_93 : decode cX10_goesIn 93 = .ok (.iastore, 1) := by decide +kernel
theorem dX10_goesIn_94 : decode cX10_goesIn 94 = .ok (.iinc 2 1, 3) := by decide +kernel
theorem dX10_goesIn_97 : decode cX10_goesIn 97 = .ok (.goto (-90), 3) := by decide +kernel
theorem dX10_goesIn_100 : decode cX10_goesIn 100 = .ok (.return_, 1) := by decide +kernel
def f_X10_goesIn_75 (k7 : (Int32) → mm_S → Option (mm_S)) (a0 : Nat) (i1 : Int32) (i2 : Int32) (s0 : Nat) (s1 : Int32) (s2 : Int32) (σ : mm_S) : Option (mm_S) :=
    gd s1 (mm_K s0).2 <|
    lt (su_i σ s0 s1.toNatClampNeg s2) fun σ2 =>
    bd (f_X10_soughtBy a0 i2 σ2) fun r6 σ5 =>
    gd i2 6 <|
    lt (su_i σ5 226 i2.toNatClampNeg r6) fun σ8 =>
    gd i2 6 <|
    lt (su_i σ8 227 i2.toNatClampNeg (0 : Int32)) fun σ11 =>
    lt (i2 + Int32.ofInt (1)) fun x13 =>
    k7 x13 σ11
theorem v_X10_goesIn_75 {g : mm_G} (d : Nat) {k7 : (Int32) → mm_S → Option (mm_S)} {a0 : Nat} {i1 : Int32} {i2 : Int32} {s0 : Nat} {s1 : Int32} {s2 : Int32} {σ : mm_S} {res : mm_S} (H7 : ∀ v σ, k7 v σ = some res → SV g (d + 2) yy_X10_goesIn 7 [(0, .ref a0), (1, .int i1), (2, .int v)] [] σ .null res) (h_a0 : (mm_K a0).1 = 10) (h_s0 : (mm_K s0).1 = 12) (h : f_X10_goesIn_75 k7 a0 i1 i2 s0 s1 s2 σ = some res) : SV g (d + 2) yy_X10_goesIn 75 [(0, .ref a0), (1, .int i1), (2, .int i2)] [.int s2, .int s1, .ref s0] σ .null res := by
  unfold f_X10_goesIn_75 at h
  obtain ⟨q1, h⟩ := gd_some h
  refine s_iast dX10_goesIn_75 (ka_2 h_s0) q1 ?_
  obtain ⟨σ2, q3, h⟩ := lt_some h
  refine s_nms q3 ?_
  refine e_aload_n 0 dX10_goesIn_76 rfl rfl ?_
  refine s_getr dX10_goesIn_77 fl_RX10_55 h_a0 (r_10_27 h_a0).1 ?_
  refine e_iload_n 2 dX10_goesIn_80 rfl rfl ?_
  refine e_aload_n 0 dX10_goesIn_81 rfl rfl ?_
  refine e_iload_n 2 dX10_goesIn_82 rfl rfl ?_
  obtain ⟨r6, σ5, q4, h⟩ := bd_some h
  refine s_callVi [.int i2] dX10_goesIn_83 ml_RX10_305 h_a0 ⟨_, rfl, by decide⟩ rfl (v_X10_soughtBy (d + 1) h_a0 q4) (Nat.le_of_ble_eq_true rfl) ?_
  obtain ⟨q7, h⟩ := gd_some h
  refine s_iast dX10_goesIn_86 (r_10_27 (w := 0) h_a0).2 q7 ?_
  obtain ⟨σ8, q9, h⟩ := lt_some h
  refine s_nms q9 ?_
  refine e_aload_n 0 dX10_goesIn_87 rfl rfl ?_
  refine s_getr dX10_goesIn_88 fl_RX10_58 h_a0 (r_10_29 h_a0).1 ?_
  refine e_iload_n 2 dX10_goesIn_91 rfl rfl ?_
  refine e_iconst (v := (0 : Int32)) dX10_goesIn_92 (by decide) ?_
  obtain ⟨q10, h⟩ := gd_some h
  refine s_iast dX10_goesIn_93 (r_10_29 (w := 0) h_a0).2 q10 ?_
  obtain ⟨σ11, q12, h⟩ := lt_some h
  refine s_nms q12 ?_
  obtain ⟨x13, q14, h⟩ := lt_some h
  refine e_iinc (v := x13) (L' := [(0, .ref a0), (1, .int i1), (2, .int x13)]) 2 dX10_goesIn_94 rfl q14.symm (by decide) rfl ?_
  refine e_goto 7 dX10_goesIn_97 (by decide) ?_
  refine s_pick (L' := [(0, .ref a0), (1, .int i1), (2, .int x13)]) [0, 1, 2] rfl ?_
  exact H7 x13 σ11 h
def f_X10_goesIn_53 (k7 : (Int32) → mm_S → Option (mm_S)) (a0 : Nat) (i1 : Int32) (i2 : Int32) (s0 : Int32) (σ : mm_S) : Option (mm_S) :=
    if s0 = 0 then
      f_X10_goesIn_75 k7 a0 i1 i2 224 (((11 : Int32) + ((5 : Int32) * i2)) + (2 : Int32)) (0 : Int32) σ
    else
      f_X10_goesIn_75 k7 a0 i1 i2 224 (((11 : Int32) + ((5 : Int32) * i2)) + (2 : Int32)) (1 : Int32) σ
theorem v_X10_goesIn_53 {g : mm_G} (d : Nat) {k7 : (Int32) → mm_S → Option (mm_S)} {a0 : Nat} {i1 : Int32} {i2 : Int32} {s0 : Int32} {σ : mm_S} {res : mm_S} (H7 : ∀ v σ, k7 v σ = some res → SV g (d + 2) yy_X10_goesIn 7 [(0, .ref a0), (1, .int i1), (2, .int v)] [] σ .null res) (h_a0 : (mm_K a0).1 = 10) (h : f_X10_goesIn_53 k7 a0 i1 i2 s0 σ = some res) : SV g (d + 2) yy_X10_goesIn 53 [(0, .ref a0), (1, .int i1), (2, .int i2)] [.int s0] σ .null res := by
  unfold f_X10_goesIn_53 at h
  refine e_istore_n (L' := [(0, .ref a0), (1, .int i1), (2, .int i2), (3, .int s0)]) dX10_goesIn_53 rfl (by decide) rfl ?_
  refine e_aload_n 0 dX10_goesIn_54 rfl rfl ?_
  refine s_getr dX10_goesIn_55 fl_RX10_39 h_a0 (r_10_20 h_a0).1 ?_
  refine e_bipush (v := (11 : Int32)) dX10_goesIn_58 (by decide) ?_
  refine e_iconst (v := (5 : Int32)) dX10_goesIn_60 (by decide) ?_
  refine e_iload_n 2 dX10_goesIn_61 rfl rfl ?_
  refine e_imul dX10_goesIn_62 ?_
  refine e_iadd dX10_goesIn_63 ?_
  refine e_iconst (v := (2 : Int32)) dX10_goesIn_64 (by decide) ?_
  refine e_iadd dX10_goesIn_65 ?_
  refine e_iload_n 3 dX10_goesIn_66 rfl rfl ?_
  refine e_if_eq 74 dX10_goesIn_67 (by decide) (fun c15 => ?_) (fun c15 => ?_)
  · rw [if_pos c15] at h
    refine e_iconst (v := (0 : Int32)) dX10_goesIn_74 (by decide) ?_
    refine s_pick (L' := [(0, .ref a0), (1, .int i1), (2, .int i2)]) [0, 1, 2] rfl ?_
    exact v_X10_goesIn_75 d H7 h_a0 (ka_1 (r_10_20 (w := 0) h_a0).2) h
  · rw [if_neg c15] at h
    refine e_iconst (v := (1 : Int32)) dX10_goesIn_70 (by decide) ?_
    refine e_goto 75 dX10_goesIn_71 (by decide) ?_
    refine s_pick (L' := [(0, .ref a0), (1, .int i1), (2, .int i2)]) [0, 1, 2] rfl ?_
    exact v_X10_goesIn_75 d H7 h_a0 (ka_1 (r_10_20 (w := 0) h_a0).2) h
def f_X10_goesIn_33 (k7 : (Int32) → mm_S → Option (mm_S)) (a0 : Nat) (i1 : Int32) (i2 : Int32) (σ : mm_S) : Option (mm_S) :=
    if i2 = (σ.1 a0 23) then
      f_X10_goesIn_53 k7 a0 i1 i2 (0 : Int32) σ
    else
      bd (f_X10_isCounted a0 σ) fun r19 σ18 =>
      if r19 = 0 then
        f_X10_goesIn_53 k7 a0 i1 i2 (1 : Int32) σ18
      else
        f_X10_goesIn_53 k7 a0 i1 i2 (0 : Int32) σ18
theorem v_X10_goesIn_33 {g : mm_G} (d : Nat) {k7 : (Int32) → mm_S → Option (mm_S)} {a0 : Nat} {i1 : Int32} {i2 : Int32} {σ : mm_S} {res : mm_S} (H7 : ∀ v σ, k7 v σ = some res → SV g (d + 2) yy_X10_goesIn 7 [(0, .ref a0), (1, .int i1), (2, .int v)] [] σ .null res) (h_a0 : (mm_K a0).1 = 10) (h : f_X10_goesIn_33 k7 a0 i1 i2 σ = some res) : SV g (d + 2) yy_X10_goesIn 33 [(0, .ref a0), (1, .int i1), (2, .int i2)] [] σ .null res := by
  unfold f_X10_goesIn_33 at h
  refine e_iload_n 2 dX10_goesIn_33 rfl rfl ?_
  refine e_aload_n 0 dX10_goesIn_34 rfl rfl ?_
  refine s_geti dX10_goesIn_35 fl_RX10_46 h_a0 ?_
  refine e_icmp_eq 52 dX10_goesIn_38 (by decide) (fun c16 => ?_) (fun c16 => ?_)
  · rw [if_pos c16] at h
    refine e_iconst (v := (0 : Int32)) dX10_goesIn_52 (by decide) ?_
    refine s_pick (L' := [(0, .ref a0), (1, .int i1), (2, .int i2)]) [0, 1, 2] rfl ?_
    exact v_X10_goesIn_53 d H7 h_a0 h
  · rw [if_neg c16] at h
    refine e_aload_n 0 dX10_goesIn_41 rfl rfl ?_
    obtain ⟨r19, σ18, q17, h⟩ := bd_some h
    refine s_callVi [] dX10_goesIn_42 ml_RX10_355 h_a0 ⟨_, rfl, by decide⟩ rfl (v_X10_isCounted (d + 0) h_a0 q17) (Nat.le_of_ble_eq_true rfl) ?_
    refine e_if_ne 52 dX10_goesIn_45 (by decide) (fun c20 => ?_) (fun c20 => ?_)
    · rw [if_neg c20] at h
      refine e_iconst (v := (0 : Int32)) dX10_goesIn_52 (by decide) ?_
      refine s_pick (L' := [(0, .ref a0), (1, .int i1), (2, .int i2)]) [0, 1, 2] rfl ?_
      exact v_X10_goesIn_53 d H7 h_a0 h
    · rw [if_pos c20] at h
      refine e_iconst (v := (1 : Int32)) dX10_goesIn_48 (by decide) ?_
      refine e_goto 53 dX10_goesIn_49 (by decide) ?_
      refine s_pick (L' := [(0, .ref a0), (1, .int i1), (2, .int i2)]) [0, 1, 2] rfl ?_
      exact v_X10_goesIn_53 d H7 h_a0 h
def f_X10_goesIn_7 (a0 : Nat) (i1 : Int32) (i2 : Int32) (σ : mm_S) : Option (mm_S) :=
  lp lpN (fun (k7 : (Int32) → mm_S → Option (mm_S)) (v : Int32) (σ : mm_S) =>
    gd (3 : Int32) 121 <|
    if (σ.1 224 (3 : Int32).toNatClampNeg) ≤ v then
      some σ
    else
      bd (f_X10_isOf i1 v σ) fun r25 σ24 =>
      if r25 = 0 then
        if v = (σ24.1 a0 24) then
          f_X10_goesIn_33 k7 a0 i1 v σ24
        else
          f_X10_goesIn_53 k7 a0 i1 v (0 : Int32) σ24
      else
        f_X10_goesIn_33 k7 a0 i1 v σ24) i2 σ
theorem v_X10_goesIn_7 {g : mm_G} (d : Nat) {a0 : Nat} {i1 : Int32} {i2 : Int32} {σ : mm_S} {res : mm_S}  (h_a0 : (mm_K a0).1 = 10) (h : f_X10_goesIn_7 a0 i1 i2 σ = some res) : SV g (d + 2) yy_X10_goesIn 7 [(0, .ref a0), (1, .int i1), (2, .int i2)] [] σ .null res := by
  unfold f_X10_goesIn_7 at h
  refine lp_ind (P := fun v σ => SV g (d + 2) yy_X10_goesIn 7 [(0, .ref a0), (1, .int i1), (2, .int v)] [] σ .null res) (fun k7 H7 v σ h => ?_) _ i2 σ h
  refine e_iload_n 2 dX10_goesIn_7 rfl rfl ?_
  refine e_aload_n 0 dX10_goesIn_8 rfl rfl ?_
  refine s_getr dX10_goesIn_9 fl_RX10_39 h_a0 (r_10_20 h_a0).1 ?_
  refine e_iconst (v := (3 : Int32)) dX10_goesIn_12 (by decide) ?_
  obtain ⟨q21, h⟩ := gd_some h
  refine s_iald dX10_goesIn_13 (r_10_20 (w := 0) h_a0).2 q21 ?_
  refine e_icmp_ge 100 dX10_goesIn_14 (by decide) (fun c22 => ?_) (fun c22 => ?_)
  · rw [if_pos c22] at h
    obtain rfl := Option.some.inj h
    exact s_ret rfl rfl dX10_goesIn_100
  · rw [if_neg c22] at h
    refine e_iload_n 1 dX10_goesIn_17 rfl rfl ?_
    refine e_iload_n 2 dX10_goesIn_18 rfl rfl ?_
    obtain ⟨r25, σ24, q23, h⟩ := bd_some h
    refine s_callSi [.int i1, .int v] dX10_goesIn_19 ml_RX10_314 ⟨_, rfl, by decide⟩ rfl (v_X10_isOf (d + 1)  q23) (Nat.le_of_ble_eq_true rfl) ?_
    refine e_if_ne 33 dX10_goesIn_22 (by decide) (fun c26 => ?_) (fun c26 => ?_)
    · rw [if_neg c26] at h
      refine s_pick (L' := [(0, .ref a0), (1, .int i1), (2, .int v)]) [0, 1, 2] rfl ?_
      exact v_X10_goesIn_33 d H7 h_a0 h
    · rw [if_pos c26] at h
      refine e_iload_n 2 dX10_goesIn_25 rfl rfl ?_
      refine e_aload_n 0 dX10_goesIn_26 rfl rfl ?_
      refine s_geti dX10_goesIn_27 fl_RX10_49 h_a0 ?_
      refine e_icmp_ne 52 dX10_goesIn_30 (by decide) (fun c27 => ?_) (fun c27 => ?_)
      · rw [if_neg c27] at h
        refine e_iconst (v := (0 : Int32)) dX10_goesIn_52 (by decide) ?_
        refine s_pick (L' := [(0, .ref a0), (1, .int i1), (2, .int v)]) [0, 1, 2] rfl ?_
        exact v_X10_goesIn_53 d H7 h_a0 h
      · rw [if_pos c27] at h
        refine s_pick (L' := [(0, .ref a0), (1, .int i1), (2, .int v)]) [0, 1, 2] rfl ?_
        exact v_X10_goesIn_33 d H7 h_a0 h
def f_X10_goesIn (a0 : Nat) (σ : mm_S) : Option (mm_S) :=
    bd (f_X10_soughtOnes a0 σ) fun r33 σ32 =>
    f_X10_goesIn_7 a0 r33 (0 : Int32) σ32
theorem v_X10_goesIn {g : mm_G} (d : Nat) {a0 : Nat} {σ : mm_S} {res : mm_S} (h_a0 : (mm_K a0).1 = 10) (h : f_X10_goesIn a0 σ = some res) : SM g (d + 2) yy_X10_goesIn [.ref a0] σ .null res := by
  refine s_of (by decide) (Nat.le_of_ble_eq_true rfl) (L := [(0, .ref a0)]) rfl ?_
  unfold f_X10_goesIn at h
  refine e_aload_n 0 dX10_goesIn_0 rfl rfl ?_
  obtain ⟨r33, σ32, q31, h⟩ := bd_some h
  refine s_callVi [] dX10_goesIn_1 ml_RX10_352 h_a0 ⟨_, rfl, by decide⟩ rfl (v_X10_soughtOnes (d + 0) h_a0 q31) (Nat.le_of_ble_eq_true rfl) ?_
  refine e_istore_n (L' := [(0, .ref a0), (1, .int r33)]) dX10_goesIn_4 rfl (by decide) rfl ?_
  refine e_iconst (v := (0 : Int32)) dX10_goesIn_5 (by decide) ?_
  refine e_istore_n (L' := [(0, .ref a0), (1, .int r33), (2, .int (0 : Int32))]) dX10_goesIn_6 rfl (by decide) rfl ?_
  refine s_pick (L' := [(0, .ref a0), (1, .int r33), (2, .int (0 : Int32))]) [0, 1, 2] rfl ?_
  exact v_X10_goesIn_7 d h_a0 h
abbrev yy_X10_seeks : mm_Y := (yX10_seeks, cX10_seeks, 4, none)
theorem dX10_seeks_0 : decode cX10_seeks 0 = .ok (.aload_n 0, 1) := by decide +kernel
theorem dX10_seeks_1 : decode cX10_seeks 1 = .ok (.aload_n 0, 1) := by decide +kernel
theorem dX10_seeks_2 : decode cX10_seeks 2 = .ok (.getfield 39, 3) := by decide +kernel
theorem dX10_seeks_5 : decode cX10_seeks 5 = .ok (.iconst 2, 1) := by decide +kernel
theorem dX10_seeks_6 : decode cX10_seeks 6 = .ok (.iaload, 1) := by decide +kernel
theorem dX10_seeks_7 : decode cX10_seeks 7 = .ok (.putfield 341, 3) := by decide +kernel
theorem dX10_seeks_10 : decode cX10_seeks 10 = .ok (.iconst 0, 1) := by decide +kernel
theorem dX10_seeks_11 : decode cX10_seeks 11 = .ok (.istore_n 1, 1) := by decide +kernel
theorem dX10_seeks_12 : decode cX10_seeks 12 = .ok (.iload_n 1, 1) := by decide +kernel
theorem dX10_seeks_13 : decode cX10_seeks 13 = .ok (.aload_n 0, 1) := by decide +kernel
theorem dX10_seeks_14 : decode cX10_seeks 14 = .ok (.getfield 39, 3) := by decide +kernel
theorem dX10_seeks_17 : decode cX10_seeks 17 = .ok (.iconst 3, 1) := by decide +kernel
theorem dX10_seeks_18 : decode cX10_seeks 18 = .ok (.iaload, 1) := by decide +kernel
theorem dX10_seeks_19 : decode cX10_seeks 19 = .ok (.if_icmp .ge 108, 3) := by decide +kernel
theorem dX10_seeks_22 : decode cX10_seeks 22 = .ok (.iconst (-1), 1) := by decide +kernel
theorem dX10_seeks_23 : decode cX10_seeks 23 = .ok (.istore_n 2, 1) := by decide +kernel
theorem dX10_seeks_24 : decode cX10_seeks 24 = .ok (.aload_n 0, 1) := by decide +kernel
theorem dX10_seeks_25 : decode cX10_seeks 25 = .ok (.getfield 358, 3) := by decide +kernel
theorem dX10_seeks_28 : decode cX10_seeks 28 = .ok (.iload_n 1, 1) := by decide +kernel
theorem dX10_seeks_29 : decode cX10_seeks 29 = .ok (.invokestatic 314, 3) := by decide +kernel
theorem dX10_seeks_32 : decode cX10_seeks 32 = .ok (.istore_n 3, 1) := by decide +kernel
theorem dX10_seeks_33 : decode cX10_seeks 33 = .ok (.aload_n 0, 1) := by decide +kernel
theorem dX10_seeks_34 : decode cX10_seeks 34 = .ok (.iload_n 1, 1) := by decide +kernel
theorem dX10_seeks_35 : decode cX10_seeks 35 = .ok (.invokevirtual 302, 3) := by decide +kernel
theorem dX10_seeks_38 : decode cX10_seeks 38 = .ok (.ifCond .ne 17, 3) := by decide +kernel
theorem dX10_seeks_41 : decode cX10_seeks 41 = .ok (.iload_n 3, 1) := by decide +kernel
theorem dX10_seeks_42 : decode cX10_seeks 42 = .ok (.ifCond .eq 13, 3) := by decide +kernel
theorem dX10_seeks_45 : decode cX10_seeks 45 = .ok (.aload_n 0, 1) := by decide +kernel
theorem dX10_seeks_46 : decode cX10_seeks 46 = .ok (.getfield 52, 3) := by decide +kernel
theorem dX10_seeks_49 : decode cX10_seeks 49 = .ok (.iload_n 1, 1) := by decide +kernel
theorem dX10_seeks_50 : decode cX10_seeks 50 = .ok (.iaload, 1) := by decide +kernel
theorem dX10_seeks_51 : decode cX10_seeks 51 = .ok (.istore_n 2, 1) := by decide +kernel
theorem dX10_seeks_52 : decode cX10_seeks 52 = .ok (.goto 24, 3) := by decide +kernel
theorem dX10_seeks_55 : decode cX10_seeks 55 = .ok (.aload_n 0, 1) := by decide +kernel
theorem dX10_seeks_56 : decode cX10_seeks 56 = .ok (.iload_n 1, 1) := by decide +kernel
theorem dX10_seeks_57 : decode cX10_seeks 57 = .ok (.invokevirtual 302, 3) := by decide +kernel
theorem dX10_seeks_60 : decode cX10_seeks 60 = .ok (.ifCond .ne 16, 3) := by decide +kernel
theorem dX10_seeks_63 : decode cX10_seeks 63 = .ok (.aload_n 0, 1) := by decide +kernel
theorem dX10_seeks_64 : decode cX10_seeks 64 = .ok (.getfield 341, 3) := by decide +kernel
theorem dX10_seeks_67 : decode cX10_seeks 67 = .ok (.ifCond .le 9, 3) := by decide +kernel
theorem dX10_seeks_70 : decode cX10_seeks 70 = .ok (.aload_n 0, 1) := by decide +kernel
theorem dX10_seeks_71 : decode cX10_seeks 71 = .ok (.iload_n 1, 1) := by decide +kernel
theorem dX10_seeks_72 : decode cX10_seeks 72 = .ok (.invokevirtual 361, 3) := by decide +kernel
theorem dX10_seeks_75 : decode cX10_seeks 75 = .ok (.istore_n 2, 1) := by decide +kernel
theorem dX10_seeks_76 : decode cX10_seeks 76 = .ok (.aload_n 0, 1) := by decide +kernel
theorem dX10_seeks_77 : decode cX10_seeks 77 = .ok (.getfield 39, 3) := by decide +kernel
theorem dX10_seeks_80 : decode cX10_seeks 80 = .ok (.bipush 11, 2) := by decide +kernel
theorem dX10_seeks_82 : decode cX10_seeks 82 = .ok (.iconst 5, 1) := by decide +kernel
theorem dX10_seeks_83 : decode cX10_seeks 83 = .ok (.iload_n 1, 1) := by decide +kernel
theorem dX10_seeks_84 : decode cX10_seeks 84 = .ok (.imul, 1) := by decide +kernel
theorem dX10_seeks_85 : decode cX10_seeks 85 = .ok (.iadd, 1) := by decide +kernel
theorem dX10_seeks_86 : decode cX10_seeks 86 = .ok (.iconst 3, 1) := by decide +kernel
theorem dX10_seeks_87 : decode cX10_seeks 87 = .ok (.iadd, 1) := by decide +kernel
theorem dX10_seeks_88 : decode cX10_seeks 88 = .ok (.iload_n 2, 1) := by decide +kernel
theorem dX10_seeks_89 : decode cX10_seeks 89 = .ok (.iastore, 1) := by decide +kernel
theorem dX10_seeks_90 : decode cX10_seeks 90 = .ok (.iload_n 2, 1) := by decide +kernel
theorem dX10_seeks_91 : decode cX10_seeks 91 = .ok (.ifCond .ge 6, 3) := by decide +kernel
theorem dX10_seeks_94 : decode cX10_seeks 94 = .ok (.goto 27, 3) := by decide +kernel
theorem dX10_seeks_97 : decode cX10_seeks 97 = .ok (.aload_n 0, 1) := by decide +kernel
theorem dX10_seeks_98 : decode cX10_seeks 98 = .ok (.getfield 58, 3) := by decide +kernel
theorem dX10_seeks_101 : decode cX10_seeks 101 = .ok (.iload_n 2, 1) := by decide +kernel
theorem dX10_seeks_102 : decode cX10_seeks 102 = .ok (.dup2, 1) := by decide +kernel
theorem dX10_seeks_103 : decode cX10_seeks 103 = .ok (.iaload, 1) := by decide +kernel
theorem dX10_seeks_104 : decode cX10_seeks 104 = .ok (.iconst 1, 1) := by decide +kernel
theorem dX10_seeks_105 : decode cX10_seeks 105 = .ok (.iadd, 1) := by decide +kernel
theorem dX10_seeks_106 : decode cX10_seeks 106 = .ok (.iastore, 1) := by decide +kernel
theorem dX10_seeks_107 : decode cX10_seeks 107 = .ok (.iload_n 3, 1) := by decide +kernel
theorem dX10_seeks_108 : decode cX10_seeks 108 = .ok (.ifCond .ne 13, 3) := by decide +kernel
theorem dX10_seeks_111 : decode cX10_seeks 111 = .ok (.aload_n 0, 1) := by decide +kernel
theorem dX10_seeks_112 : decode cX10_seeks 112 = .ok (.dup, 1) := by decide +kernel
theorem dX10_seeks_113 : decode cX10_seeks 113 = .ok (.getfield 341, 3) := by decide +kernel
theorem dX10_seeks_116 : decode cX10_seeks 116 = .ok (.iconst 1, 1) := by decide +kernel
theorem dX10_seeks_117 : decode cX10_seeks 117 = .ok (.isub, 1) := by decide +kernel
theorem dX10_seeks_118 : decode cX10_seeks 118 = .ok (.putfield 341, 3) := by decide +kernel
theorem dX10_seeks_121 : decode cX10_seeks 121 = .ok (.iinc 1 1, 3) := by decide +kernel
theorem dX10_seeks_124 : decode cX10_seeks 124 = .ok (.goto (-112), 3) := by decide +kernel
theorem dX10_seeks_127 : decode cX10_seeks 127 = .ok (.return_, 1) := by decide +kernel
def f_X10_seeks_76 (k12 : (Int32) → mm_S → Option (mm_S)) (a0 : Nat) (i1 : Int32) (i2 : Int32) (i3 : Int32) (σ : mm_S) : Option (mm_S) :=
    gd (((11 : Int32) + ((5 : Int32) * i1)) + (3 : Int32)) 121 <|
    lt (su_i σ 224 (((11 : Int32) + ((5 : Int32) * i1)) + (3 : Int32)).toNatClampNeg i2) fun σ2 =>
    if 0 ≤ i2 then
      gd i2 6 <|
      gd i2 6 <|
      lt (su_i σ2 227 i2.toNatClampNeg ((σ2.1 227 i2.toNatClampNeg) + (1 : Int32))) fun σ7 =>
      if i3 = 0 then
        lt (su_i σ7 a0 28 ((σ7.1 a0 28) - (1 : Int32))) fun σ12 =>
        lt (i1 + Int32.ofInt (1)) fun x14 =>
        k12 x14 σ12
      else
        lt (i1 + Int32.ofInt (1)) fun x10 =>
        k12 x10 σ7
    else
      lt (i1 + Int32.ofInt (1)) fun x16 =>
      k12 x16 σ2
theorem v_X10_seeks_76 {g : mm_G} (d : Nat) {k12 : (Int32) → mm_S → Option (mm_S)} {a0 : Nat} {i1 : Int32} {i2 : Int32} {i3 : Int32} {σ : mm_S} {res : mm_S} (H12 : ∀ v σ, k12 v σ = some res → SV g (d + 5) yy_X10_seeks 12 [(0, .ref a0), (1, .int v)] [] σ .null res) (h_a0 : (mm_K a0).1 = 10) (h : f_X10_seeks_76 k12 a0 i1 i2 i3 σ = some res) : SV g (d + 5) yy_X10_seeks 76 [(0, .ref a0), (1, .int i1), (2, .int i2), (3, .int i3)] [] σ .null res := by
  unfold f_X10_seeks_76 at h
  refine e_aload_n 0 dX10_seeks_76 rfl rfl ?_
  refine s_getr dX10_seeks_77 fl_RX10_39 h_a0 (r_10_20 h_a0).1 ?_
  refine e_bipush (v := (11 : Int32)) dX10_seeks_80 (by decide) ?_
  refine e_iconst (v := (5 : Int32)) dX10_seeks_82 (by decide) ?_
  refine e_iload_n 1 dX10_seeks_83 rfl rfl ?_
  refine e_imul dX10_seeks_84 ?_
  refine e_iadd dX10_seeks_85 ?_
  refine e_iconst (v := (3 : Int32)) dX10_seeks_86 (by decide) ?_
  refine e_iadd dX10_seeks_87 ?_
  refine e_iload_n 2 dX10_seeks_88 rfl rfl ?_
  obtain ⟨q1, h⟩ := gd_some h
  refine s_iast dX10_seeks_89 (r_10_20 (w := 0) h_a0).2 q1 ?_
  obtain ⟨σ2, q3, h⟩ := lt_some h
  refine s_nms q3 ?_
  refine e_iload_n 2 dX10_seeks_90 rfl rfl ?_
  refine e_if_ge 97 dX10_seeks_91 (by decide) (fun c4 => ?_) (fun c4 => ?_)
  · rw [if_pos c4] at h
    refine e_aload_n 0 dX10_seeks_97 rfl rfl ?_
    refine s_getr dX10_seeks_98 fl_RX10_58 h_a0 (r_10_29 h_a0).1 ?_
    refine e_iload_n 2 dX10_seeks_101 rfl rfl ?_
    refine e_dup2 dX10_seeks_102 rfl rfl ?_
    obtain ⟨q5, h⟩ := gd_some h
    refine s_iald dX10_seeks_103 (r_10_29 (w := 0) h_a0).2 q5 ?_
    refine e_iconst (v := (1 : Int32)) dX10_seeks_104 (by decide) ?_
    refine e_iadd dX10_seeks_105 ?_
    obtain ⟨q6, h⟩ := gd_some h
    refine s_iast dX10_seeks_106 (r_10_29 (w := 0) h_a0).2 q6 ?_
    obtain ⟨σ7, q8, h⟩ := lt_some h
    refine s_nms q8 ?_
    refine e_iload_n 3 dX10_seeks_107 rfl rfl ?_
    refine e_if_ne 121 dX10_seeks_108 (by decide) (fun c9 => ?_) (fun c9 => ?_)
    · rw [if_neg c9] at h
      obtain ⟨x10, q11, h⟩ := lt_some h
      refine e_iinc (v := x10) (L' := [(0, .ref a0), (1, .int x10), (2, .int i2), (3, .int i3)]) 1 dX10_seeks_121 rfl q11.symm (by decide) rfl ?_
      refine e_goto 12 dX10_seeks_124 (by decide) ?_
      refine s_pick (L' := [(0, .ref a0), (1, .int x10)]) [0, 1] rfl ?_
      exact H12 x10 σ7 h
    · rw [if_pos c9] at h
      refine e_aload_n 0 dX10_seeks_111 rfl rfl ?_
      refine e_dup dX10_seeks_112 rfl ?_
      refine s_geti dX10_seeks_113 fl_RX10_341 h_a0 ?_
      refine e_iconst (v := (1 : Int32)) dX10_seeks_116 (by decide) ?_
      refine e_isub dX10_seeks_117 ?_
      refine s_puti dX10_seeks_118 fl_RX10_341 h_a0 rfl rfl rfl ?_
      obtain ⟨σ12, q13, h⟩ := lt_some h
      refine s_nms q13 ?_
      obtain ⟨x14, q15, h⟩ := lt_some h
      refine e_iinc (v := x14) (L' := [(0, .ref a0), (1, .int x14), (2, .int i2), (3, .int i3)]) 1 dX10_seeks_121 rfl q15.symm (by decide) rfl ?_
      refine e_goto 12 dX10_seeks_124 (by decide) ?_
      refine s_pick (L' := [(0, .ref a0), (1, .int x14)]) [0, 1] rfl ?_
      exact H12 x14 σ12 h
  · rw [if_neg c4] at h
    refine e_goto 121 dX10_seeks_94 (by decide) ?_
    obtain ⟨x16, q17, h⟩ := lt_some h
    refine e_iinc (v := x16) (L' := [(0, .ref a0), (1, .int x16), (2, .int i2), (3, .int i3)]) 1 dX10_seeks_121 rfl q17.symm (by decide) rfl ?_
    refine e_goto 12 dX10_seeks_124 (by decide) ?_
    refine s_pick (L' := [(0, .ref a0), (1, .int x16)]) [0, 1] rfl ?_
    exact H12 x16 σ2 h
def f_X10_seeks_55 (k12 : (Int32) → mm_S → Option (mm_S)) (a0 : Nat) (i1 : Int32) (i2 : Int32) (i3 : Int32) (σ : mm_S) : Option (mm_S) :=
    bd (f_X10_isIn a0 i1 σ) fun r20 σ19 =>
    if r20 = 0 then
      if (σ19.1 a0 28) ≤ 0 then
        f_X10_seeks_76 k12 a0 i1 i2 i3 σ19
      else
        bd (f_X10_choice a0 i1 σ19) fun r25 σ24 =>
        f_X10_seeks_76 k12 a0 i1 r25 i3 σ24
    else
      f_X10_seeks_76 k12 a0 i1 i2 i3 σ19
theorem v_X10_seeks_55 {g : mm_G} (d : Nat) {k12 : (Int32) → mm_S → Option (mm_S)} {a0 : Nat} {i1 : Int32} {i2 : Int32} {i3 : Int32} {σ : mm_S} {res : mm_S} (H12 : ∀ v σ, k12 v σ = some res → SV g (d + 5) yy_X10_seeks 12 [(0, .ref a0), (1, .int v)] [] σ .null res) (h_a0 : (mm_K a0).1 = 10) (h : f_X10_seeks_55 k12 a0 i1 i2 i3 σ = some res) : SV g (d + 5) yy_X10_seeks 55 [(0, .ref a0), (1, .int i1), (2, .int i2), (3, .int i3)] [] σ .null res := by
  unfold f_X10_seeks_55 at h
  refine e_aload_n 0 dX10_seeks_55 rfl rfl ?_
  refine e_iload_n 1 dX10_seeks_56 rfl rfl ?_
  obtain ⟨r20, σ19, q18, h⟩ := bd_some h
  refine s_callVi [.int i1] dX10_seeks_57 ml_RX10_302 h_a0 ⟨_, rfl, by decide⟩ rfl (v_X10_isIn (d + 4) h_a0 q18) (Nat.le_of_ble_eq_true rfl) ?_
  refine e_if_ne 76 dX10_seeks_60 (by decide) (fun c21 => ?_) (fun c21 => ?_)
  · rw [if_neg c21] at h
    refine s_pick (L' := [(0, .ref a0), (1, .int i1), (2, .int i2), (3, .int i3)]) [0, 1, 2, 3] rfl ?_
    exact v_X10_seeks_76 d H12 h_a0 h
  · rw [if_pos c21] at h
    refine e_aload_n 0 dX10_seeks_63 rfl rfl ?_
    refine s_geti dX10_seeks_64 fl_RX10_341 h_a0 ?_
    refine e_if_le 76 dX10_seeks_67 (by decide) (fun c22 => ?_) (fun c22 => ?_)
    · rw [if_pos c22] at h
      refine s_pick (L' := [(0, .ref a0), (1, .int i1), (2, .int i2), (3, .int i3)]) [0, 1, 2, 3] rfl ?_
      exact v_X10_seeks_76 d H12 h_a0 h
    · rw [if_neg c22] at h
      refine e_aload_n 0 dX10_seeks_70 rfl rfl ?_
      refine e_iload_n 1 dX10_seeks_71 rfl rfl ?_
      obtain ⟨r25, σ24, q23, h⟩ := bd_some h
      refine s_callVi [.int i1] dX10_seeks_72 ml_RX10_361 h_a0 ⟨_, rfl, by decide⟩ rfl (v_X10_choice (d + 0) h_a0 q23) (Nat.le_of_ble_eq_true rfl) ?_
      refine e_istore_n (L' := [(0, .ref a0), (1, .int i1), (2, .int r25), (3, .int i3)]) dX10_seeks_75 rfl (by decide) rfl ?_
      refine s_pick (L' := [(0, .ref a0), (1, .int i1), (2, .int r25), (3, .int i3)]) [0, 1, 2, 3] rfl ?_
      exact v_X10_seeks_76 d H12 h_a0 h
def f_X10_seeks_12 (a0 : Nat) (i1 : Int32) (σ : mm_S) : Option (mm_S) :=
  lp lpN (fun (k12 : (Int32) → mm_S → Option (mm_S)) (v : Int32) (σ : mm_S) =>
    gd (3 : Int32) 121 <|
    if (σ.1 224 (3 : Int32).toNatClampNeg) ≤ v then
      some σ
    else
      bd (f_X10_isOf (σ.1 a0 25) v σ) fun r30 σ29 =>
      bd (f_X10_isIn a0 v σ29) fun r33 σ32 =>
      if r33 = 0 then
        if r30 = 0 then
          f_X10_seeks_55 k12 a0 v (-1 : Int32) r30 σ32
        else
          gd v 6 <|
          lt ((σ32.1 225 v.toNatClampNeg)) fun x37 =>
          f_X10_seeks_76 k12 a0 v x37 r30 σ32
      else
        f_X10_seeks_55 k12 a0 v (-1 : Int32) r30 σ32) i1 σ
theorem v_X10_seeks_12 {g : mm_G} (d : Nat) {a0 : Nat} {i1 : Int32} {σ : mm_S} {res : mm_S}  (h_a0 : (mm_K a0).1 = 10) (h : f_X10_seeks_12 a0 i1 σ = some res) : SV g (d + 5) yy_X10_seeks 12 [(0, .ref a0), (1, .int i1)] [] σ .null res := by
  unfold f_X10_seeks_12 at h
  refine lp_ind (P := fun v σ => SV g (d + 5) yy_X10_seeks 12 [(0, .ref a0), (1, .int v)] [] σ .null res) (fun k12 H12 v σ h => ?_) _ i1 σ h
  refine e_iload_n 1 dX10_seeks_12 rfl rfl ?_
  refine e_aload_n 0 dX10_seeks_13 rfl rfl ?_
  refine s_getr dX10_seeks_14 fl_RX10_39 h_a0 (r_10_20 h_a0).1 ?_
  refine e_iconst (v := (3 : Int32)) dX10_seeks_17 (by decide) ?_
  obtain ⟨q26, h⟩ := gd_some h
  refine s_iald dX10_seeks_18 (r_10_20 (w := 0) h_a0).2 q26 ?_
  refine e_icmp_ge 127 dX10_seeks_19 (by decide) (fun c27 => ?_) (fun c27 => ?_)
  · rw [if_pos c27] at h
    obtain rfl := Option.some.inj h
    exact s_ret rfl rfl dX10_seeks_127
  · rw [if_neg c27] at h
    refine e_iconst (v := (-1 : Int32)) dX10_seeks_22 (by decide) ?_
    refine e_istore_n (L' := [(0, .ref a0), (1, .int v), (2, .int (-1 : Int32))]) dX10_seeks_23 rfl (by decide) rfl ?_
    refine e_aload_n 0 dX10_seeks_24 rfl rfl ?_
    refine s_geti dX10_seeks_25 fl_RX10_358 h_a0 ?_
    refine e_iload_n 1 dX10_seeks_28 rfl rfl ?_
    obtain ⟨r30, σ29, q28, h⟩ := bd_some h
    refine s_callSi [.int (σ.1 a0 25), .int v] dX10_seeks_29 ml_RX10_314 ⟨_, rfl, by decide⟩ rfl (v_X10_isOf (d + 4)  q28) (Nat.le_of_ble_eq_true rfl) ?_
    refine e_istore_n (L' := [(0, .ref a0), (1, .int v), (2, .int (-1 : Int32)), (3, .int r30)]) dX10_seeks_32 rfl (by decide) rfl ?_
    refine e_aload_n 0 dX10_seeks_33 rfl rfl ?_
    refine e_iload_n 1 dX10_seeks_34 rfl rfl ?_
    obtain ⟨r33, σ32, q31, h⟩ := bd_some h
    refine s_callVi [.int v] dX10_seeks_35 ml_RX10_302 h_a0 ⟨_, rfl, by decide⟩ rfl (v_X10_isIn (d + 4) h_a0 q31) (Nat.le_of_ble_eq_true rfl) ?_
    refine e_if_ne 55 dX10_seeks_38 (by decide) (fun c34 => ?_) (fun c34 => ?_)
    · rw [if_neg c34] at h
      refine s_pick (L' := [(0, .ref a0), (1, .int v), (2, .int (-1 : Int32)), (3, .int r30)]) [0, 1, 2, 3] rfl ?_
      exact v_X10_seeks_55 d H12 h_a0 h
    · rw [if_pos c34] at h
      refine e_iload_n 3 dX10_seeks_41 rfl rfl ?_
      refine e_if_eq 55 dX10_seeks_42 (by decide) (fun c35 => ?_) (fun c35 => ?_)
      · rw [if_pos c35] at h
        refine s_pick (L' := [(0, .ref a0), (1, .int v), (2, .int (-1 : Int32)), (3, .int r30)]) [0, 1, 2, 3] rfl ?_
        exact v_X10_seeks_55 d H12 h_a0 h
      · rw [if_neg c35] at h
        refine e_aload_n 0 dX10_seeks_45 rfl rfl ?_
        refine s_getr dX10_seeks_46 fl_RX10_52 h_a0 (r_10_26 h_a0).1 ?_
        refine e_iload_n 1 dX10_seeks_49 rfl rfl ?_
        obtain ⟨q36, h⟩ := gd_some h
        refine s_iald dX10_seeks_50 (r_10_26 (w := 0) h_a0).2 q36 ?_
        obtain ⟨x37, q38, h⟩ := lt_some h
        refine s_nmi q38 ?_
        refine e_istore_n (L' := [(0, .ref a0), (1, .int v), (2, .int x37), (3, .int r30)]) dX10_seeks_51 rfl (by decide) rfl ?_
        refine e_goto 76 dX10_seeks_52 (by decide) ?_
        refine s_pick (L' := [(0, .ref a0), (1, .int v), (2, .int x37), (3, .int r30)]) [0, 1, 2, 3] rfl ?_
        exact v_X10_seeks_76 d H12 h_a0 h
def f_X10_seeks (a0 : Nat) (σ : mm_S) : Option (mm_S) :=
    gd (2 : Int32) 121 <|
    lt (su_i σ a0 28 (σ.1 224 (2 : Int32).toNatClampNeg)) fun σ43 =>
    f_X10_seeks_12 a0 (0 : Int32) σ43
theorem v_X10_seeks {g : mm_G} (d : Nat) {a0 : Nat} {σ : mm_S} {res : mm_S} (h_a0 : (mm_K a0).1 = 10) (h : f_X10_seeks a0 σ = some res) : SM g (d + 5) yy_X10_seeks [.ref a0] σ .null res := by
  refine s_of (by decide) (Nat.le_of_ble_eq_true rfl) (L := [(0, .ref a0)]) rfl ?_
  unfold f_X10_seeks at h
  refine e_aload_n 0 dX10_seeks_0 rfl rfl ?_
  refine e_aload_n 0 dX10_seeks_1 rfl rfl ?_
  refine s_getr dX10_seeks_2 fl_RX10_39 h_a0 (r_10_20 h_a0).1 ?_
  refine e_iconst (v := (2 : Int32)) dX10_seeks_5 (by decide) ?_
  obtain ⟨q42, h⟩ := gd_some h
  refine s_iald dX10_seeks_6 (r_10_20 (w := 0) h_a0).2 q42 ?_
  refine s_puti dX10_seeks_7 fl_RX10_341 h_a0 rfl rfl rfl ?_
  obtain ⟨σ43, q44, h⟩ := lt_some h
  refine s_nms q44 ?_
  refine e_iconst (v := (0 : Int32)) dX10_seeks_10 (by decide) ?_
  refine e_istore_n (L' := [(0, .ref a0), (1, .int (0 : Int32))]) dX10_seeks_11 rfl (by decide) rfl ?_
  refine s_pick (L' := [(0, .ref a0), (1, .int (0 : Int32))]) [0, 1] rfl ?_
  exact v_X10_seeks_12 d h_a0 h
abbrev yy_X10_sleeps1 : mm_Y := (yX10_sleeps1, cX10_sleeps1, 3, none)
theorem dX10_sleeps1_0 : decode cX10_sleeps1 0 = .ok (.iconst 0, 1) := by decide +kernel
theorem dX10_sleeps1_1 : decode cX10_sleeps1 1 = .ok (.istore_n 1, 1) := by decide +kernel
theorem dX10_sleeps1_2 : decode cX10_sleeps1 2 = .ok (.iload_n 1, 1) := by decide +kernel
theorem dX10_sleeps1_3 : decode cX10_sleeps1 3 = .ok (.aload_n 0, 1) := by decide +kernel
theorem dX10_sleeps1_4 : decode cX10_sleeps1 4 = .ok (.getfield 39, 3) := by decide +kernel
theorem dX10_sleeps1_7 : decode cX10_sleeps1 7 = .ok (.iconst 3, 1) := by decide +kernel
theorem dX10_sleeps1_8 : decode cX10_sleeps1 8 = .ok (.iaload, 1) := by decide +kernel
theorem dX10_sleeps1_9 : decode cX10_sleeps1 9 = .ok (.if_icmp .ge 98, 3) := by decide +kernel
theorem dX10_sleeps1_12 : decode cX10_sleeps1 12 = .ok (.bipush 11, 2) := by decide +kernel
theorem dX10_sleeps1_14 : decode cX10_sleeps1 14 = .ok (.iconst 5, 1) := by decide +kernel
theorem dX10_sleeps1_15 : decode cX10_sleeps1 15 = .ok (.iload_n 1, 1) := by decide +kernel
theorem dX10_sleeps1_16 : decode cX10_sleeps1 16 = .ok (.imul, 1) := by decide +kernel
theorem dX10_sleeps1_17 : decode cX10_sleeps1 17 = .ok (.iadd, 1) := by decide +kernel
theorem dX10_sleeps1_18 : decode cX10_sleeps1 18 = .ok (.istore_n 2, 1) := by decide +kernel
theorem dX10_sleeps1_19 : decode cX10_sleeps1 19 = .ok (.aload_n 0, 1) := by decide +kernel
theorem dX10_sleeps1_20 : decode cX10_sleeps1 20 = .ok (.iload_n 1, 1) := by decide +kernel
theorem dX10_sleeps1_21 : decode cX10_sleeps1 21 = .ok (.invokevirtual 302, 3) := by decide +kernel
theorem dX10_sleeps1_24 : decode cX10_sleeps1 24 = .ok (.ifCond .eq 56, 3) := by decide +kernel
theorem dX10_sleeps1_27 : decode cX10_sleeps1 27 = .ok (.aload_n 0, 1) := by decide +kernel
theorem dX10_sleeps1_28 : decode cX10_sleeps1 28 = .ok (.getfield 39, 3) := by decide +kernel
theorem dX10_sleeps1_31 : decode cX10_sleeps1 31 = .ok (.iload_n 2, 1) := by decide +kernel
theorem dX10_sleeps1_32 : decode cX10_sleeps1 32 = .ok (.aload_n 0, 1) := by decide +kernel
theorem dX10_sleeps1_33 : decode cX10_sleeps1 33 = .ok (.getfield 39, 3) := by decide +kernel
theorem dX10_sleeps1_36 : decode cX10_sleeps1 36 = .ok (.iload_n 2, 1) := by decide +kernel
theorem dX10_sleeps1_37 : decode cX10_sleeps1 37 = .ok (.iaload, 1) := by decide +kernel
theorem dX10_sleeps1_38 : decode cX10_sleeps1 38 = .ok (.aload_n 0, 1) := by decide +kernel
theorem dX10_sleeps1_39 : decode cX10_sleeps1 39 = .ok (.getfield 39, 3) := by decide +kernel
theorem dX10_sleeps1_42 : decode cX10_sleeps1 42 = .ok (.iconst 1, 1) := by decide +kernel
theorem dX10_sleeps1_43 : decode cX10_sleeps1 43 = .ok (.iaload, 1) := by decide +kernel
theorem dX10_sleeps1_44 : decode cX10_sleeps1 44 = .ok (.if_icmp .le 19, 3) := by decide +kernel
theorem dX10_sleeps1_47 : decode cX10_sleeps1 47 = .ok (.aload_n 0, 1) := by decide +kernel
theorem dX10_sleeps1_48 : decode cX10_sleeps1 48 = .ok (.getfield 39, 3) := by decide +kernel
theorem dX10_sleeps1_51 : decode cX10_sleeps1 51 = .ok (.iload_n 2, 1) := by decide +kernel
theorem dX10_sleeps1_52 : decode cX10_sleeps1 52 = .ok (.iaload, 1) := by decide +kernel
theorem dX10_sleeps1_53 : decode cX10_sleeps1 53 = .ok (.aload_n 0, 1) := by decide +kernel
theorem dX10_sleeps1_54 : decode cX10_sleeps1 54 = .ok (.getfield 39, 3) := by decide +kernel
theorem dX10_sleeps1_57 : decode cX10_sleeps1 57 = .ok (.iconst 1, 1) := by decide +kernel
theorem dX10_sleeps1_58 : decode cX10_sleeps1 58 = .ok (.iaload, 1) := by decide +kernel
theorem dX10_sleeps1_59 : decode cX10_sleeps1 59 = .ok (.isub, 1) := by decide +kernel
theorem dX10_sleeps1_60 : decode cX10_sleeps1 60 = .ok (.goto 4, 3) := by decide +kernel
theorem dX10_sleeps1_63 : decode cX10_sleeps1 63 = .ok (.iconst 0, 1) := by decide +kernel
theorem dX10_sleeps1_64 : decode cX10_sleeps1 64 = .ok (.iastore, 1) := by decide +kernel
theorem dX10_sleeps1_65 : decode cX10_sleeps1 65 = .ok (.aload_n 0, 1) := by decide +kernel
theorem dX10_sleeps1_66 : decode cX10_sleeps1 66 = .ok (.getfield 39, 3) := by decide +kernel
theorem dX10_sleeps1_69 : decode cX10_sleeps1 69 = .ok (.iload_n 2, 1) := by decide +kernel
theorem dX10_sleeps1_70 : decode cX10_sleeps1 70 = .ok (.iconst 4, 1) := by decide +kernel
theorem dX10_sleeps1_71 : decode cX10_sleeps1 71 = .ok (.iadd, 1) := by decide +kernel
theorem dX10_sleeps1_72 : decode cX10_sleeps1 72 = .ok (.dup2, 1) := by decide +kernel
theorem dX10_sleeps1_73 : decode cX10_sleeps1 73 = .ok (.iaload, 1) := by decide +kernel
theorem dX10_sleeps1_74 : decode cX10_sleeps1 74 = .ok (.iconst 1, 1) := by decide +kernel
theorem dX10_sleeps1_75 : decode cX10_sleeps1 75 = .ok (.iadd, 1) := by decide +kernel
theorem dX10_sleeps1_76 : decode cX10_sleeps1 76 = .ok (.iastore, 1) := by decide +kernel
theorem dX10_sleeps1_77 : decode cX10_sleeps1 77 = .ok (.goto 24, 3) := by decide +kernel
theorem dX10_sleeps1_80 : decode cX10_sleeps1 80 = .ok (.aload_n 0, 1) := by decide +kernel
theorem dX10_sleeps1_81 : decode cX10_sleeps1 81 = .ok (.getfield 39, 3) := by decide +kernel
theorem dX10_sleeps1_84 : decode cX10_sleeps1 84 = .ok (.iload_n 2, 1) := by decide +kernel
theorem dX10_sleeps1_85 : decode cX10_sleeps1 85 = .ok (.iaload, 1) := by decide +kernel
theorem dX10_sleeps1_86 : decode cX10_sleeps1 86 = .ok (.bipush 99, 2) := by decide +kernel
theorem dX10_sleeps1_88 : decode cX10_sleeps1 88 = .ok (.if_icmp .ge 13, 3) := by decide +kernel
theorem dX10_sleeps1_91 : decode cX10_sleeps1 91 = .ok (.aload_n 0, 1) := by decide +kernel
theorem dX10_sleeps1_92 : decode cX10_sleeps1 92 = .ok (.getfield 39, 3) := by decide +kernel
theorem dX10_sleeps1_95 : decode cX10_sleeps1 95 = .ok (.iload_n 2, 1) := by decide +kernel
theorem dX10_sleeps1_96 : decode cX10_sleeps1 96 = .ok (.dup2, 1) := by decide +kernel
theorem dX10_sleeps1_97 : decode cX10_sleeps1 97 = .ok (.iaload, 1) := by decide +kernel
theorem dX10_sleeps1_98 : decode cX10_sleeps1 98 = .ok (.iconst 1, 1) := by decide +kernel
theorem dX10_sleeps1_99 : decode cX10_sleeps1 99 = .ok (.iadd, 1) := by decide +kernel
theorem dX10_sleeps1_100 : decode cX10_sleeps1 100 = .ok (.iastore, 1) := by decide +kernel
theorem dX10_sleeps1_101 : decode cX10_sleeps1 101 = .ok (.iinc 1 1, 3) := by decide +kernel
theorem dX10_sleeps1_104 : decode cX10_sleeps1 104 = .ok (.goto (-102), 3) := by decide +kernel
theorem dX10_sleeps1_107 : decode cX10_sleeps1 107 = .ok (.return_, 1) := by decide +kernel
def f_X10_sleeps1_64 (k2 : (Int32) → mm_S → Option (mm_S)) (a0 : Nat) (i1 : Int32) (i2 : Int32) (s0 : Nat) (s1 : Int32) (s2 : Int32) (σ : mm_S) : Option (mm_S) :=
    gd s1 (mm_K s0).2 <|
    lt (su_i σ s0 s1.toNatClampNeg s2) fun σ2 =>
    gd (i2 + (4 : Int32)) 121 <|
    gd (i2 + (4 : Int32)) 121 <|
    lt (su_i σ2 224 (i2 + (4 : Int32)).toNatClampNeg ((σ2.1 224 (i2 + (4 : Int32)).toNatClampNeg) + (1 : Int32))) fun σ6 =>
    lt (i1 + Int32.ofInt (1)) fun x8 =>
    k2 x8 σ6
theorem v_X10_sleeps1_64 {g : mm_G} (d : Nat) {k2 : (Int32) → mm_S → Option (mm_S)} {a0 : Nat} {i1 : Int32} {i2 : Int32} {s0 : Nat} {s1 : Int32} {s2 : Int32} {σ : mm_S} {res : mm_S} (H2 : ∀ v σ, k2 v σ = some res → SV g (d + 1) yy_X10_sleeps1 2 [(0, .ref a0), (1, .int v)] [] σ .null res) (h_a0 : (mm_K a0).1 = 10) (h_s0 : (mm_K s0).1 = 12) (h : f_X10_sleeps1_64 k2 a0 i1 i2 s0 s1 s2 σ = some res) : SV g (d + 1) yy_X10_sleeps1 64 [(0, .ref a0), (1, .int i1), (2, .int i2)] [.int s2, .int s1, .ref s0] σ .null res := by
  unfold f_X10_sleeps1_64 at h
  obtain ⟨q1, h⟩ := gd_some h
  refine s_iast dX10_sleeps1_64 (ka_2 h_s0) q1 ?_
  obtain ⟨σ2, q3, h⟩ := lt_some h
  refine s_nms q3 ?_
  refine e_aload_n 0 dX10_sleeps1_65 rfl rfl ?_
  refine s_getr dX10_sleeps1_66 fl_RX10_39 h_a0 (r_10_20 h_a0).1 ?_
  refine e_iload_n 2 dX10_sleeps1_69 rfl rfl ?_
  refine e_iconst (v := (4 : Int32)) dX10_sleeps1_70 (by decide) ?_
  refine e_iadd dX10_sleeps1_71 ?_
  refine e_dup2 dX10_sleeps1_72 rfl rfl ?_
  obtain ⟨q4, h⟩ := gd_some h
  refine s_iald dX10_sleeps1_73 (r_10_20 (w := 0) h_a0).2 q4 ?_
  refine e_iconst (v := (1 : Int32)) dX10_sleeps1_74 (by decide) ?_
  refine e_iadd dX10_sleeps1_75 ?_
  obtain ⟨q5, h⟩ := gd_some h
  refine s_iast dX10_sleeps1_76 (r_10_20 (w := 0) h_a0).2 q5 ?_
  obtain ⟨σ6, q7, h⟩ := lt_some h
  refine s_nms q7 ?_
  refine e_goto 101 dX10_sleeps1_77 (by decide) ?_
  obtain ⟨x8, q9, h⟩ := lt_some h
  refine e_iinc (v := x8) (L' := [(0, .ref a0), (1, .int x8), (2, .int i2)]) 1 dX10_sleeps1_101 rfl q9.symm (by decide) rfl ?_
  refine e_goto 2 dX10_sleeps1_104 (by decide) ?_
  refine s_pick (L' := [(0, .ref a0), (1, .int x8)]) [0, 1] rfl ?_
  exact H2 x8 σ6 h
def f_X10_sleeps1_2 (a0 : Nat) (i1 : Int32) (σ : mm_S) : Option (mm_S) :=
  lp lpN (fun (k2 : (Int32) → mm_S → Option (mm_S)) (v : Int32) (σ : mm_S) =>
    gd (3 : Int32) 121 <|
    if (σ.1 224 (3 : Int32).toNatClampNeg) ≤ v then
      some σ
    else
      lt (((11 : Int32) + ((5 : Int32) * v))) fun x12 =>
      bd (f_X10_isIn a0 v σ) fun r16 σ15 =>
      if r16 = 0 then
        gd x12 121 <|
        if (99 : Int32) ≤ (σ15.1 224 x12.toNatClampNeg) then
          lt (v + Int32.ofInt (1)) fun x20 =>
          k2 x20 σ15
        else
          gd x12 121 <|
          gd x12 121 <|
          lt (su_i σ15 224 x12.toNatClampNeg ((σ15.1 224 x12.toNatClampNeg) + (1 : Int32))) fun σ24 =>
          lt (v + Int32.ofInt (1)) fun x26 =>
          k2 x26 σ24
      else
        gd x12 121 <|
        gd (1 : Int32) 121 <|
        if (σ15.1 224 x12.toNatClampNeg) ≤ (σ15.1 224 (1 : Int32).toNatClampNeg) then
          f_X10_sleeps1_64 k2 a0 v x12 224 x12 (0 : Int32) σ15
        else
          gd x12 121 <|
          gd (1 : Int32) 121 <|
          f_X10_sleeps1_64 k2 a0 v x12 224 x12 ((σ15.1 224 x12.toNatClampNeg) - (σ15.1 224 (1 : Int32).toNatClampNeg)) σ15) i1 σ
theorem v_X10_sleeps1_2 {g : mm_G} (d : Nat) {a0 : Nat} {i1 : Int32} {σ : mm_S} {res : mm_S}  (h_a0 : (mm_K a0).1 = 10) (h : f_X10_sleeps1_2 a0 i1 σ = some res) : SV g (d + 1) yy_X10_sleeps1 2 [(0, .ref a0), (1, .int i1)] [] σ .null res := by
  unfold f_X10_sleeps1_2 at h
  refine lp_ind (P := fun v σ => SV g (d + 1) yy_X10_sleeps1 2 [(0, .ref a0), (1, .int v)] [] σ .null res) (fun k2 H2 v σ h => ?_) _ i1 σ h
  refine e_iload_n 1 dX10_sleeps1_2 rfl rfl ?_
  refine e_aload_n 0 dX10_sleeps1_3 rfl rfl ?_
  refine s_getr dX10_sleeps1_4 fl_RX10_39 h_a0 (r_10_20 h_a0).1 ?_
  refine e_iconst (v := (3 : Int32)) dX10_sleeps1_7 (by decide) ?_
  obtain ⟨q10, h⟩ := gd_some h
  refine s_iald dX10_sleeps1_8 (r_10_20 (w := 0) h_a0).2 q10 ?_
  refine e_icmp_ge 107 dX10_sleeps1_9 (by decide) (fun c11 => ?_) (fun c11 => ?_)
  · rw [if_pos c11] at h
    obtain rfl := Option.some.inj h
    exact s_ret rfl rfl dX10_sleeps1_107
  · rw [if_neg c11] at h
    refine e_bipush (v := (11 : Int32)) dX10_sleeps1_12 (by decide) ?_
    refine e_iconst (v := (5 : Int32)) dX10_sleeps1_14 (by decide) ?_
    refine e_iload_n 1 dX10_sleeps1_15 rfl rfl ?_
    refine e_imul dX10_sleeps1_16 ?_
    refine e_iadd dX10_sleeps1_17 ?_
    obtain ⟨x12, q13, h⟩ := lt_some h
    refine s_nmi q13 ?_
    refine e_istore_n (L' := [(0, .ref a0), (1, .int v), (2, .int x12)]) dX10_sleeps1_18 rfl (by decide) rfl ?_
    refine e_aload_n 0 dX10_sleeps1_19 rfl rfl ?_
    refine e_iload_n 1 dX10_sleeps1_20 rfl rfl ?_
    obtain ⟨r16, σ15, q14, h⟩ := bd_some h
    refine s_callVi [.int v] dX10_sleeps1_21 ml_RX10_302 h_a0 ⟨_, rfl, by decide⟩ rfl (v_X10_isIn (d + 0) h_a0 q14) (Nat.le_of_ble_eq_true rfl) ?_
    refine e_if_eq 80 dX10_sleeps1_24 (by decide) (fun c17 => ?_) (fun c17 => ?_)
    · rw [if_pos c17] at h
      refine e_aload_n 0 dX10_sleeps1_80 rfl rfl ?_
      refine s_getr dX10_sleeps1_81 fl_RX10_39 h_a0 (r_10_20 h_a0).1 ?_
      refine e_iload_n 2 dX10_sleeps1_84 rfl rfl ?_
      obtain ⟨q18, h⟩ := gd_some h
      refine s_iald dX10_sleeps1_85 (r_10_20 (w := 0) h_a0).2 q18 ?_
      refine e_bipush (v := (99 : Int32)) dX10_sleeps1_86 (by decide) ?_
      refine e_icmp_ge 101 dX10_sleeps1_88 (by decide) (fun c19 => ?_) (fun c19 => ?_)
      · rw [if_pos c19] at h
        obtain ⟨x20, q21, h⟩ := lt_some h
        refine e_iinc (v := x20) (L' := [(0, .ref a0), (1, .int x20), (2, .int x12)]) 1 dX10_sleeps1_101 rfl q21.symm (by decide) rfl ?_
        refine e_goto 2 dX10_sleeps1_104 (by decide) ?_
        refine s_pick (L' := [(0, .ref a0), (1, .int x20)]) [0, 1] rfl ?_
        exact H2 x20 σ15 h
      · rw [if_neg c19] at h
        refine e_aload_n 0 dX10_sleeps1_91 rfl rfl ?_
        refine s_getr dX10_sleeps1_92 fl_RX10_39 h_a0 (r_10_20 h_a0).1 ?_
        refine e_iload_n 2 dX10_sleeps1_95 rfl rfl ?_
        refine e_dup2 dX10_sleeps1_96 rfl rfl ?_
        obtain ⟨q22, h⟩ := gd_some h
        refine s_iald dX10_sleeps1_97 (r_10_20 (w := 0) h_a0).2 q22 ?_
        refine e_iconst (v := (1 : Int32)) dX10_sleeps1_98 (by decide) ?_
        refine e_iadd dX10_sleeps1_99 ?_
        obtain ⟨q23, h⟩ := gd_some h
        refine s_iast dX10_sleeps1_100 (r_10_20 (w := 0) h_a0).2 q23 ?_
        obtain ⟨σ24, q25, h⟩ := lt_some h
        refine s_nms q25 ?_
        obtain ⟨x26, q27, h⟩ := lt_some h
        refine e_iinc (v := x26) (L' := [(0, .ref a0), (1, .int x26), (2, .int x12)]) 1 dX10_sleeps1_101 rfl q27.symm (by decide) rfl ?_
        refine e_goto 2 dX10_sleeps1_104 (by decide) ?_
        refine s_pick (L' := [(0, .ref a0), (1, .int x26)]) [0, 1] rfl ?_
        exact H2 x26 σ24 h
    · rw [if_neg c17] at h
      refine e_aload_n 0 dX10_sleeps1_27 rfl rfl ?_
      refine s_getr dX10_sleeps1_28 fl_RX10_39 h_a0 (r_10_20 h_a0).1 ?_
      refine e_iload_n 2 dX10_sleeps1_31 rfl rfl ?_
      refine e_aload_n 0 dX10_sleeps1_32 rfl rfl ?_
      refine s_getr dX10_sleeps1_33 fl_RX10_39 h_a0 (r_10_20 h_a0).1 ?_
      refine e_iload_n 2 dX10_sleeps1_36 rfl rfl ?_
      obtain ⟨q28, h⟩ := gd_some h
      refine s_iald dX10_sleeps1_37 (r_10_20 (w := 0) h_a0).2 q28 ?_
      refine e_aload_n 0 dX10_sleeps1_38 rfl rfl ?_
      refine s_getr dX10_sleeps1_39 fl_RX10_39 h_a0 (r_10_20 h_a0).1 ?_
      refine e_iconst (v := (1 : Int32)) dX10_sleeps1_42 (by decide) ?_
      obtain ⟨q29, h⟩ := gd_some h
      refine s_iald dX10_sleeps1_43 (r_10_20 (w := 0) h_a0).2 q29 ?_
      refine e_icmp_le 63 dX10_sleeps1_44 (by decide) (fun c30 => ?_) (fun c30 => ?_)
      · rw [if_pos c30] at h
        refine e_iconst (v := (0 : Int32)) dX10_sleeps1_63 (by decide) ?_
        refine s_pick (L' := [(0, .ref a0), (1, .int v), (2, .int x12)]) [0, 1, 2] rfl ?_
        exact v_X10_sleeps1_64 d H2 h_a0 (ka_1 (r_10_20 (w := 0) h_a0).2) h
      · rw [if_neg c30] at h
        refine e_aload_n 0 dX10_sleeps1_47 rfl rfl ?_
        refine s_getr dX10_sleeps1_48 fl_RX10_39 h_a0 (r_10_20 h_a0).1 ?_
        refine e_iload_n 2 dX10_sleeps1_51 rfl rfl ?_
        obtain ⟨q31, h⟩ := gd_some h
        refine s_iald dX10_sleeps1_52 (r_10_20 (w := 0) h_a0).2 q31 ?_
        refine e_aload_n 0 dX10_sleeps1_53 rfl rfl ?_
        refine s_getr dX10_sleeps1_54 fl_RX10_39 h_a0 (r_10_20 h_a0).1 ?_
        refine e_iconst (v := (1 : Int32)) dX10_sleeps1_57 (by decide) ?_
        obtain ⟨q32, h⟩ := gd_some h
        refine s_iald dX10_sleeps1_58 (r_10_20 (w := 0) h_a0).2 q32 ?_
        refine e_isub dX10_sleeps1_59 ?_
        refine e_goto 64 dX10_sleeps1_60 (by decide) ?_
        refine s_pick (L' := [(0, .ref a0), (1, .int v), (2, .int x12)]) [0, 1, 2] rfl ?_
        exact v_X10_sleeps1_64 d H2 h_a0 (ka_1 (r_10_20 (w := 0) h_a0).2) h
def f_X10_sleeps1 (a0 : Nat) (σ : mm_S) : Option (mm_S) :=
    f_X10_sleeps1_2 a0 (0 : Int32) σ
theorem v_X10_sleeps1 {g : mm_G} (d : Nat) {a0 : Nat} {σ : mm_S} {res : mm_S} (h_a0 : (mm_K a0).1 = 10) (h : f_X10_sleeps1 a0 σ = some res) : SM g (d + 1) yy_X10_sleeps1 [.ref a0] σ .null res := by
  refine s_of (by decide) (Nat.le_of_ble_eq_true rfl) (L := [(0, .ref a0)]) rfl ?_
  unfold f_X10_sleeps1 at h
  refine e_iconst (v := (0 : Int32)) dX10_sleeps1_0 (by decide) ?_
  refine e_istore_n (L' := [(0, .ref a0), (1, .int (0 : Int32))]) dX10_sleeps1_1 rfl (by decide) rfl ?_
  refine s_pick (L' := [(0, .ref a0), (1, .int (0 : Int32))]) [0, 1] rfl ?_
  exact v_X10_sleeps1_2 d h_a0 h
