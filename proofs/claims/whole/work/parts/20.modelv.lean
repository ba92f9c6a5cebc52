abbrev yy_X10_back : mm_Y := (yX10_back, cX10_back, 3, (some .int))
theorem dX10_back_0 : decode cX10_back 0 = .ok (.iload_n 1, 1) := by decide +kernel
theorem dX10_back_1 : decode cX10_back 1 = .ok (.i2l, 1) := by decide +kernel
theorem dX10_back_2 : decode cX10_back 2 = .ok (.lconst 0, 1) := by decide +kernel
theorem dX10_back_3 : decode cX10_back 3 = .ok (.ldc2_w 480, 3) := by decide +kernel
theorem dX10_back_6 : decode cX10_back 6 = .ok (.invokestatic 136, 3) := by decide +kernel
theorem dX10_back_9 : decode cX10_back 9 = .ok (.ifCond .eq 12, 3) := by decide +kernel
theorem dX10_back_12 : decode cX10_back 12 = .ok (.aload_n 0, 1) := by decide +kernel
theorem dX10_back_13 : decode cX10_back 13 = .ok (.getfield 95, 3) := by decide +kernel
theorem dX10_back_16 : decode cX10_back 16 = .ok (.iload_n 1, 1) := by decide +kernel
theorem dX10_back_17 : decode cX10_back 17 = .ok (.baload, 1) := by decide +kernel
theorem dX10_back_18 : decode cX10_back 18 = .ok (.ifCond .ne 5, 3) := by decide +kernel
theorem dX10_back_21 : decode cX10_back 21 = .ok (.iconst (-1), 1) := by decide +kernel
theorem dX10_back_22 : decode cX10_back 22 = .ok (.ireturn, 1) := by decide +kernel
theorem dX10_back_23 : decode cX10_back 23 = .ok (.aload_n 0, 1) := by decide +kernel
theorem dX10_back_24 : decode cX10_back 24 = .ok (.aload_n 0, 1) := by decide +kernel
theorem dX10_back_25 : decode cX10_back 25 = .ok (.getfield 89, 3) := by decide +kernel
theorem dX10_back_28 : decode cX10_back 28 = .ok (.iload_n 1, 1) := by decide +kernel
theorem dX10_back_29 : decode cX10_back 29 = .ok (.iaload, 1) := by decide +kernel
theorem dX10_back_30 : decode cX10_back 30 = .ok (.putfield 42, 3) := by decide +kernel
theorem dX10_back_33 : decode cX10_back 33 = .ok (.aload_n 0, 1) := by decide +kernel
theorem dX10_back_34 : decode cX10_back 34 = .ok (.aload_n 0, 1) := by decide +kernel
theorem dX10_back_35 : decode cX10_back 35 = .ok (.getfield 92, 3) := by decide +kernel
theorem dX10_back_38 : decode cX10_back 38 = .ok (.iload_n 1, 1) := by decide +kernel
theorem dX10_back_39 : decode cX10_back 39 = .ok (.iaload, 1) := by decide +kernel
theorem dX10_back_40 : decode cX10_back 40 = .ok (.putfield 457, 3) := by decide +kernel
theorem dX10_back_43 : decode cX10_back 43 = .ok (.aload_n 0, 1) := by decide +kernel
theorem dX10_back_44 : decode cX10_back 44 = .ok (.iconst 0, 1) := by decide +kernel
theorem dX10_back_45 : decode cX10_back 45 = .ok (.putfield 284, 3) := by decide +kernel
theorem dX10_back_48 : decode cX10_back 48 = .ok (.iconst 0, 1) := by decide +kernel
theorem dX10_back_49 : decode cX10_back 49 = .ok (.istore_n 2, 1) := by decide +kernel
theorem dX10_back_50 : decode cX10_back 50 = .ok (.iload_n 2, 1) := by decide +kernel
theorem dX10_back_51 : decode cX10_back 51 = .ok (.bipush 121, 2) := by decide +kernel
theorem dX10_back_53 : decode cX10_back 53 = .ok (.if_icmp .ge 26, 3) := by decide +kernel
theorem dX10_back_56 : decode cX10_back 56 = .ok (.aload_n 0, 1) := by decide +kernel
theorem dX10_back_57 : decode cX10_back 57 = .ok (.getfield 39, 3) := by decide +kernel
theorem dX10_back_60 : decode cX10_back 60 = .ok (.iload_n 2, 1) := by decide +kernel
theorem dX10_back_61 : decode cX10_back 61 = .ok (.aload_n 0, 1) := by decide +kernel
theorem dX10_back_62 : decode cX10_back 62 = .ok (.getfield 86, 3) := by decide +kernel
theorem dX10_back_65 : decode cX10_back 65 = .ok (.bipush 121, 2) := by decide +kernel
theorem dX10_back_67 : decode cX10_back 67 = .ok (.iload_n 1, 1) := by decide +kernel
theorem dX10_back_68 : decode cX10_back 68 = .ok (.imul, 1) := by decide +kernel
theorem dX10_back_69 : decode cX10_back 69 = .ok (.iload_n 2, 1) := by decide +kernel
theorem dX10_back_70 : decode cX10_back 70 = .ok (.iadd, 1) := by decide +kernel
theorem dX10_back_71 : decode cX10_back 71 = .ok (.iaload, 1) := by decide +kernel
theorem dX10_back_72 : decode cX10_back 72 = .ok (.iastore, 1) := by decide +kernel
theorem dX10_back_73 : decode cX10_back 73 = .ok (.iinc 2 1, 3) := by decide +kernel
theorem dX10_back_76 : decode cX10_back 76 = .ok (.goto (-26), 3) := by decide +kernel
theorem dX10_back_79 : decode cX10_back 79 = .ok (.aload_n 0, 1) := by decide +kernel
theorem dX10_back_80 : decode cX10_back 80 = .ok (.getfield 39, 3) := by decide +kernel
theorem dX10_back_83 : decode cX10_back 83 = .ok (.bipush 10, 2) := by decide +kernel
theorem dX10_back_85 : decode cX10_back 85 = .ok (.iaload, 1) := by decide +kernel
theorem dX10_back_86 : decode cX10_back 86 = .ok (.ireturn, 1) := by decide +kernel
def f_X10_back_50 (a0 : Nat) (i1 : Int32) (i2 : Int32) (σ : mm_S) : Option (Int32 × mm_S) :=
  lp lpN (fun (k50 : (Int32) → mm_S → Option (Int32 × mm_S)) (v : Int32) (σ : mm_S) =>
    if (121 : Int32) ≤ v then
      gd (10 : Int32) 121 <|
      some ((σ.1 224 (10 : Int32).toNatClampNeg), σ)
    else
      gd (((121 : Int32) * i1) + v) 484 <|
      gd v 121 <|
      lt (su_i σ 224 v.toNatClampNeg (σ.1 236 (((121 : Int32) * i1) + v).toNatClampNeg)) fun σ5 =>
      lt (v + Int32.ofInt (1)) fun x7 =>
      k50 x7 σ5) i2 σ
theorem v_X10_back_50 {g : mm_G} (d : Nat) {a0 : Nat} {i1 : Int32} {i2 : Int32} {σ : mm_S} {res : Int32 × mm_S}  (h_a0 : (mm_K a0).1 = 10) (h : f_X10_back_50 a0 i1 i2 σ = some res) : SV g (d + 1) yy_X10_back 50 [(0, .ref a0), (1, .int i1), (2, .int i2)] [] σ (.int res.1) res.2 := by
  unfold f_X10_back_50 at h
  refine lp_ind (P := fun v σ => SV g (d + 1) yy_X10_back 50 [(0, .ref a0), (1, .int i1), (2, .int v)] [] σ (.int res.1) res.2) (fun k50 H50 v σ h => ?_) _ i2 σ h
  refine e_iload_n 2 dX10_back_50 rfl rfl ?_
  refine e_bipush (v := (121 : Int32)) dX10_back_51 (by decide) ?_
  refine e_icmp_ge 79 dX10_back_53 (by decide) (fun c1 => ?_) (fun c1 => ?_)
  · rw [if_pos c1] at h
    refine e_aload_n 0 dX10_back_79 rfl rfl ?_
    refine s_getr dX10_back_80 fl_RX10_39 h_a0 (r_10_20 h_a0).1 ?_
    refine e_bipush (v := (10 : Int32)) dX10_back_83 (by decide) ?_
    obtain ⟨q2, h⟩ := gd_some h
    refine s_iald dX10_back_85 (r_10_20 (w := 0) h_a0).2 q2 ?_
    obtain rfl := Option.some.inj h
    exact s_ret rfl ⟨_, rfl, rfl⟩ dX10_back_86
  · rw [if_neg c1] at h
    refine e_aload_n 0 dX10_back_56 rfl rfl ?_
    refine s_getr dX10_back_57 fl_RX10_39 h_a0 (r_10_20 h_a0).1 ?_
    refine e_iload_n 2 dX10_back_60 rfl rfl ?_
    refine e_aload_n 0 dX10_back_61 rfl rfl ?_
    refine s_getr dX10_back_62 fl_RX10_86 h_a0 (r_10_42 h_a0).1 ?_
    refine e_bipush (v := (121 : Int32)) dX10_back_65 (by decide) ?_
    refine e_iload_n 1 dX10_back_67 rfl rfl ?_
    refine e_imul dX10_back_68 ?_
    refine e_iload_n 2 dX10_back_69 rfl rfl ?_
    refine e_iadd dX10_back_70 ?_
    obtain ⟨q3, h⟩ := gd_some h
    refine s_iald dX10_back_71 (r_10_42 (w := 0) h_a0).2 q3 ?_
    obtain ⟨q4, h⟩ := gd_some h
    refine s_iast dX10_back_72 (r_10_20 (w := 0) h_a0).2 q4 ?_
    obtain ⟨σ5, q6, h⟩ := lt_some h
    refine s_nms q6 ?_
    obtain ⟨x7, q8, h⟩ := lt_some h
    refine e_iinc (v := x7) (L' := [(0, .ref a0), (1, .int i1), (2, .int x7)]) 2 dX10_back_73 rfl q8.symm (by decide) rfl ?_
    refine e_goto 50 dX10_back_76 (by decide) ?_
    refine s_pick (L' := [(0, .ref a0), (1, .int i1), (2, .int x7)]) [0, 1, 2] rfl ?_
    exact H50 x7 σ5 h
def f_X10_back (a0 : Nat) (i1 : Int32) (σ : mm_S) : Option (Int32 × mm_S) :=
    bd (f_X10_in (i1 : Int32).toInt64 (0 : Int64) (3 : Int64) σ) fun r25 σ24 =>
    if r25 = 0 then
      some ((-1 : Int32), σ24)
    else
      gd i1 4 <|
      if (σ24.1 239 i1.toNatClampNeg) = 0 then
        some ((-1 : Int32), σ24)
      else
        gd i1 4 <|
        lt (su_i σ24 a0 21 (σ24.1 237 i1.toNatClampNeg)) fun σ30 =>
        gd i1 4 <|
        lt (su_i σ30 a0 22 (σ30.1 238 i1.toNatClampNeg)) fun σ33 =>
        lt (su_i σ33 a0 31 (0 : Int32)) fun σ35 =>
        f_X10_back_50 a0 i1 (0 : Int32) σ35
theorem v_X10_back {g : mm_G} (d : Nat) {a0 : Nat} {i1 : Int32} {σ : mm_S} {res : Int32 × mm_S} (h_a0 : (mm_K a0).1 = 10) (h : f_X10_back a0 i1 σ = some res) : SM g (d + 1) yy_X10_back [.ref a0, .int i1] σ (.int res.1) res.2 := by
  refine s_of (by decide) (Nat.le_of_ble_eq_true rfl) (L := [(0, .ref a0), (1, .int i1)]) rfl ?_
  unfold f_X10_back at h
  refine e_iload_n 1 dX10_back_0 rfl rfl ?_
  refine e_i2l dX10_back_1 ?_
  refine e_lconst (v := (0 : Int64)) dX10_back_2 (by decide) ?_
  refine e_ldc2 dX10_back_3 co_RX10_480 ?_
  obtain ⟨r25, σ24, q23, h⟩ := bd_some h
  refine s_callSi [.long (i1 : Int32).toInt64, .long (0 : Int64), .long (3 : Int64)] dX10_back_6 ml_RX10_136 ⟨_, rfl, by decide⟩ rfl (v_X10_in (d + 0)  q23) (Nat.le_of_ble_eq_true rfl) ?_
  refine e_if_eq 21 dX10_back_9 (by decide) (fun c26 => ?_) (fun c26 => ?_)
  · rw [if_pos c26] at h
    refine e_iconst (v := (-1 : Int32)) dX10_back_21 (by decide) ?_
    obtain rfl := Option.some.inj h
    exact s_ret rfl ⟨_, rfl, rfl⟩ dX10_back_22
  · rw [if_neg c26] at h
    refine e_aload_n 0 dX10_back_12 rfl rfl ?_
    refine s_getr dX10_back_13 fl_RX10_95 h_a0 (r_10_45 h_a0).1 ?_
    refine e_iload_n 1 dX10_back_16 rfl rfl ?_
    obtain ⟨q27, h⟩ := gd_some h
    refine s_zald dX10_back_17 (r_10_45 (w := 0) h_a0).2 q27 ?_
    refine e_if_ne 23 dX10_back_18 (by decide) (fun c28 => ?_) (fun c28 => ?_)
    · rw [if_neg c28] at h
      refine e_aload_n 0 dX10_back_23 rfl rfl ?_
      refine e_aload_n 0 dX10_back_24 rfl rfl ?_
      refine s_getr dX10_back_25 fl_RX10_89 h_a0 (r_10_43 h_a0).1 ?_
      refine e_iload_n 1 dX10_back_28 rfl rfl ?_
      obtain ⟨q29, h⟩ := gd_some h
      refine s_iald dX10_back_29 (r_10_43 (w := 0) h_a0).2 q29 ?_
      refine s_puti dX10_back_30 fl_RX10_42 h_a0 rfl rfl rfl ?_
      obtain ⟨σ30, q31, h⟩ := lt_some h
      refine s_nms q31 ?_
      refine e_aload_n 0 dX10_back_33 rfl rfl ?_
      refine e_aload_n 0 dX10_back_34 rfl rfl ?_
      refine s_getr dX10_back_35 fl_RX10_92 h_a0 (r_10_44 h_a0).1 ?_
      refine e_iload_n 1 dX10_back_38 rfl rfl ?_
      obtain ⟨q32, h⟩ := gd_some h
      refine s_iald dX10_back_39 (r_10_44 (w := 0) h_a0).2 q32 ?_
      refine s_puti dX10_back_40 fl_RX10_457 h_a0 rfl rfl rfl ?_
      obtain ⟨σ33, q34, h⟩ := lt_some h
      refine s_nms q34 ?_
      refine e_aload_n 0 dX10_back_43 rfl rfl ?_
      refine e_iconst (v := (0 : Int32)) dX10_back_44 (by decide) ?_
      refine s_puti dX10_back_45 fl_RX10_284 h_a0 rfl rfl rfl ?_
      obtain ⟨σ35, q36, h⟩ := lt_some h
      refine s_nms q36 ?_
      refine e_iconst (v := (0 : Int32)) dX10_back_48 (by decide) ?_
      refine e_istore_n (L' := [(0, .ref a0), (1, .int i1), (2, .int (0 : Int32))]) dX10_back_49 rfl (by decide) rfl ?_
      refine s_pick (L' := [(0, .ref a0), (1, .int i1), (2, .int (0 : Int32))]) [0, 1, 2] rfl ?_
      exact v_X10_back_50 d h_a0 h
    · rw [if_pos c28] at h
      refine e_iconst (v := (-1 : Int32)) dX10_back_21 (by decide) ?_
      obtain rfl := Option.some.inj h
      exact s_ret rfl ⟨_, rfl, rfl⟩ dX10_back_22
