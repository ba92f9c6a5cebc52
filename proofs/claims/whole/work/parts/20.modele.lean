abbrev yy_X10_closes : mm_Y := (yX10_closes, cX10_closes, 1, none)
theorem dX10_closes_0 : decode cX10_closes 0 = .ok (.aload_n 0, 1) := by decide +kernel
theorem dX10_closes_1 : decode cX10_closes 1 = .ok (.iconst 3, 1) := by decide +kernel
theorem dX10_closes_2 : decode cX10_closes 2 = .ok (.invokevirtual 214, 3) := by decide +kernel
theorem dX10_closes_5 : decode cX10_closes 5 = .ok (.aload_n 0, 1) := by decide +kernel
theorem dX10_closes_6 : decode cX10_closes 6 = .ok (.invokevirtual 111, 3) := by decide +kernel
theorem dX10_closes_9 : decode cX10_closes 9 = .ok (.bipush 93, 2) := by decide +kernel
theorem dX10_closes_11 : decode cX10_closes 11 = .ok (.if_icmp .ne 53, 3) := by decide +kernel
theorem dX10_closes_14 : decode cX10_closes 14 = .ok (.aload_n 0, 1) := by decide +kernel
theorem dX10_closes_15 : decode cX10_closes 15 = .ok (.invokevirtual 217, 3) := by decide +kernel
theorem dX10_closes_18 : decode cX10_closes 18 = .ok (.ifCond .eq 46, 3) := by decide +kernel
theorem dX10_closes_21 : decode cX10_closes 21 = .ok (.aload_n 0, 1) := by decide +kernel
theorem dX10_closes_22 : decode cX10_closes 22 = .ok (.iconst 1, 1) := by decide +kernel
theorem dX10_closes_23 : decode cX10_closes 23 = .ok (.invokevirtual 214, 3) := by decide +kernel
theorem dX10_closes_26 : decode cX10_closes 26 = .ok (.aload_n 0, 1) := by decide +kernel
theorem dX10_closes_27 : decode cX10_closes 27 = .ok (.dup, 1) := by decide +kernel
theorem dX10_closes_28 : decode cX10_closes 28 = .ok (.getfield 175, 3) := by decide +kernel
theorem dX10_closes_31 : decode cX10_closes 31 = .ok (.iconst 1, 1) := by decide +kernel
theorem dX10_closes_32 : decode cX10_closes 32 = .ok (.isub, 1) := by decide +kernel
theorem dX10_closes_33 : decode cX10_closes 33 = .ok (.putfield 175, 3) := by decide +kernel
theorem dX10_closes_36 : decode cX10_closes 36 = .ok (.aload_n 0, 1) := by decide +kernel
theorem dX10_closes_37 : decode cX10_closes 37 = .ok (.dup, 1) := by decide +kernel
theorem dX10_closes_38 : decode cX10_closes 38 = .ok (.getfield 172, 3) := by decide +kernel
theorem dX10_closes_41 : decode cX10_closes 41 = .ok (.iconst 1, 1) := by decide +kernel
theorem dX10_closes_42 : decode cX10_closes 42 = .ok (.isub, 1) := by decide +kernel
theorem dX10_closes_43 : decode cX10_closes 43 = .ok (.putfield 172, 3) := by decide +kernel
theorem dX10_closes_46 : decode cX10_closes 46 = .ok (.aload_n 0, 1) := by decide +kernel
theorem dX10_closes_47 : decode cX10_closes 47 = .ok (.dup, 1) := by decide +kernel
theorem dX10_closes_48 : decode cX10_closes 48 = .ok (.getfield 108, 3) := by decide +kernel
theorem dX10_closes_51 : decode cX10_closes 51 = .ok (.iconst 1, 1) := by decide +kernel
theorem dX10_closes_52 : decode cX10_closes 52 = .ok (.iadd, 1) := by decide +kernel
theorem dX10_closes_53 : decode cX10_closes 53 = .ok (.putfield 108, 3) := by decide +kernel
theorem dX10_closes_56 : decode cX10_closes 56 = .ok (.aload_n 0, 1) := by decide +kernel
theorem dX10_closes_57 : decode cX10_closes 57 = .ok (.iconst 3, 1) := by decide +kernel
theorem dX10_closes_58 : decode cX10_closes 58 = .ok (.invokevirtual 214, 3) := by decide +kernel
theorem dX10_closes_61 : decode cX10_closes 61 = .ok (.goto (-56), 3) := by decide +kernel
theorem dX10_closes_64 : decode cX10_closes 64 = .ok (.return_, 1) := by decide +kernel
def f_X10_closes_5 (a0 : Nat) (σ : mm_S) : Option (mm_S) :=
  lp lpN (fun (k5 : (Unit) → mm_S → Option (mm_S)) (v : Unit) (σ : mm_S) =>
    bd (f_X10_see a0 σ) fun r3 σ2 =>
    if r3 = (93 : Int32) then
      bd (f_X10_isInside a0 σ2) fun r7 σ6 =>
      if r7 = 0 then
        some σ6
      else
        bv (f_X10_layDown a0 (1 : Int32) σ6) fun σ10 =>
        lt (su_i σ10 a0 16 ((σ10.1 a0 16) - (1 : Int32))) fun σ11 =>
        lt (su_i σ11 a0 13 ((σ11.1 a0 13) - (1 : Int32))) fun σ13 =>
        lt (su_i σ13 a0 8 ((σ13.1 a0 8) + (1 : Int32))) fun σ15 =>
        bv (f_X10_layDown a0 (3 : Int32) σ15) fun σ18 =>
        k5 () σ18
    else
      some σ2) () σ
theorem v_X10_closes_5 {g : mm_G} (d : Nat) {a0 : Nat} {σ : mm_S} {res : mm_S}  (h_a0 : (mm_K a0).1 = 10) (h : f_X10_closes_5 a0 σ = some res) : SV g (d + 2) yy_X10_closes 5 [(0, .ref a0)] [] σ .null res := by
  unfold f_X10_closes_5 at h
  refine lp_ind (P := fun v σ => SV g (d + 2) yy_X10_closes 5 [(0, .ref a0)] [] σ .null res) (fun k5 H5 v σ h => ?_) _ () σ h
  refine e_aload_n 0 dX10_closes_5 rfl rfl ?_
  obtain ⟨r3, σ2, q1, h⟩ := bd_some h
  refine s_callVi [] dX10_closes_6 ml_RX10_111 h_a0 ⟨_, rfl, by decide⟩ rfl (v_X10_see (d + 1) h_a0 q1) (Nat.le_of_ble_eq_true rfl) ?_
  refine e_bipush (v := (93 : Int32)) dX10_closes_9 (by decide) ?_
  refine e_icmp_ne 64 dX10_closes_11 (by decide) (fun c4 => ?_) (fun c4 => ?_)
  · rw [if_neg c4] at h
    obtain rfl := Option.some.inj h
    exact s_ret rfl rfl dX10_closes_64
  · rw [if_pos c4] at h
    refine e_aload_n 0 dX10_closes_14 rfl rfl ?_
    obtain ⟨r7, σ6, q5, h⟩ := bd_some h
    refine s_callVi [] dX10_closes_15 ml_RX10_217 h_a0 ⟨_, rfl, by decide⟩ rfl (v_X10_isInside (d + 1) h_a0 q5) (Nat.le_of_ble_eq_true rfl) ?_
    refine e_if_eq 64 dX10_closes_18 (by decide) (fun c8 => ?_) (fun c8 => ?_)
    · rw [if_pos c8] at h
      obtain rfl := Option.some.inj h
      exact s_ret rfl rfl dX10_closes_64
    · rw [if_neg c8] at h
      refine e_aload_n 0 dX10_closes_21 rfl rfl ?_
      refine e_iconst (v := (1 : Int32)) dX10_closes_22 (by decide) ?_
      obtain ⟨σ10, q9, h⟩ := bv_some h
      refine s_callVv [.int (1 : Int32)] dX10_closes_23 ml_RX10_214 h_a0 rfl rfl (v_X10_layDown (d + 0) h_a0 q9) (Nat.le_of_ble_eq_true rfl) ?_
      refine e_aload_n 0 dX10_closes_26 rfl rfl ?_
      refine e_dup dX10_closes_27 rfl ?_
      refine s_geti dX10_closes_28 fl_RX10_175 h_a0 ?_
      refine e_iconst (v := (1 : Int32)) dX10_closes_31 (by decide) ?_
      refine e_isub dX10_closes_32 ?_
      refine s_puti dX10_closes_33 fl_RX10_175 h_a0 rfl rfl rfl ?_
      obtain ⟨σ11, q12, h⟩ := lt_some h
      refine s_nms q12 ?_
      refine e_aload_n 0 dX10_closes_36 rfl rfl ?_
      refine e_dup dX10_closes_37 rfl ?_
      refine s_geti dX10_closes_38 fl_RX10_172 h_a0 ?_
      refine e_iconst (v := (1 : Int32)) dX10_closes_41 (by decide) ?_
      refine e_isub dX10_closes_42 ?_
      refine s_puti dX10_closes_43 fl_RX10_172 h_a0 rfl rfl rfl ?_
      obtain ⟨σ13, q14, h⟩ := lt_some h
      refine s_nms q14 ?_
      refine e_aload_n 0 dX10_closes_46 rfl rfl ?_
      refine e_dup dX10_closes_47 rfl ?_
      refine s_geti dX10_closes_48 fl_RX10_108 h_a0 ?_
      refine e_iconst (v := (1 : Int32)) dX10_closes_51 (by decide) ?_
      refine e_iadd dX10_closes_52 ?_
      refine s_puti dX10_closes_53 fl_RX10_108 h_a0 rfl rfl rfl ?_
      obtain ⟨σ15, q16, h⟩ := lt_some h
      refine s_nms q16 ?_
      refine e_aload_n 0 dX10_closes_56 rfl rfl ?_
      refine e_iconst (v := (3 : Int32)) dX10_closes_57 (by decide) ?_
      obtain ⟨σ18, q17, h⟩ := bv_some h
      refine s_callVv [.int (3 : Int32)] dX10_closes_58 ml_RX10_214 h_a0 rfl rfl (v_X10_layDown (d + 0) h_a0 q17) (Nat.le_of_ble_eq_true rfl) ?_
      refine e_goto 5 dX10_closes_61 (by decide) ?_
      refine s_pick (L' := [(0, .ref a0)]) [0] rfl ?_
      exact H5 () σ18 h
def f_X10_closes (a0 : Nat) (σ : mm_S) : Option (mm_S) :=
    bv (f_X10_layDown a0 (3 : Int32) σ) fun σ22 =>
    f_X10_closes_5 a0 σ22
theorem v_X10_closes {g : mm_G} (d : Nat) {a0 : Nat} {σ : mm_S} {res : mm_S} (h_a0 : (mm_K a0).1 = 10) (h : f_X10_closes a0 σ = some res) : SM g (d + 2) yy_X10_closes [.ref a0] σ .null res := by
  refine s_of (by decide) (Nat.le_of_ble_eq_true rfl) (L := [(0, .ref a0)]) rfl ?_
  unfold f_X10_closes at h
  refine e_aload_n 0 dX10_closes_0 rfl rfl ?_
  refine e_iconst (v := (3 : Int32)) dX10_closes_1 (by decide) ?_
  obtain ⟨σ22, q21, h⟩ := bv_some h
  refine s_callVv [.int (3 : Int32)] dX10_closes_2 ml_RX10_214 h_a0 rfl rfl (v_X10_layDown (d + 0) h_a0 q21) (Nat.le_of_ble_eq_true rfl) ?_
  refine s_pick (L' := [(0, .ref a0)]) [0] rfl ?_
  exact v_X10_closes_5 d h_a0 h
abbrev yy_X10_tested : mm_Y := (yX10_tested, cX10_tested, 3, (some .boolean))
theorem dX10_tested_0 : decode cX10_tested 0 = .ok (.aload_n 0, 1) := by decide +kernel
theorem dX10_tested_1 : decode cX10_tested 1 = .ok (.iconst 0, 1) := by decide +kernel
theorem dX10_tested_2 : decode cX10_tested 2 = .ok (.putfield 175, 3) := by decide +kernel
theorem dX10_tested_5 : decode cX10_tested 5 = .ok (.aload_n 0, 1) := by decide +kernel
theorem dX10_tested_6 : decode cX10_tested 6 = .ok (.iconst 0, 1) := by decide +kernel
theorem dX10_tested_7 : decode cX10_tested 7 = .ok (.putfield 172, 3) := by decide +kernel
theorem dX10_tested_10 : decode cX10_tested 10 = .ok (.iconst 1, 1) := by decide +kernel
theorem dX10_tested_11 : decode cX10_tested 11 = .ok (.istore_n 1, 1) := by decide +kernel
theorem dX10_tested_12 : decode cX10_tested 12 = .ok (.iload_n 1, 1) := by decide +kernel
theorem dX10_tested_13 : decode cX10_tested 13 = .ok (.ifCond .eq 99, 3) := by decide +kernel
theorem dX10_tested_16 : decode cX10_tested 16 = .ok (.aload_n 0, 1) := by decide +kernel
theorem dX10_tested_17 : decode cX10_tested 17 = .ok (.invokevirtual 220, 3) := by decide +kernel
theorem dX10_tested_20 : decode cX10_tested 20 = .ok (.ifCond .ne 5, 3) := by decide +kernel
theorem dX10_tested_23 : decode cX10_tested 23 = .ok (.iconst 0, 1) := by decide +kernel
theorem dX10_tested_24 : decode cX10_tested 24 = .ok (.ireturn, 1) := by decide +kernel
theorem dX10_tested_25 : decode cX10_tested 25 = .ok (.aload_n 0, 1) := by decide +kernel
theorem dX10_tested_26 : decode cX10_tested 26 = .ok (.invokevirtual 223, 3) := by decide +kernel
theorem dX10_tested_29 : decode cX10_tested 29 = .ok (.aload_n 0, 1) := by decide +kernel
theorem dX10_tested_30 : decode cX10_tested 30 = .ok (.ldc2_w 226, 3) := by decide +kernel
theorem dX10_tested_33 : decode cX10_tested 33 = .ok (.invokevirtual 119, 3) := by decide +kernel
theorem dX10_tested_36 : decode cX10_tested 36 = .ok (.ifCond .ne 13, 3) := by decide +kernel
theorem dX10_tested_39 : decode cX10_tested 39 = .ok (.aload_n 0, 1) := by decide +kernel
theorem dX10_tested_40 : decode cX10_tested 40 = .ok (.ldc2_w 228, 3) := by decide +kernel
theorem dX10_tested_43 : decode cX10_tested 43 = .ok (.invokevirtual 119, 3) := by decide +kernel
theorem dX10_tested_46 : decode cX10_tested 46 = .ok (.ifCond .eq 7, 3) := by decide +kernel
theorem dX10_tested_49 : decode cX10_tested 49 = .ok (.iconst 1, 1) := by decide +kernel
theorem dX10_tested_50 : decode cX10_tested 50 = .ok (.goto 4, 3) := by decide +kernel
theorem dX10_tested_53 : decode cX10_tested 53 = .ok (.iconst 0, 1) := by decide +kernel
theorem dX10_tested_54 : decode cX10_tested 54 = .ok (.istore_n 1, 1) := by decide +kernel
theorem dX10_tested_55 : decode cX10_tested 55 = .ok (.iload_n 1, 1) := by decide +kernel
theorem dX10_tested_56 : decode cX10_tested 56 = .ok (.ifCond .eq (-44), 3) := by decide +kernel
theorem dX10_tested_59 : decode cX10_tested 59 = .ok (.aload_n 0, 1) := by decide +kernel
theorem dX10_tested_60 : decode cX10_tested 60 = .ok (.ldc2_w 226, 3) := by decide +kernel
theorem dX10_tested_63 : decode cX10_tested 63 = .ok (.invokevirtual 119, 3) := by decide +kernel
theorem dX10_tested_66 : decode cX10_tested 66 = .ok (.ifCond .eq 8, 3) := by decide +kernel
theorem dX10_tested_69 : decode cX10_tested 69 = .ok (.bipush 12, 2) := by decide +kernel
theorem dX10_tested_71 : decode cX10_tested 71 = .ok (.goto 5, 3) := by decide +kernel
theorem dX10_tested_74 : decode cX10_tested 74 = .ok (.bipush 13, 2) := by decide +kernel
theorem dX10_tested_76 : decode cX10_tested 76 = .ok (.istore_n 2, 1) := by decide +kernel
theorem dX10_tested_77 : decode cX10_tested 77 = .ok (.aload_n 0, 1) := by decide +kernel
theorem dX10_tested_78 : decode cX10_tested 78 = .ok (.invokevirtual 123, 3) := by decide +kernel
theorem dX10_tested_81 : decode cX10_tested 81 = .ok (.aload_n 0, 1) := by decide +kernel
theorem dX10_tested_82 : decode cX10_tested 82 = .ok (.iload_n 2, 1) := by decide +kernel
theorem dX10_tested_83 : decode cX10_tested 83 = .ok (.invokestatic 178, 3) := by decide +kernel
theorem dX10_tested_86 : decode cX10_tested 86 = .ok (.invokevirtual 214, 3) := by decide +kernel
theorem dX10_tested_89 : decode cX10_tested 89 = .ok (.aload_n 0, 1) := by decide +kernel
theorem dX10_tested_90 : decode cX10_tested 90 = .ok (.getfield 29, 3) := by decide +kernel
theorem dX10_tested_93 : decode cX10_tested 93 = .ok (.aload_n 0, 1) := by decide +kernel
theorem dX10_tested_94 : decode cX10_tested 94 = .ok (.getfield 175, 3) := by decide +kernel
theorem dX10_tested_97 : decode cX10_tested 97 = .ok (.iload_n 2, 1) := by decide +kernel
theorem dX10_tested_98 : decode cX10_tested 98 = .ok (.iastore, 1) := by decide +kernel
theorem dX10_tested_99 : decode cX10_tested 99 = .ok (.aload_n 0, 1) := by decide +kernel
theorem dX10_tested_100 : decode cX10_tested 100 = .ok (.dup, 1) := by decide +kernel
theorem dX10_tested_101 : decode cX10_tested 101 = .ok (.getfield 175, 3) := by decide +kernel
theorem dX10_tested_104 : decode cX10_tested 104 = .ok (.iconst 1, 1) := by decide +kernel
theorem dX10_tested_105 : decode cX10_tested 105 = .ok (.iadd, 1) := by decide +kernel
theorem dX10_tested_106 : decode cX10_tested 106 = .ok (.putfield 175, 3) := by decide +kernel
theorem dX10_tested_109 : decode cX10_tested 109 = .ok (.goto (-97), 3) := by decide +kernel
theorem dX10_tested_112 : decode cX10_tested 112 = .ok (.aload_n 0, 1) := by decide +kernel
theorem dX10_tested_113 : decode cX10_tested 113 = .ok (.invokevirtual 217, 3) := by decide +kernel
theorem dX10_tested_116 : decode cX10_tested 116 = .ok (.ifCond .eq 18, 3) := by decide +kernel
theorem dX10_tested_119 : decode cX10_tested 119 = .ok (.aload_n 0, 1) := by decide +kernel
theorem dX10_tested_120 : decode cX10_tested 120 = .ok (.invokevirtual 111, 3) := by decide +kernel
theorem dX10_tested_123 : decode cX10_tested 123 = .ok (.pop, 1) := by decide +kernel
theorem dX10_tested_124 : decode cX10_tested 124 = .ok (.aload_n 0, 1) := by decide +kernel
theorem dX10_tested_125 : decode cX10_tested 125 = .ok (.iconst 0, 1) := by decide +kernel
theorem dX10_tested_126 : decode cX10_tested 126 = .ok (.aload_n 0, 1) := by decide +kernel
theorem dX10_tested_127 : decode cX10_tested 127 = .ok (.getfield 108, 3) := by decide +kernel
theorem dX10_tested_130 : decode cX10_tested 130 = .ok (.invokevirtual 129, 3) := by decide +kernel
theorem dX10_tested_133 : decode cX10_tested 133 = .ok (.ireturn, 1) := by decide +kernel
theorem dX10_tested_134 : decode cX10_tested 134 = .ok (.aload_n 0, 1) := by decide +kernel
theorem dX10_tested_135 : decode cX10_tested 135 = .ok (.iconst 1, 1) := by decide +kernel
theorem dX10_tested_136 : decode cX10_tested 136 = .ok (.invokevirtual 214, 3) := by decide +kernel
theorem dX10_tested_139 : decode cX10_tested 139 = .ok (.iconst 1, 1) := by decide +kernel
theorem dX10_tested_140 : decode cX10_tested 140 = .ok (.ireturn, 1) := by decide +kernel
def f_X10_tested_76 (k12 : (Int32) → mm_S → Option (Int32 × mm_S)) (a0 : Nat) (i1 : Int32) (s0 : Int32) (σ : mm_S) : Option (Int32 × mm_S) :=
    bv (f_X10_passWord a0 σ) fun σ2 =>
    bd (f_X10_strength s0 σ2) fun r5 σ4 =>
    bv (f_X10_layDown a0 r5 σ4) fun σ7 =>
    gd (σ7.1 a0 16) 400 <|
    lt (su_i σ7 221 (σ7.1 a0 16).toNatClampNeg s0) fun σ9 =>
    lt (su_i σ9 a0 16 ((σ9.1 a0 16) + (1 : Int32))) fun σ11 =>
    k12 i1 σ11
theorem v_X10_tested_76 {g : mm_G} (d : Nat) {k12 : (Int32) → mm_S → Option (Int32 × mm_S)} {a0 : Nat} {i1 : Int32} {s0 : Int32} {σ : mm_S} {res : Int32 × mm_S} (H12 : ∀ v σ, k12 v σ = some res → SV g (d + 8) yy_X10_tested 12 [(0, .ref a0), (1, .int v)] [] σ (.int res.1) res.2) (h_a0 : (mm_K a0).1 = 10) (h : f_X10_tested_76 k12 a0 i1 s0 σ = some res) : SV g (d + 8) yy_X10_tested 76 [(0, .ref a0), (1, .int i1)] [.int s0] σ (.int res.1) res.2 := by
  unfold f_X10_tested_76 at h
  refine e_istore_n (L' := [(0, .ref a0), (1, .int i1), (2, .int s0)]) dX10_tested_76 rfl (by decide) rfl ?_
  refine e_aload_n 0 dX10_tested_77 rfl rfl ?_
  obtain ⟨σ2, q1, h⟩ := bv_some h
  refine s_callVv [] dX10_tested_78 ml_RX10_123 h_a0 rfl rfl (v_X10_passWord (d + 6) h_a0 q1) (Nat.le_of_ble_eq_true rfl) ?_
  refine e_aload_n 0 dX10_tested_81 rfl rfl ?_
  refine e_iload_n 2 dX10_tested_82 rfl rfl ?_
  obtain ⟨r5, σ4, q3, h⟩ := bd_some h
  refine s_callSi [.int s0] dX10_tested_83 ml_RX10_178 ⟨_, rfl, by decide⟩ rfl (v_X10_strength (d + 7)  q3) (Nat.le_of_ble_eq_true rfl) ?_
  obtain ⟨σ7, q6, h⟩ := bv_some h
  refine s_callVv [.int r5] dX10_tested_86 ml_RX10_214 h_a0 rfl rfl (v_X10_layDown (d + 6) h_a0 q6) (Nat.le_of_ble_eq_true rfl) ?_
  refine e_aload_n 0 dX10_tested_89 rfl rfl ?_
  refine s_getr dX10_tested_90 fl_RX10_29 h_a0 (r_10_15 h_a0).1 ?_
  refine e_aload_n 0 dX10_tested_93 rfl rfl ?_
  refine s_geti dX10_tested_94 fl_RX10_175 h_a0 ?_
  refine e_iload_n 2 dX10_tested_97 rfl rfl ?_
  obtain ⟨q8, h⟩ := gd_some h
  refine s_iast dX10_tested_98 (r_10_15 (w := 0) h_a0).2 q8 ?_
  obtain ⟨σ9, q10, h⟩ := lt_some h
  refine s_nms q10 ?_
  refine e_aload_n 0 dX10_tested_99 rfl rfl ?_
  refine e_dup dX10_tested_100 rfl ?_
  refine s_geti dX10_tested_101 fl_RX10_175 h_a0 ?_
  refine e_iconst (v := (1 : Int32)) dX10_tested_104 (by decide) ?_
  refine e_iadd dX10_tested_105 ?_
  refine s_puti dX10_tested_106 fl_RX10_175 h_a0 rfl rfl rfl ?_
  obtain ⟨σ11, q12, h⟩ := lt_some h
  refine s_nms q12 ?_
  refine e_goto 12 dX10_tested_109 (by decide) ?_
  refine s_pick (L' := [(0, .ref a0), (1, .int i1)]) [0, 1] rfl ?_
  exact H12 i1 σ11 h
def f_X10_tested_54 (k12 : (Int32) → mm_S → Option (Int32 × mm_S)) (a0 : Nat) (s0 : Int32) (σ : mm_S) : Option (Int32 × mm_S) :=
    if s0 = 0 then
      k12 s0 σ
    else
      bd (f_X10_isWord a0 (1476 : Int64) σ) fun r16 σ15 =>
      if r16 = 0 then
        f_X10_tested_76 k12 a0 s0 (13 : Int32) σ15
      else
        f_X10_tested_76 k12 a0 s0 (12 : Int32) σ15
theorem v_X10_tested_54 {g : mm_G} (d : Nat) {k12 : (Int32) → mm_S → Option (Int32 × mm_S)} {a0 : Nat} {s0 : Int32} {σ : mm_S} {res : Int32 × mm_S} (H12 : ∀ v σ, k12 v σ = some res → SV g (d + 8) yy_X10_tested 12 [(0, .ref a0), (1, .int v)] [] σ (.int res.1) res.2) (h_a0 : (mm_K a0).1 = 10) (h : f_X10_tested_54 k12 a0 s0 σ = some res) : SV g (d + 8) yy_X10_tested 54 [(0, .ref a0)] [.int s0] σ (.int res.1) res.2 := by
  unfold f_X10_tested_54 at h
  refine e_istore_n (L' := [(0, .ref a0), (1, .int s0)]) dX10_tested_54 rfl (by decide) rfl ?_
  refine e_iload_n 1 dX10_tested_55 rfl rfl ?_
  refine e_if_eq 12 dX10_tested_56 (by decide) (fun c13 => ?_) (fun c13 => ?_)
  · rw [if_pos c13] at h
    refine s_pick (L' := [(0, .ref a0), (1, .int s0)]) [0, 1] rfl ?_
    exact H12 s0 σ h
  · rw [if_neg c13] at h
    refine e_aload_n 0 dX10_tested_59 rfl rfl ?_
    refine e_ldc2 dX10_tested_60 co_RX10_226 ?_
    obtain ⟨r16, σ15, q14, h⟩ := bd_some h
    refine s_callVi [.long (1476 : Int64)] dX10_tested_63 ml_RX10_119 h_a0 ⟨_, rfl, by decide⟩ rfl (v_X10_isWord (d + 6) h_a0 q14) (Nat.le_of_ble_eq_true rfl) ?_
    refine e_if_eq 74 dX10_tested_66 (by decide) (fun c17 => ?_) (fun c17 => ?_)
    · rw [if_pos c17] at h
      refine e_bipush (v := (13 : Int32)) dX10_tested_74 (by decide) ?_
      refine s_pick (L' := [(0, .ref a0), (1, .int s0)]) [0, 1] rfl ?_
      exact v_X10_tested_76 d H12 h_a0 h
    · rw [if_neg c17] at h
      refine e_bipush (v := (12 : Int32)) dX10_tested_69 (by decide) ?_
      refine e_goto 76 dX10_tested_71 (by decide) ?_
      refine s_pick (L' := [(0, .ref a0), (1, .int s0)]) [0, 1] rfl ?_
      exact v_X10_tested_76 d H12 h_a0 h
def f_X10_tested_12 (a0 : Nat) (i1 : Int32) (σ : mm_S) : Option (Int32 × mm_S) :=
  lp lpN (fun (k12 : (Int32) → mm_S → Option (Int32 × mm_S)) (v : Int32) (σ : mm_S) =>
    if v = 0 then
      bd (f_X10_isInside a0 σ) fun r21 σ20 =>
      if r21 = 0 then
        bv (f_X10_layDown a0 (1 : Int32) σ20) fun σ24 =>
        some ((1 : Int32), σ24)
      else
        bd (f_X10_see a0 σ20) fun r27 σ26 =>
        bd (f_X10_fails a0 (0 : Int32) (σ26.1 a0 8) σ26) fun r30 σ29 =>
        gb r30 <|
        some (r30, σ29)
    else
      bd (f_X10_fact a0 σ) fun r34 σ33 =>
      if r34 = 0 then
        some ((0 : Int32), σ33)
      else
        bv (f_X10_closes a0 σ33) fun σ37 =>
        bd (f_X10_isWord a0 (1476 : Int64) σ37) fun r40 σ39 =>
        if r40 = 0 then
          bd (f_X10_isWord a0 (498 : Int64) σ39) fun r44 σ43 =>
          if r44 = 0 then
            f_X10_tested_54 k12 a0 (0 : Int32) σ43
          else
            f_X10_tested_54 k12 a0 (1 : Int32) σ43
        else
          f_X10_tested_54 k12 a0 (1 : Int32) σ39) i1 σ
theorem v_X10_tested_12 {g : mm_G} (d : Nat) {a0 : Nat} {i1 : Int32} {σ : mm_S} {res : Int32 × mm_S}  (h_a0 : (mm_K a0).1 = 10) (h : f_X10_tested_12 a0 i1 σ = some res) : SV g (d + 8) yy_X10_tested 12 [(0, .ref a0), (1, .int i1)] [] σ (.int res.1) res.2 := by
  unfold f_X10_tested_12 at h
  refine lp_ind (P := fun v σ => SV g (d + 8) yy_X10_tested 12 [(0, .ref a0), (1, .int v)] [] σ (.int res.1) res.2) (fun k12 H12 v σ h => ?_) _ i1 σ h
  refine e_iload_n 1 dX10_tested_12 rfl rfl ?_
  refine e_if_eq 112 dX10_tested_13 (by decide) (fun c18 => ?_) (fun c18 => ?_)
  · rw [if_pos c18] at h
    refine e_aload_n 0 dX10_tested_112 rfl rfl ?_
    obtain ⟨r21, σ20, q19, h⟩ := bd_some h
    refine s_callVi [] dX10_tested_113 ml_RX10_217 h_a0 ⟨_, rfl, by decide⟩ rfl (v_X10_isInside (d + 7) h_a0 q19) (Nat.le_of_ble_eq_true rfl) ?_
    refine e_if_eq 134 dX10_tested_116 (by decide) (fun c22 => ?_) (fun c22 => ?_)
    · rw [if_pos c22] at h
      refine e_aload_n 0 dX10_tested_134 rfl rfl ?_
      refine e_iconst (v := (1 : Int32)) dX10_tested_135 (by decide) ?_
      obtain ⟨σ24, q23, h⟩ := bv_some h
      refine s_callVv [.int (1 : Int32)] dX10_tested_136 ml_RX10_214 h_a0 rfl rfl (v_X10_layDown (d + 6) h_a0 q23) (Nat.le_of_ble_eq_true rfl) ?_
      refine e_iconst (v := (1 : Int32)) dX10_tested_139 (by decide) ?_
      obtain rfl := Option.some.inj h
      exact s_ret rfl ⟨_, rfl, nb1 (Or.inr rfl)⟩ dX10_tested_140
    · rw [if_neg c22] at h
      refine e_aload_n 0 dX10_tested_119 rfl rfl ?_
      obtain ⟨r27, σ26, q25, h⟩ := bd_some h
      refine s_callVi [] dX10_tested_120 ml_RX10_111 h_a0 ⟨_, rfl, by decide⟩ rfl (v_X10_see (d + 7) h_a0 q25) (Nat.le_of_ble_eq_true rfl) ?_
      refine e_pop dX10_tested_123 rfl ?_
      refine e_aload_n 0 dX10_tested_124 rfl rfl ?_
      refine e_iconst (v := (0 : Int32)) dX10_tested_125 (by decide) ?_
      refine e_aload_n 0 dX10_tested_126 rfl rfl ?_
      refine s_geti dX10_tested_127 fl_RX10_108 h_a0 ?_
      obtain ⟨r30, σ29, q28, h⟩ := bd_some h
      refine s_callVi [.int (0 : Int32), .int (σ26.1 a0 8)] dX10_tested_130 ml_RX10_129 h_a0 ⟨_, rfl, by decide⟩ rfl (v_X10_fails (d + 7) h_a0 q28) (Nat.le_of_ble_eq_true rfl) ?_
      obtain ⟨q31, h⟩ := gb_some h
      obtain rfl := Option.some.inj h
      exact s_ret rfl ⟨_, rfl, nb1 q31⟩ dX10_tested_133
  · rw [if_neg c18] at h
    refine e_aload_n 0 dX10_tested_16 rfl rfl ?_
    obtain ⟨r34, σ33, q32, h⟩ := bd_some h
    refine s_callVi [] dX10_tested_17 ml_RX10_220 h_a0 ⟨_, rfl, by decide⟩ rfl (v_X10_fact (d + 0) h_a0 q32) (Nat.le_of_ble_eq_true rfl) ?_
    refine e_if_ne 25 dX10_tested_20 (by decide) (fun c35 => ?_) (fun c35 => ?_)
    · rw [if_neg c35] at h
      refine e_aload_n 0 dX10_tested_25 rfl rfl ?_
      obtain ⟨σ37, q36, h⟩ := bv_some h
      refine s_callVv [] dX10_tested_26 ml_RX10_223 h_a0 rfl rfl (v_X10_closes (d + 5) h_a0 q36) (Nat.le_of_ble_eq_true rfl) ?_
      refine e_aload_n 0 dX10_tested_29 rfl rfl ?_
      refine e_ldc2 dX10_tested_30 co_RX10_226 ?_
      obtain ⟨r40, σ39, q38, h⟩ := bd_some h
      refine s_callVi [.long (1476 : Int64)] dX10_tested_33 ml_RX10_119 h_a0 ⟨_, rfl, by decide⟩ rfl (v_X10_isWord (d + 6) h_a0 q38) (Nat.le_of_ble_eq_true rfl) ?_
      refine e_if_ne 49 dX10_tested_36 (by decide) (fun c41 => ?_) (fun c41 => ?_)
      · rw [if_neg c41] at h
        refine e_iconst (v := (1 : Int32)) dX10_tested_49 (by decide) ?_
        refine e_goto 54 dX10_tested_50 (by decide) ?_
        refine s_pick (L' := [(0, .ref a0)]) [0] rfl ?_
        exact v_X10_tested_54 d H12 h_a0 h
      · rw [if_pos c41] at h
        refine e_aload_n 0 dX10_tested_39 rfl rfl ?_
        refine e_ldc2 dX10_tested_40 co_RX10_228 ?_
        obtain ⟨r44, σ43, q42, h⟩ := bd_some h
        refine s_callVi [.long (498 : Int64)] dX10_tested_43 ml_RX10_119 h_a0 ⟨_, rfl, by decide⟩ rfl (v_X10_isWord (d + 6) h_a0 q42) (Nat.le_of_ble_eq_true rfl) ?_
        refine e_if_eq 53 dX10_tested_46 (by decide) (fun c45 => ?_) (fun c45 => ?_)
        · rw [if_pos c45] at h
          refine e_iconst (v := (0 : Int32)) dX10_tested_53 (by decide) ?_
          refine s_pick (L' := [(0, .ref a0)]) [0] rfl ?_
          exact v_X10_tested_54 d H12 h_a0 h
        · rw [if_neg c45] at h
          refine e_iconst (v := (1 : Int32)) dX10_tested_49 (by decide) ?_
          refine e_goto 54 dX10_tested_50 (by decide) ?_
          refine s_pick (L' := [(0, .ref a0)]) [0] rfl ?_
          exact v_X10_tested_54 d H12 h_a0 h
    · rw [if_pos c35] at h
      refine e_iconst (v := (0 : Int32)) dX10_tested_23 (by decide) ?_
      obtain rfl := Option.some.inj h
      exact s_ret rfl ⟨_, rfl, nb1 (Or.inl rfl)⟩ dX10_tested_24
def f_X10_tested (a0 : Nat) (σ : mm_S) : Option (Int32 × mm_S) :=
    lt (su_i σ a0 16 (0 : Int32)) fun σ50 =>
    lt (su_i σ50 a0 13 (0 : Int32)) fun σ52 =>
    f_X10_tested_12 a0 (1 : Int32) σ52
theorem v_X10_tested {g : mm_G} (d : Nat) {a0 : Nat} {σ : mm_S} {res : Int32 × mm_S} (h_a0 : (mm_K a0).1 = 10) (h : f_X10_tested a0 σ = some res) : SM g (d + 8) yy_X10_tested [.ref a0] σ (.int res.1) res.2 := by
  refine s_of (by decide) (Nat.le_of_ble_eq_true rfl) (L := [(0, .ref a0)]) rfl ?_
  unfold f_X10_tested at h
  refine e_aload_n 0 dX10_tested_0 rfl rfl ?_
  refine e_iconst (v := (0 : Int32)) dX10_tested_1 (by decide) ?_
  refine s_puti dX10_tested_2 fl_RX10_175 h_a0 rfl rfl rfl ?_
  obtain ⟨σ50, q51, h⟩ := lt_some h
  refine s_nms q51 ?_
  refine e_aload_n 0 dX10_tested_5 rfl rfl ?_
  refine e_iconst (v := (0 : Int32)) dX10_tested_6 (by decide) ?_
  refine s_puti dX10_tested_7 fl_RX10_172 h_a0 rfl rfl rfl ?_
  obtain ⟨σ52, q53, h⟩ := lt_some h
  refine s_nms q53 ?_
  refine e_iconst (v := (1 : Int32)) dX10_tested_10 (by decide) ?_
  refine e_istore_n (L' := [(0, .ref a0), (1, .int (1 : Int32))]) dX10_tested_11 rfl (by decide) rfl ?_
  refine s_pick (L' := [(0, .ref a0), (1, .int (1 : Int32))]) [0, 1] rfl ?_
  exact v_X10_tested_12 d h_a0 h
abbrev yy_X10_isSeekHere : mm_Y := (yX10_isSeekHere, cX10_isSeekHere, 2, (some .boolean))
theorem dX10_isSeekHere_0 : decode cX10_isSeekHere 0 = .ok (.aload_n 0, 1) := by decide +kernel
theorem dX10_isSeekHere_1 : decode cX10_isSeekHere 1 = .ok (.invokevirtual 123, 3) := by decide +kernel
theorem dX10_isSeekHere_4 : decode cX10_isSeekHere 4 = .ok (.bipush 48, 2) := by decide +kernel
theorem dX10_isSeekHere_6 : decode cX10_isSeekHere 6 = .ok (.aload_n 0, 1) := by decide +kernel
theorem dX10_isSeekHere_7 : decode cX10_isSeekHere 7 = .ok (.getfield 166, 3) := by decide +kernel
theorem dX10_isSeekHere_10 : decode cX10_isSeekHere 10 = .ok (.imul, 1) := by decide +kernel
theorem dX10_isSeekHere_11 : decode cX10_isSeekHere 11 = .ok (.iconst 4, 1) := by decide +kernel
theorem dX10_isSeekHere_12 : decode cX10_isSeekHere 12 = .ok (.aload_n 0, 1) := by decide +kernel
theorem dX10_isSeekHere_13 : decode cX10_isSeekHere 13 = .ok (.getfield 23, 3) := by decide +kernel
theorem dX10_isSeekHere_16 : decode cX10_isSeekHere 16 = .ok (.aload_n 0, 1) := by decide +kernel
theorem dX10_isSeekHere_17 : decode cX10_isSeekHere 17 = .ok (.getfield 166, 3) := by decide +kernel
theorem dX10_isSeekHere_20 : decode cX10_isSeekHere 20 = .ok (.iaload, 1) := by decide +kernel
theorem dX10_isSeekHere_21 : decode cX10_isSeekHere 21 = .ok (.imul, 1) := by decide +kernel
theorem dX10_isSeekHere_22 : decode cX10_isSeekHere 22 = .ok (.iadd, 1) := by decide +kernel
theorem dX10_isSeekHere_23 : decode cX10_isSeekHere 23 = .ok (.istore_n 1, 1) := by decide +kernel
theorem dX10_isSeekHere_24 : decode cX10_isSeekHere 24 = .ok (.aload_n 0, 1) := by decide +kernel
theorem dX10_isSeekHere_25 : decode cX10_isSeekHere 25 = .ok (.getfield 20, 3) := by decide +kernel
theorem dX10_isSeekHere_28 : decode cX10_isSeekHere 28 = .ok (.iload_n 1, 1) := by decide +kernel
theorem dX10_isSeekHere_29 : decode cX10_isSeekHere 29 = .ok (.aload_n 0, 1) := by decide +kernel
theorem dX10_isSeekHere_30 : decode cX10_isSeekHere 30 = .ok (.getfield 17, 3) := by decide +kernel
theorem dX10_isSeekHere_33 : decode cX10_isSeekHere 33 = .ok (.aload_n 0, 1) := by decide +kernel
theorem dX10_isSeekHere_34 : decode cX10_isSeekHere 34 = .ok (.getfield 166, 3) := by decide +kernel
theorem dX10_isSeekHere_37 : decode cX10_isSeekHere 37 = .ok (.iaload, 1) := by decide +kernel
theorem dX10_isSeekHere_38 : decode cX10_isSeekHere 38 = .ok (.iastore, 1) := by decide +kernel
theorem dX10_isSeekHere_39 : decode cX10_isSeekHere 39 = .ok (.aload_n 0, 1) := by decide +kernel
theorem dX10_isSeekHere_40 : decode cX10_isSeekHere 40 = .ok (.invokevirtual 203, 3) := by decide +kernel
theorem dX10_isSeekHere_43 : decode cX10_isSeekHere 43 = .ok (.ifCond .ne 5, 3) := by decide +kernel
theorem dX10_isSeekHere_46 : decode cX10_isSeekHere 46 = .ok (.iconst 0, 1) := by decide +kernel
theorem dX10_isSeekHere_47 : decode cX10_isSeekHere 47 = .ok (.ireturn, 1) := by decide +kernel
theorem dX10_isSeekHere_48 : decode cX10_isSeekHere 48 = .ok (.aload_n 0, 1) := by decide +kernel
theorem dX10_isSeekHere_49 : decode cX10_isSeekHere 49 = .ok (.getfield 20, 3) := by decide +kernel
theorem dX10_isSeekHere_52 : decode cX10_isSeekHere 52 = .ok (.iload_n 1, 1) := by decide +kernel
theorem dX10_isSeekHere_53 : decode cX10_isSeekHere 53 = .ok (.iconst 1, 1) := by decide +kernel
theorem dX10_isSeekHere_54 : decode cX10_isSeekHere 54 = .ok (.iadd, 1) := by decide +kernel
theorem dX10_isSeekHere_55 : decode cX10_isSeekHere 55 = .ok (.aload_n 0, 1) := by decide +kernel
theorem dX10_isSeekHere_56 : decode cX10_isSeekHere 56 = .ok (.getfield 17, 3) := by decide +kernel
theorem dX10_isSeekHere_59 : decode cX10_isSeekHere 59 = .ok (.aload_n 0, 1) := by decide +kernel
theorem dX10_isSeekHere_60 : decode cX10_isSeekHere 60 = .ok (.getfield 166, 3) := by decide +kernel
theorem dX10_isSeekHere_63 : decode cX10_isSeekHere 63 = .ok (.iaload, 1) := by decide +kernel
theorem dX10_isSeekHere_64 : decode cX10_isSeekHere 64 = .ok (.iastore, 1) := by decide +kernel
theorem dX10_isSeekHere_65 : decode cX10_isSeekHere 65 = .ok (.aload_n 0, 1) := by decide +kernel
theorem dX10_isSeekHere_66 : decode cX10_isSeekHere 66 = .ok (.getfield 20, 3) := by decide +kernel
theorem dX10_isSeekHere_69 : decode cX10_isSeekHere 69 = .ok (.iload_n 1, 1) := by decide +kernel
theorem dX10_isSeekHere_70 : decode cX10_isSeekHere 70 = .ok (.iconst 2, 1) := by decide +kernel
theorem dX10_isSeekHere_71 : decode cX10_isSeekHere 71 = .ok (.iadd, 1) := by decide +kernel
theorem dX10_isSeekHere_72 : decode cX10_isSeekHere 72 = .ok (.iconst (-1), 1) := by decide +kernel
theorem dX10_isSeekHere_73 : decode cX10_isSeekHere 73 = .ok (.iastore, 1) := by decide +kernel
theorem dX10_isSeekHere_74 : decode cX10_isSeekHere 74 = .ok (.aload_n 0, 1) := by decide +kernel
theorem dX10_isSeekHere_75 : decode cX10_isSeekHere 75 = .ok (.ldc2_w 230, 3) := by decide +kernel
theorem dX10_isSeekHere_78 : decode cX10_isSeekHere 78 = .ok (.invokevirtual 232, 3) := by decide +kernel
theorem dX10_isSeekHere_81 : decode cX10_isSeekHere 81 = .ok (.ifCond .eq 29, 3) := by decide +kernel
theorem dX10_isSeekHere_84 : decode cX10_isSeekHere 84 = .ok (.aload_n 0, 1) := by decide +kernel
theorem dX10_isSeekHere_85 : decode cX10_isSeekHere 85 = .ok (.getfield 20, 3) := by decide +kernel
theorem dX10_isSeekHere_88 : decode cX10_isSeekHere 88 = .ok (.iload_n 1, 1) := by decide +kernel
theorem dX10_isSeekHere_89 : decode cX10_isSeekHere 89 = .ok (.iconst 2, 1) := by decide +kernel
theorem dX10_isSeekHere_90 : decode cX10_isSeekHere 90 = .ok (.iadd, 1) := by decide +kernel
theorem dX10_isSeekHere_91 : decode cX10_isSeekHere 91 = .ok (.aload_n 0, 1) := by decide +kernel
theorem dX10_isSeekHere_92 : decode cX10_isSeekHere 92 = .ok (.getfield 17, 3) := by decide +kernel
theorem dX10_isSeekHere_95 : decode cX10_isSeekHere 95 = .ok (.aload_n 0, 1) := by decide +kernel
theorem dX10_isSeekHere_96 : decode cX10_isSeekHere 96 = .ok (.getfield 166, 3) := by decide +kernel
theorem dX10_isSeekHere_99 : decode cX10_isSeekHere 99 = .ok (.iaload, 1) := by decide +kernel
theorem dX10_isSeekHere_100 : decode cX10_isSeekHere 100 = .ok (.iastore, 1) := by decide +kernel
theorem dX10_isSeekHere_101 : decode cX10_isSeekHere 101 = .ok (.aload_n 0, 1) := by decide +kernel
theorem dX10_isSeekHere_102 : decode cX10_isSeekHere 102 = .ok (.invokevirtual 235, 3) := by decide +kernel
theorem dX10_isSeekHere_105 : decode cX10_isSeekHere 105 = .ok (.ifCond .ne 5, 3) := by decide +kernel
theorem dX10_isSeekHere_108 : decode cX10_isSeekHere 108 = .ok (.iconst 0, 1) := by decide +kernel
theorem dX10_isSeekHere_109 : decode cX10_isSeekHere 109 = .ok (.ireturn, 1) := by decide +kernel
theorem dX10_isSeekHere_110 : decode cX10_isSeekHere 110 = .ok (.aload_n 0, 1) := by decide +kernel
theorem dX10_isSeekHere_111 : decode cX10_isSeekHere 111 = .ok (.getfield 20, 3) := by decide +kernel
theorem dX10_isSeekHere_114 : decode cX10_isSeekHere 114 = .ok (.iload_n 1, 1) := by decide +kernel
theorem dX10_isSeekHere_115 : decode cX10_isSeekHere 115 = .ok (.iconst 3, 1) := by decide +kernel
theorem dX10_isSeekHere_116 : decode cX10_isSeekHere 116 = .ok (.iadd, 1) := by decide +kernel
theorem dX10_isSeekHere_117 : decode cX10_isSeekHere 117 = .ok (.aload_n 0, 1) := by decide +kernel
theorem dX10_isSeekHere_118 : decode cX10_isSeekHere 118 = .ok (.getfield 17, 3) := by decide +kernel
theorem dX10_isSeekHere_121 : decode cX10_isSeekHere 121 = .ok (.aload_n 0, 1) := by decide +kernel
theorem dX10_isSeekHere_122 : decode cX10_isSeekHere 122 = .ok (.getfield 166, 3) := by decide +kernel
theorem dX10_isSeekHere_125 : decode cX10_isSeekHere 125 = .ok (.iaload, 1) := by decide +kernel
theorem dX10_isSeekHere_126 : decode cX10_isSeekHere 126 = .ok (.iastore, 1) := by decide +kernel
theorem dX10_isSeekHere_127 : decode cX10_isSeekHere 127 = .ok (.aload_n 0, 1) := by decide +kernel
theorem dX10_isSeekHere_128 : decode cX10_isSeekHere 128 = .ok (.getfield 23, 3) := by decide +kernel
theorem dX10_isSeekHere_131 : decode cX10_isSeekHere 131 = .ok (.aload_n 0, 1) := by decide +kernel
theorem dX10_isSeekHere_132 : decode cX10_isSeekHere 132 = .ok (.getfield 166, 3) := by decide +kernel
theorem dX10_isSeekHere_135 : decode cX10_isSeekHere 135 = .ok (.dup2, 1) := by decide +kernel
theorem dX10_isSeekHere_136 : decode cX10_isSeekHere 136 = .ok (.iaload, 1) := by decide +kernel
theorem dX10_isSeekHere_137 : decode cX10_isSeekHere 137 = .ok (.iconst 1, 1) := by decide +kernel
theorem dX10_isSeekHere_138 : decode cX10_isSeekHere 138 = .ok (.iadd, 1) := by decide +kernel
theorem dX10_isSeekHere_139 : decode cX10_isSeekHere 139 = .ok (.iastore, 1) := by decide +kernel
theorem dX10_isSeekHere_140 : decode cX10_isSeekHere 140 = .ok (.iconst 1, 1) := by decide +kernel
theorem dX10_isSeekHere_141 : decode cX10_isSeekHere 141 = .ok (.ireturn, 1) := by decide +kernel
def f_X10_isSeekHere_110 (a0 : Nat) (i1 : Int32) (σ : mm_S) : Option (Int32 × mm_S) :=
    gd (σ.1 a0 11) 7 <|
    gd (i1 + (3 : Int32)) 288 <|
    lt (su_i σ 218 (i1 + (3 : Int32)).toNatClampNeg (σ.1 217 (σ.1 a0 11).toNatClampNeg)) fun σ3 =>
    gd (σ3.1 a0 11) 6 <|
    gd (σ3.1 a0 11) 6 <|
    lt (su_i σ3 219 (σ3.1 a0 11).toNatClampNeg ((σ3.1 219 (σ3.1 a0 11).toNatClampNeg) + (1 : Int32))) fun σ7 =>
    some ((1 : Int32), σ7)
theorem v_X10_isSeekHere_110 {g : mm_G} (d : Nat) {a0 : Nat} {i1 : Int32} {σ : mm_S} {res : Int32 × mm_S}  (h_a0 : (mm_K a0).1 = 10) (h : f_X10_isSeekHere_110 a0 i1 σ = some res) : SV g (d + 9) yy_X10_isSeekHere 110 [(0, .ref a0), (1, .int i1)] [] σ (.int res.1) res.2 := by
  unfold f_X10_isSeekHere_110 at h
  refine e_aload_n 0 dX10_isSeekHere_110 rfl rfl ?_
  refine s_getr dX10_isSeekHere_111 fl_RX10_20 h_a0 (r_10_5 h_a0).1 ?_
  refine e_iload_n 1 dX10_isSeekHere_114 rfl rfl ?_
  refine e_iconst (v := (3 : Int32)) dX10_isSeekHere_115 (by decide) ?_
  refine e_iadd dX10_isSeekHere_116 ?_
  refine e_aload_n 0 dX10_isSeekHere_117 rfl rfl ?_
  refine s_getr dX10_isSeekHere_118 fl_RX10_17 h_a0 (r_10_4 h_a0).1 ?_
  refine e_aload_n 0 dX10_isSeekHere_121 rfl rfl ?_
  refine s_geti dX10_isSeekHere_122 fl_RX10_166 h_a0 ?_
  obtain ⟨q1, h⟩ := gd_some h
  refine s_iald dX10_isSeekHere_125 (r_10_4 (w := 0) h_a0).2 q1 ?_
  obtain ⟨q2, h⟩ := gd_some h
  refine s_iast dX10_isSeekHere_126 (r_10_5 (w := 0) h_a0).2 q2 ?_
  obtain ⟨σ3, q4, h⟩ := lt_some h
  refine s_nms q4 ?_
  refine e_aload_n 0 dX10_isSeekHere_127 rfl rfl ?_
  refine s_getr dX10_isSeekHere_128 fl_RX10_23 h_a0 (r_10_6 h_a0).1 ?_
  refine e_aload_n 0 dX10_isSeekHere_131 rfl rfl ?_
  refine s_geti dX10_isSeekHere_132 fl_RX10_166 h_a0 ?_
  refine e_dup2 dX10_isSeekHere_135 rfl rfl ?_
  obtain ⟨q5, h⟩ := gd_some h
  refine s_iald dX10_isSeekHere_136 (r_10_6 (w := 0) h_a0).2 q5 ?_
  refine e_iconst (v := (1 : Int32)) dX10_isSeekHere_137 (by decide) ?_
  refine e_iadd dX10_isSeekHere_138 ?_
  obtain ⟨q6, h⟩ := gd_some h
  refine s_iast dX10_isSeekHere_139 (r_10_6 (w := 0) h_a0).2 q6 ?_
  obtain ⟨σ7, q8, h⟩ := lt_some h
  refine s_nms q8 ?_
  refine e_iconst (v := (1 : Int32)) dX10_isSeekHere_140 (by decide) ?_
  obtain rfl := Option.some.inj h
  exact s_ret rfl ⟨_, rfl, nb1 (Or.inr rfl)⟩ dX10_isSeekHere_141
def f_X10_isSeekHere (a0 : Nat) (σ : mm_S) : Option (Int32 × mm_S) :=
    bv (f_X10_passWord a0 σ) fun σ42 =>
    gd (σ42.1 a0 11) 6 <|
    lt ((((48 : Int32) * (σ42.1 a0 11)) + ((4 : Int32) * (σ42.1 219 (σ42.1 a0 11).toNatClampNeg)))) fun x44 =>
    gd (σ42.1 a0 11) 7 <|
    gd x44 288 <|
    lt (su_i σ42 218 x44.toNatClampNeg (σ42.1 217 (σ42.1 a0 11).toNatClampNeg)) fun σ48 =>
    bd (f_X10_sum a0 σ48) fun r52 σ51 =>
    if r52 = 0 then
      some ((0 : Int32), σ51)
    else
      gd (σ51.1 a0 11) 7 <|
      gd (x44 + (1 : Int32)) 288 <|
      lt (su_i σ51 218 (x44 + (1 : Int32)).toNatClampNeg (σ51.1 217 (σ51.1 a0 11).toNatClampNeg)) fun σ56 =>
      gd (x44 + (2 : Int32)) 288 <|
      lt (su_i σ56 218 (x44 + (2 : Int32)).toNatClampNeg (-1 : Int32)) fun σ59 =>
      bd (f_X10_takesWord a0 (294 : Int64) σ59) fun r63 σ62 =>
      if r63 = 0 then
        f_X10_isSeekHere_110 a0 x44 σ62
      else
        gd (σ62.1 a0 11) 7 <|
        gd (x44 + (2 : Int32)) 288 <|
        lt (su_i σ62 218 (x44 + (2 : Int32)).toNatClampNeg (σ62.1 217 (σ62.1 a0 11).toNatClampNeg)) fun σ67 =>
        bd (f_X10_tested a0 σ67) fun r71 σ70 =>
        if r71 = 0 then
          some ((0 : Int32), σ70)
        else
          f_X10_isSeekHere_110 a0 x44 σ70
theorem v_X10_isSeekHere {g : mm_G} (d : Nat) {a0 : Nat} {σ : mm_S} {res : Int32 × mm_S} (h_a0 : (mm_K a0).1 = 10) (h : f_X10_isSeekHere a0 σ = some res) : SM g (d + 9) yy_X10_isSeekHere [.ref a0] σ (.int res.1) res.2 := by
  refine s_of (by decide) (Nat.le_of_ble_eq_true rfl) (L := [(0, .ref a0)]) rfl ?_
  unfold f_X10_isSeekHere at h
  refine e_aload_n 0 dX10_isSeekHere_0 rfl rfl ?_
  obtain ⟨σ42, q41, h⟩ := bv_some h
  refine s_callVv [] dX10_isSeekHere_1 ml_RX10_123 h_a0 rfl rfl (v_X10_passWord (d + 7) h_a0 q41) (Nat.le_of_ble_eq_true rfl) ?_
  refine e_bipush (v := (48 : Int32)) dX10_isSeekHere_4 (by decide) ?_
  refine e_aload_n 0 dX10_isSeekHere_6 rfl rfl ?_
  refine s_geti dX10_isSeekHere_7 fl_RX10_166 h_a0 ?_
  refine e_imul dX10_isSeekHere_10 ?_
  refine e_iconst (v := (4 : Int32)) dX10_isSeekHere_11 (by decide) ?_
  refine e_aload_n 0 dX10_isSeekHere_12 rfl rfl ?_
  refine s_getr dX10_isSeekHere_13 fl_RX10_23 h_a0 (r_10_6 h_a0).1 ?_
  refine e_aload_n 0 dX10_isSeekHere_16 rfl rfl ?_
  refine s_geti dX10_isSeekHere_17 fl_RX10_166 h_a0 ?_
  obtain ⟨q43, h⟩ := gd_some h
  refine s_iald dX10_isSeekHere_20 (r_10_6 (w := 0) h_a0).2 q43 ?_
  refine e_imul dX10_isSeekHere_21 ?_
  refine e_iadd dX10_isSeekHere_22 ?_
  obtain ⟨x44, q45, h⟩ := lt_some h
  refine s_nmi q45 ?_
  refine e_istore_n (L' := [(0, .ref a0), (1, .int x44)]) dX10_isSeekHere_23 rfl (by decide) rfl ?_
  refine e_aload_n 0 dX10_isSeekHere_24 rfl rfl ?_
  refine s_getr dX10_isSeekHere_25 fl_RX10_20 h_a0 (r_10_5 h_a0).1 ?_
  refine e_iload_n 1 dX10_isSeekHere_28 rfl rfl ?_
  refine e_aload_n 0 dX10_isSeekHere_29 rfl rfl ?_
  refine s_getr dX10_isSeekHere_30 fl_RX10_17 h_a0 (r_10_4 h_a0).1 ?_
  refine e_aload_n 0 dX10_isSeekHere_33 rfl rfl ?_
  refine s_geti dX10_isSeekHere_34 fl_RX10_166 h_a0 ?_
  obtain ⟨q46, h⟩ := gd_some h
  refine s_iald dX10_isSeekHere_37 (r_10_4 (w := 0) h_a0).2 q46 ?_
  obtain ⟨q47, h⟩ := gd_some h
  refine s_iast dX10_isSeekHere_38 (r_10_5 (w := 0) h_a0).2 q47 ?_
  obtain ⟨σ48, q49, h⟩ := lt_some h
  refine s_nms q49 ?_
  refine e_aload_n 0 dX10_isSeekHere_39 rfl rfl ?_
  obtain ⟨r52, σ51, q50, h⟩ := bd_some h
  refine s_callVi [] dX10_isSeekHere_40 ml_RX10_203 h_a0 ⟨_, rfl, by decide⟩ rfl (v_X10_sum (d + 3) h_a0 q50) (Nat.le_of_ble_eq_true rfl) ?_
  refine e_if_ne 48 dX10_isSeekHere_43 (by decide) (fun c53 => ?_) (fun c53 => ?_)
  · rw [if_neg c53] at h
    refine e_aload_n 0 dX10_isSeekHere_48 rfl rfl ?_
    refine s_getr dX10_isSeekHere_49 fl_RX10_20 h_a0 (r_10_5 h_a0).1 ?_
    refine e_iload_n 1 dX10_isSeekHere_52 rfl rfl ?_
    refine e_iconst (v := (1 : Int32)) dX10_isSeekHere_53 (by decide) ?_
    refine e_iadd dX10_isSeekHere_54 ?_
    refine e_aload_n 0 dX10_isSeekHere_55 rfl rfl ?_
    refine s_getr dX10_isSeekHere_56 fl_RX10_17 h_a0 (r_10_4 h_a0).1 ?_
    refine e_aload_n 0 dX10_isSeekHere_59 rfl rfl ?_
    refine s_geti dX10_isSeekHere_60 fl_RX10_166 h_a0 ?_
    obtain ⟨q54, h⟩ := gd_some h
    refine s_iald dX10_isSeekHere_63 (r_10_4 (w := 0) h_a0).2 q54 ?_
    obtain ⟨q55, h⟩ := gd_some h
    refine s_iast dX10_isSeekHere_64 (r_10_5 (w := 0) h_a0).2 q55 ?_
    obtain ⟨σ56, q57, h⟩ := lt_some h
    refine s_nms q57 ?_
    refine e_aload_n 0 dX10_isSeekHere_65 rfl rfl ?_
    refine s_getr dX10_isSeekHere_66 fl_RX10_20 h_a0 (r_10_5 h_a0).1 ?_
    refine e_iload_n 1 dX10_isSeekHere_69 rfl rfl ?_
    refine e_iconst (v := (2 : Int32)) dX10_isSeekHere_70 (by decide) ?_
    refine e_iadd dX10_isSeekHere_71 ?_
    refine e_iconst (v := (-1 : Int32)) dX10_isSeekHere_72 (by decide) ?_
    obtain ⟨q58, h⟩ := gd_some h
    refine s_iast dX10_isSeekHere_73 (r_10_5 (w := 0) h_a0).2 q58 ?_
    obtain ⟨σ59, q60, h⟩ := lt_some h
    refine s_nms q60 ?_
    refine e_aload_n 0 dX10_isSeekHere_74 rfl rfl ?_
    refine e_ldc2 dX10_isSeekHere_75 co_RX10_230 ?_
    obtain ⟨r63, σ62, q61, h⟩ := bd_some h
    refine s_callVi [.long (294 : Int64)] dX10_isSeekHere_78 ml_RX10_232 h_a0 ⟨_, rfl, by decide⟩ rfl (v_X10_takesWord (d + 6) h_a0 q61) (Nat.le_of_ble_eq_true rfl) ?_
    refine e_if_eq 110 dX10_isSeekHere_81 (by decide) (fun c64 => ?_) (fun c64 => ?_)
    · rw [if_pos c64] at h
      refine s_pick (L' := [(0, .ref a0), (1, .int x44)]) [0, 1] rfl ?_
      exact v_X10_isSeekHere_110 d h_a0 h
    · rw [if_neg c64] at h
      refine e_aload_n 0 dX10_isSeekHere_84 rfl rfl ?_
      refine s_getr dX10_isSeekHere_85 fl_RX10_20 h_a0 (r_10_5 h_a0).1 ?_
      refine e_iload_n 1 dX10_isSeekHere_88 rfl rfl ?_
      refine e_iconst (v := (2 : Int32)) dX10_isSeekHere_89 (by decide) ?_
      refine e_iadd dX10_isSeekHere_90 ?_
      refine e_aload_n 0 dX10_isSeekHere_91 rfl rfl ?_
      refine s_getr dX10_isSeekHere_92 fl_RX10_17 h_a0 (r_10_4 h_a0).1 ?_
      refine e_aload_n 0 dX10_isSeekHere_95 rfl rfl ?_
      refine s_geti dX10_isSeekHere_96 fl_RX10_166 h_a0 ?_
      obtain ⟨q65, h⟩ := gd_some h
      refine s_iald dX10_isSeekHere_99 (r_10_4 (w := 0) h_a0).2 q65 ?_
      obtain ⟨q66, h⟩ := gd_some h
      refine s_iast dX10_isSeekHere_100 (r_10_5 (w := 0) h_a0).2 q66 ?_
      obtain ⟨σ67, q68, h⟩ := lt_some h
      refine s_nms q68 ?_
      refine e_aload_n 0 dX10_isSeekHere_101 rfl rfl ?_
      obtain ⟨r71, σ70, q69, h⟩ := bd_some h
      refine s_callVi [] dX10_isSeekHere_102 ml_RX10_235 h_a0 ⟨_, rfl, by decide⟩ rfl (v_X10_tested (d + 0) h_a0 q69) (Nat.le_of_ble_eq_true rfl) ?_
      refine e_if_ne 110 dX10_isSeekHere_105 (by decide) (fun c72 => ?_) (fun c72 => ?_)
      · rw [if_neg c72] at h
        refine s_pick (L' := [(0, .ref a0), (1, .int x44)]) [0, 1] rfl ?_
        exact v_X10_isSeekHere_110 d h_a0 h
      · rw [if_pos c72] at h
        refine e_iconst (v := (0 : Int32)) dX10_isSeekHere_108 (by decide) ?_
        obtain rfl := Option.some.inj h
        exact s_ret rfl ⟨_, rfl, nb1 (Or.inl rfl)⟩ dX10_isSeekHere_109
  · rw [if_pos c53] at h
    refine e_iconst (v := (0 : Int32)) dX10_isSeekHere_46 (by decide) ?_
    obtain rfl := Option.some.inj h
    exact s_ret rfl ⟨_, rfl, nb1 (Or.inl rfl)⟩ dX10_isSeekHere_47
abbrev yy_X10_cellHere : mm_Y := (yX10_cellHere, cX10_cellHere, 4, (some .boolean))
theorem dX10_cellHere_0 : decode cX10_cellHere 0 = .ok (.aload_n 0, 1) := by decide +kernel
theorem dX10_cellHere_1 : decode cX10_cellHere 1 = .ok (.iload_n 2, 1) := by decide +kernel
theorem dX10_cellHere_2 : decode cX10_cellHere 2 = .ok (.iload_n 3, 1) := by decide +kernel
theorem dX10_cellHere_3 : decode cX10_cellHere 3 = .ok (.invokevirtual 187, 3) := by decide +kernel
theorem dX10_cellHere_6 : decode cX10_cellHere 6 = .ok (.ifCond .ne 5, 3) := by decide +kernel
theorem dX10_cellHere_9 : decode cX10_cellHere 9 = .ok (.iconst 0, 1) := by decide +kernel
theorem dX10_cellHere_10 : decode cX10_cellHere 10 = .ok (.ireturn, 1) := by decide +kernel
theorem dX10_cellHere_11 : decode cX10_cellHere 11 = .ok (.aload_n 0, 1) := by decide +kernel
theorem dX10_cellHere_12 : decode cX10_cellHere 12 = .ok (.getfield 26, 3) := by decide +kernel
theorem dX10_cellHere_15 : decode cX10_cellHere 15 = .ok (.iload_n 1, 1) := by decide +kernel
theorem dX10_cellHere_16 : decode cX10_cellHere 16 = .ok (.aload_n 0, 1) := by decide +kernel
theorem dX10_cellHere_17 : decode cX10_cellHere 17 = .ok (.getfield 133, 3) := by decide +kernel
theorem dX10_cellHere_20 : decode cX10_cellHere 20 = .ok (.iastore, 1) := by decide +kernel
theorem dX10_cellHere_21 : decode cX10_cellHere 21 = .ok (.iconst 1, 1) := by decide +kernel
theorem dX10_cellHere_22 : decode cX10_cellHere 22 = .ok (.ireturn, 1) := by decide +kernel
def f_X10_cellHere (a0 : Nat) (i1 : Int32) (i2 : Int32) (i3 : Int32) (σ : mm_S) : Option (Int32 × mm_S) :=
    bd (f_X10_numberHere a0 i2 i3 σ) fun r10 σ9 =>
    if r10 = 0 then
      some ((0 : Int32), σ9)
    else
      gd i1 90 <|
      lt (su_i σ9 220 i1.toNatClampNeg (σ9.1 a0 10)) fun σ13 =>
      some ((1 : Int32), σ13)
theorem v_X10_cellHere {g : mm_G} (d : Nat) {a0 : Nat} {i1 : Int32} {i2 : Int32} {i3 : Int32} {σ : mm_S} {res : Int32 × mm_S} (h_a0 : (mm_K a0).1 = 10) (h : f_X10_cellHere a0 i1 i2 i3 σ = some res) : SM g (d + 2) yy_X10_cellHere [.ref a0, .int i1, .int i2, .int i3] σ (.int res.1) res.2 := by
  refine s_of (by decide) (Nat.le_of_ble_eq_true rfl) (L := [(0, .ref a0), (1, .int i1), (2, .int i2), (3, .int i3)]) rfl ?_
  unfold f_X10_cellHere at h
  refine e_aload_n 0 dX10_cellHere_0 rfl rfl ?_
  refine e_iload_n 2 dX10_cellHere_1 rfl rfl ?_
  refine e_iload_n 3 dX10_cellHere_2 rfl rfl ?_
  obtain ⟨r10, σ9, q8, h⟩ := bd_some h
  refine s_callVi [.int i2, .int i3] dX10_cellHere_3 ml_RX10_187 h_a0 ⟨_, rfl, by decide⟩ rfl (v_X10_numberHere (d + 0) h_a0 q8) (Nat.le_of_ble_eq_true rfl) ?_
  refine e_if_ne 11 dX10_cellHere_6 (by decide) (fun c11 => ?_) (fun c11 => ?_)
  · rw [if_neg c11] at h
    refine e_aload_n 0 dX10_cellHere_11 rfl rfl ?_
    refine s_getr dX10_cellHere_12 fl_RX10_26 h_a0 (r_10_7 h_a0).1 ?_
    refine e_iload_n 1 dX10_cellHere_15 rfl rfl ?_
    refine e_aload_n 0 dX10_cellHere_16 rfl rfl ?_
    refine s_geti dX10_cellHere_17 fl_RX10_133 h_a0 ?_
    obtain ⟨q12, h⟩ := gd_some h
    refine s_iast dX10_cellHere_20 (r_10_7 (w := 0) h_a0).2 q12 ?_
    obtain ⟨σ13, q14, h⟩ := lt_some h
    refine s_nms q14 ?_
    refine e_iconst (v := (1 : Int32)) dX10_cellHere_21 (by decide) ?_
    obtain rfl := Option.some.inj h
    exact s_ret rfl ⟨_, rfl, nb1 (Or.inr rfl)⟩ dX10_cellHere_22
  · rw [if_pos c11] at h
    refine e_iconst (v := (0 : Int32)) dX10_cellHere_9 (by decide) ?_
    obtain rfl := Option.some.inj h
    exact s_ret rfl ⟨_, rfl, nb1 (Or.inl rfl)⟩ dX10_cellHere_10
