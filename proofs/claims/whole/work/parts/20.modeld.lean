abbrev yy_X10_sum : mm_Y := (yX10_sum, cX10_sum, 2, (some .boolean))
theorem dX10_sum_0 : decode cX10_sum 0 = .ok (.aload_n 0, 1) := by decide +kernel
theorem dX10_sum_1 : decode cX10_sum 1 = .ok (.invokevirtual 200, 3) := by decide +kernel
theorem dX10_sum_4 : decode cX10_sum 4 = .ok (.ifCond .ne 5, 3) := by decide +kernel
theorem dX10_sum_7 : decode cX10_sum 7 = .ok (.iconst 0, 1) := by decide +kernel
theorem dX10_sum_8 : decode cX10_sum 8 = .ok (.ireturn, 1) := by decide +kernel
theorem dX10_sum_9 : decode cX10_sum 9 = .ok (.aload_n 0, 1) := by decide +kernel
theorem dX10_sum_10 : decode cX10_sum 10 = .ok (.invokevirtual 111, 3) := by decide +kernel
theorem dX10_sum_13 : decode cX10_sum 13 = .ok (.bipush 43, 2) := by decide +kernel
theorem dX10_sum_15 : decode cX10_sum 15 = .ok (.if_icmp .eq 12, 3) := by decide +kernel
theorem dX10_sum_18 : decode cX10_sum 18 = .ok (.aload_n 0, 1) := by decide +kernel
theorem dX10_sum_19 : decode cX10_sum 19 = .ok (.invokevirtual 111, 3) := by decide +kernel
theorem dX10_sum_22 : decode cX10_sum 22 = .ok (.bipush 45, 2) := by decide +kernel
theorem dX10_sum_24 : decode cX10_sum 24 = .ok (.if_icmp .ne 51, 3) := by decide +kernel
theorem dX10_sum_27 : decode cX10_sum 27 = .ok (.aload_n 0, 1) := by decide +kernel
theorem dX10_sum_28 : decode cX10_sum 28 = .ok (.getfield 7, 3) := by decide +kernel
theorem dX10_sum_31 : decode cX10_sum 31 = .ok (.aload_n 0, 1) := by decide +kernel
theorem dX10_sum_32 : decode cX10_sum 32 = .ok (.getfield 108, 3) := by decide +kernel
theorem dX10_sum_35 : decode cX10_sum 35 = .ok (.baload, 1) := by decide +kernel
theorem dX10_sum_36 : decode cX10_sum 36 = .ok (.bipush 43, 2) := by decide +kernel
theorem dX10_sum_38 : decode cX10_sum 38 = .ok (.if_icmp .ne 7, 3) := by decide +kernel
theorem dX10_sum_41 : decode cX10_sum 41 = .ok (.iconst 2, 1) := by decide +kernel
theorem dX10_sum_42 : decode cX10_sum 42 = .ok (.goto 4, 3) := by decide +kernel
theorem dX10_sum_45 : decode cX10_sum 45 = .ok (.iconst 3, 1) := by decide +kernel
theorem dX10_sum_46 : decode cX10_sum 46 = .ok (.istore_n 1, 1) := by decide +kernel
theorem dX10_sum_47 : decode cX10_sum 47 = .ok (.aload_n 0, 1) := by decide +kernel
theorem dX10_sum_48 : decode cX10_sum 48 = .ok (.dup, 1) := by decide +kernel
theorem dX10_sum_49 : decode cX10_sum 49 = .ok (.getfield 108, 3) := by decide +kernel
theorem dX10_sum_52 : decode cX10_sum 52 = .ok (.iconst 1, 1) := by decide +kernel
theorem dX10_sum_53 : decode cX10_sum 53 = .ok (.iadd, 1) := by decide +kernel
theorem dX10_sum_54 : decode cX10_sum 54 = .ok (.putfield 108, 3) := by decide +kernel
theorem dX10_sum_57 : decode cX10_sum 57 = .ok (.aload_n 0, 1) := by decide +kernel
theorem dX10_sum_58 : decode cX10_sum 58 = .ok (.invokevirtual 200, 3) := by decide +kernel
theorem dX10_sum_61 : decode cX10_sum 61 = .ok (.ifCond .ne 5, 3) := by decide +kernel
theorem dX10_sum_64 : decode cX10_sum 64 = .ok (.iconst 0, 1) := by decide +kernel
theorem dX10_sum_65 : decode cX10_sum 65 = .ok (.ireturn, 1) := by decide +kernel
theorem dX10_sum_66 : decode cX10_sum 66 = .ok (.aload_n 0, 1) := by decide +kernel
theorem dX10_sum_67 : decode cX10_sum 67 = .ok (.iload_n 1, 1) := by decide +kernel
theorem dX10_sum_68 : decode cX10_sum 68 = .ok (.iconst 0, 1) := by decide +kernel
theorem dX10_sum_69 : decode cX10_sum 69 = .ok (.invokevirtual 182, 3) := by decide +kernel
theorem dX10_sum_72 : decode cX10_sum 72 = .ok (.goto (-63), 3) := by decide +kernel
theorem dX10_sum_75 : decode cX10_sum 75 = .ok (.iconst 1, 1) := by decide +kernel
theorem dX10_sum_76 : decode cX10_sum 76 = .ok (.ireturn, 1) := by decide +kernel
def f_X10_sum_46 (k9 : (Unit) → mm_S → Option (Int32 × mm_S)) (a0 : Nat) (s0 : Int32) (σ : mm_S) : Option (Int32 × mm_S) :=
    lt (su_i σ a0 8 ((σ.1 a0 8) + (1 : Int32))) fun σ1 =>
    bd (f_X10_term a0 σ1) fun r5 σ4 =>
    if r5 = 0 then
      some ((0 : Int32), σ4)
    else
      bv (f_X10_puts a0 s0 (0 : Int32) σ4) fun σ8 =>
      k9 () σ8
theorem v_X10_sum_46 {g : mm_G} (d : Nat) {k9 : (Unit) → mm_S → Option (Int32 × mm_S)} {a0 : Nat} {s0 : Int32} {σ : mm_S} {res : Int32 × mm_S} (H9 : ∀ v σ, k9 v σ = some res → SV g (d + 5) yy_X10_sum 9 [(0, .ref a0)] [] σ (.int res.1) res.2) (h_a0 : (mm_K a0).1 = 10) (h : f_X10_sum_46 k9 a0 s0 σ = some res) : SV g (d + 5) yy_X10_sum 46 [(0, .ref a0)] [.int s0] σ (.int res.1) res.2 := by
  unfold f_X10_sum_46 at h
  refine e_istore_n (L' := [(0, .ref a0), (1, .int s0)]) dX10_sum_46 rfl (by decide) rfl ?_
  refine e_aload_n 0 dX10_sum_47 rfl rfl ?_
  refine e_dup dX10_sum_48 rfl ?_
  refine s_geti dX10_sum_49 fl_RX10_108 h_a0 ?_
  refine e_iconst (v := (1 : Int32)) dX10_sum_52 (by decide) ?_
  refine e_iadd dX10_sum_53 ?_
  refine s_puti dX10_sum_54 fl_RX10_108 h_a0 rfl rfl rfl ?_
  obtain ⟨σ1, q2, h⟩ := lt_some h
  refine s_nms q2 ?_
  refine e_aload_n 0 dX10_sum_57 rfl rfl ?_
  obtain ⟨r5, σ4, q3, h⟩ := bd_some h
  refine s_callVi [] dX10_sum_58 ml_RX10_200 h_a0 ⟨_, rfl, by decide⟩ rfl (v_X10_term (d + 0) h_a0 q3) (Nat.le_of_ble_eq_true rfl) ?_
  refine e_if_ne 66 dX10_sum_61 (by decide) (fun c6 => ?_) (fun c6 => ?_)
  · rw [if_neg c6] at h
    refine e_aload_n 0 dX10_sum_66 rfl rfl ?_
    refine e_iload_n 1 dX10_sum_67 rfl rfl ?_
    refine e_iconst (v := (0 : Int32)) dX10_sum_68 (by decide) ?_
    obtain ⟨σ8, q7, h⟩ := bv_some h
    refine s_callVv [.int s0, .int (0 : Int32)] dX10_sum_69 ml_RX10_182 h_a0 rfl rfl (v_X10_puts (d + 4) h_a0 q7) (Nat.le_of_ble_eq_true rfl) ?_
    refine e_goto 9 dX10_sum_72 (by decide) ?_
    refine s_pick (L' := [(0, .ref a0)]) [0] rfl ?_
    exact H9 () σ8 h
  · rw [if_pos c6] at h
    refine e_iconst (v := (0 : Int32)) dX10_sum_64 (by decide) ?_
    obtain rfl := Option.some.inj h
    exact s_ret rfl ⟨_, rfl, nb1 (Or.inl rfl)⟩ dX10_sum_65
def f_X10_sum_27 (k9 : (Unit) → mm_S → Option (Int32 × mm_S)) (a0 : Nat) (σ : mm_S) : Option (Int32 × mm_S) :=
    gd (σ.1 a0 8) 400 <|
    if (σ.1 215 (σ.1 a0 8).toNatClampNeg) = (43 : Int32) then
      f_X10_sum_46 k9 a0 (2 : Int32) σ
    else
      f_X10_sum_46 k9 a0 (3 : Int32) σ
theorem v_X10_sum_27 {g : mm_G} (d : Nat) {k9 : (Unit) → mm_S → Option (Int32 × mm_S)} {a0 : Nat} {σ : mm_S} {res : Int32 × mm_S} (H9 : ∀ v σ, k9 v σ = some res → SV g (d + 5) yy_X10_sum 9 [(0, .ref a0)] [] σ (.int res.1) res.2) (h_a0 : (mm_K a0).1 = 10) (h : f_X10_sum_27 k9 a0 σ = some res) : SV g (d + 5) yy_X10_sum 27 [(0, .ref a0)] [] σ (.int res.1) res.2 := by
  unfold f_X10_sum_27 at h
  refine e_aload_n 0 dX10_sum_27 rfl rfl ?_
  refine s_getr dX10_sum_28 fl_RX10_7 h_a0 (r_10_0 h_a0).1 ?_
  refine e_aload_n 0 dX10_sum_31 rfl rfl ?_
  refine s_geti dX10_sum_32 fl_RX10_108 h_a0 ?_
  obtain ⟨q9, h⟩ := gd_some h
  refine s_bald dX10_sum_35 (r_10_0 (w := 0) h_a0).2 q9 ?_
  refine e_bipush (v := (43 : Int32)) dX10_sum_36 (by decide) ?_
  refine e_icmp_ne 45 dX10_sum_38 (by decide) (fun c10 => ?_) (fun c10 => ?_)
  · rw [if_neg c10] at h
    refine e_iconst (v := (3 : Int32)) dX10_sum_45 (by decide) ?_
    refine s_pick (L' := [(0, .ref a0)]) [0] rfl ?_
    exact v_X10_sum_46 d H9 h_a0 h
  · rw [if_pos c10] at h
    refine e_iconst (v := (2 : Int32)) dX10_sum_41 (by decide) ?_
    refine e_goto 46 dX10_sum_42 (by decide) ?_
    refine s_pick (L' := [(0, .ref a0)]) [0] rfl ?_
    exact v_X10_sum_46 d H9 h_a0 h
def f_X10_sum_9 (a0 : Nat) (σ : mm_S) : Option (Int32 × mm_S) :=
  lp lpN (fun (k9 : (Unit) → mm_S → Option (Int32 × mm_S)) (v : Unit) (σ : mm_S) =>
    bd (f_X10_see a0 σ) fun r13 σ12 =>
    if r13 = (43 : Int32) then
      f_X10_sum_27 k9 a0 σ12
    else
      bd (f_X10_see a0 σ12) fun r17 σ16 =>
      if r17 = (45 : Int32) then
        f_X10_sum_27 k9 a0 σ16
      else
        some ((1 : Int32), σ16)) () σ
theorem v_X10_sum_9 {g : mm_G} (d : Nat) {a0 : Nat} {σ : mm_S} {res : Int32 × mm_S}  (h_a0 : (mm_K a0).1 = 10) (h : f_X10_sum_9 a0 σ = some res) : SV g (d + 5) yy_X10_sum 9 [(0, .ref a0)] [] σ (.int res.1) res.2 := by
  unfold f_X10_sum_9 at h
  refine lp_ind (P := fun v σ => SV g (d + 5) yy_X10_sum 9 [(0, .ref a0)] [] σ (.int res.1) res.2) (fun k9 H9 v σ h => ?_) _ () σ h
  refine e_aload_n 0 dX10_sum_9 rfl rfl ?_
  obtain ⟨r13, σ12, q11, h⟩ := bd_some h
  refine s_callVi [] dX10_sum_10 ml_RX10_111 h_a0 ⟨_, rfl, by decide⟩ rfl (v_X10_see (d + 4) h_a0 q11) (Nat.le_of_ble_eq_true rfl) ?_
  refine e_bipush (v := (43 : Int32)) dX10_sum_13 (by decide) ?_
  refine e_icmp_eq 27 dX10_sum_15 (by decide) (fun c14 => ?_) (fun c14 => ?_)
  · rw [if_pos c14] at h
    refine s_pick (L' := [(0, .ref a0)]) [0] rfl ?_
    exact v_X10_sum_27 d H9 h_a0 h
  · rw [if_neg c14] at h
    refine e_aload_n 0 dX10_sum_18 rfl rfl ?_
    obtain ⟨r17, σ16, q15, h⟩ := bd_some h
    refine s_callVi [] dX10_sum_19 ml_RX10_111 h_a0 ⟨_, rfl, by decide⟩ rfl (v_X10_see (d + 4) h_a0 q15) (Nat.le_of_ble_eq_true rfl) ?_
    refine e_bipush (v := (45 : Int32)) dX10_sum_22 (by decide) ?_
    refine e_icmp_ne 75 dX10_sum_24 (by decide) (fun c18 => ?_) (fun c18 => ?_)
    · rw [if_neg c18] at h
      refine e_iconst (v := (1 : Int32)) dX10_sum_75 (by decide) ?_
      obtain rfl := Option.some.inj h
      exact s_ret rfl ⟨_, rfl, nb1 (Or.inr rfl)⟩ dX10_sum_76
    · rw [if_pos c18] at h
      refine s_pick (L' := [(0, .ref a0)]) [0] rfl ?_
      exact v_X10_sum_27 d H9 h_a0 h
def f_X10_sum (a0 : Nat) (σ : mm_S) : Option (Int32 × mm_S) :=
    bd (f_X10_term a0 σ) fun r25 σ24 =>
    if r25 = 0 then
      some ((0 : Int32), σ24)
    else
      f_X10_sum_9 a0 σ24
theorem v_X10_sum {g : mm_G} (d : Nat) {a0 : Nat} {σ : mm_S} {res : Int32 × mm_S} (h_a0 : (mm_K a0).1 = 10) (h : f_X10_sum a0 σ = some res) : SM g (d + 5) yy_X10_sum [.ref a0] σ (.int res.1) res.2 := by
  refine s_of (by decide) (Nat.le_of_ble_eq_true rfl) (L := [(0, .ref a0)]) rfl ?_
  unfold f_X10_sum at h
  refine e_aload_n 0 dX10_sum_0 rfl rfl ?_
  obtain ⟨r25, σ24, q23, h⟩ := bd_some h
  refine s_callVi [] dX10_sum_1 ml_RX10_200 h_a0 ⟨_, rfl, by decide⟩ rfl (v_X10_term (d + 0) h_a0 q23) (Nat.le_of_ble_eq_true rfl) ?_
  refine e_if_ne 9 dX10_sum_4 (by decide) (fun c26 => ?_) (fun c26 => ?_)
  · rw [if_neg c26] at h
    refine s_pick (L' := [(0, .ref a0)]) [0] rfl ?_
    exact v_X10_sum_9 d h_a0 h
  · rw [if_pos c26] at h
    refine e_iconst (v := (0 : Int32)) dX10_sum_7 (by decide) ?_
    obtain rfl := Option.some.inj h
    exact s_ret rfl ⟨_, rfl, nb1 (Or.inl rfl)⟩ dX10_sum_8
abbrev yy_X10_compare : mm_Y := (yX10_compare, cX10_compare, 5, (some .boolean))
theorem dX10_compare_0 : decode cX10_compare 0 = .ok (.aload_n 0, 1) := by decide +kernel
theorem dX10_compare_1 : decode cX10_compare 1 = .ok (.invokevirtual 203, 3) := by decide +kernel
theorem dX10_compare_4 : decode cX10_compare 4 = .ok (.ifCond .ne 5, 3) := by decide +kernel
theorem dX10_compare_7 : decode cX10_compare 7 = .ok (.iconst 0, 1) := by decide +kernel
theorem dX10_compare_8 : decode cX10_compare 8 = .ok (.ireturn, 1) := by decide +kernel
theorem dX10_compare_9 : decode cX10_compare 9 = .ok (.aload_n 0, 1) := by decide +kernel
theorem dX10_compare_10 : decode cX10_compare 10 = .ok (.invokevirtual 111, 3) := by decide +kernel
theorem dX10_compare_13 : decode cX10_compare 13 = .ok (.istore_n 1, 1) := by decide +kernel
theorem dX10_compare_14 : decode cX10_compare 14 = .ok (.aload_n 0, 1) := by decide +kernel
theorem dX10_compare_15 : decode cX10_compare 15 = .ok (.getfield 108, 3) := by decide +kernel
theorem dX10_compare_18 : decode cX10_compare 18 = .ok (.istore_n 2, 1) := by decide +kernel
theorem dX10_compare_19 : decode cX10_compare 19 = .ok (.iload_n 1, 1) := by decide +kernel
theorem dX10_compare_20 : decode cX10_compare 20 = .ok (.bipush 60, 2) := by decide +kernel
theorem dX10_compare_22 : decode cX10_compare 22 = .ok (.if_icmp .eq 22, 3) := by decide +kernel
theorem dX10_compare_25 : decode cX10_compare 25 = .ok (.iload_n 1, 1) := by decide +kernel
theorem dX10_compare_26 : decode cX10_compare 26 = .ok (.bipush 61, 2) := by decide +kernel
theorem dX10_compare_28 : decode cX10_compare 28 = .ok (.if_icmp .eq 16, 3) := by decide +kernel
theorem dX10_compare_31 : decode cX10_compare 31 = .ok (.iload_n 1, 1) := by decide +kernel
theorem dX10_compare_32 : decode cX10_compare 32 = .ok (.bipush 62, 2) := by decide +kernel
theorem dX10_compare_34 : decode cX10_compare 34 = .ok (.if_icmp .eq 10, 3) := by decide +kernel
theorem dX10_compare_37 : decode cX10_compare 37 = .ok (.aload_n 0, 1) := by decide +kernel
theorem dX10_compare_38 : decode cX10_compare 38 = .ok (.iconst 0, 1) := by decide +kernel
theorem dX10_compare_39 : decode cX10_compare 39 = .ok (.iload_n 2, 1) := by decide +kernel
theorem dX10_compare_40 : decode cX10_compare 40 = .ok (.invokevirtual 129, 3) := by decide +kernel
theorem dX10_compare_43 : decode cX10_compare 43 = .ok (.ireturn, 1) := by decide +kernel
theorem dX10_compare_44 : decode cX10_compare 44 = .ok (.aload_n 0, 1) := by decide +kernel
theorem dX10_compare_45 : decode cX10_compare 45 = .ok (.dup, 1) := by decide +kernel
theorem dX10_compare_46 : decode cX10_compare 46 = .ok (.getfield 108, 3) := by decide +kernel
theorem dX10_compare_49 : decode cX10_compare 49 = .ok (.iconst 1, 1) := by decide +kernel
theorem dX10_compare_50 : decode cX10_compare 50 = .ok (.iadd, 1) := by decide +kernel
theorem dX10_compare_51 : decode cX10_compare 51 = .ok (.putfield 108, 3) := by decide +kernel
theorem dX10_compare_54 : decode cX10_compare 54 = .ok (.iload_n 1, 1) := by decide +kernel
theorem dX10_compare_55 : decode cX10_compare 55 = .ok (.bipush 61, 2) := by decide +kernel
theorem dX10_compare_57 : decode cX10_compare 57 = .ok (.if_icmp .eq 32, 3) := by decide +kernel
theorem dX10_compare_60 : decode cX10_compare 60 = .ok (.aload_n 0, 1) := by decide +kernel
theorem dX10_compare_61 : decode cX10_compare 61 = .ok (.getfield 108, 3) := by decide +kernel
theorem dX10_compare_64 : decode cX10_compare 64 = .ok (.aload_n 0, 1) := by decide +kernel
theorem dX10_compare_65 : decode cX10_compare 65 = .ok (.getfield 98, 3) := by decide +kernel
theorem dX10_compare_68 : decode cX10_compare 68 = .ok (.if_icmp .ge 21, 3) := by decide +kernel
theorem dX10_compare_71 : decode cX10_compare 71 = .ok (.aload_n 0, 1) := by decide +kernel
theorem dX10_compare_72 : decode cX10_compare 72 = .ok (.getfield 7, 3) := by decide +kernel
theorem dX10_compare_75 : decode cX10_compare 75 = .ok (.aload_n 0, 1) := by decide +kernel
theorem dX10_compare_76 : decode cX10_compare 76 = .ok (.getfield 108, 3) := by decide +kernel
theorem dX10_compare_79 : decode cX10_compare 79 = .ok (.baload, 1) := by decide +kernel
theorem dX10_compare_80 : decode cX10_compare 80 = .ok (.bipush 61, 2) := by decide +kernel
theorem dX10_compare_82 : decode cX10_compare 82 = .ok (.if_icmp .ne 7, 3) := by decide +kernel
theorem dX10_compare_85 : decode cX10_compare 85 = .ok (.iconst 1, 1) := by decide +kernel
theorem dX10_compare_86 : decode cX10_compare 86 = .ok (.goto 4, 3) := by decide +kernel
theorem dX10_compare_89 : decode cX10_compare 89 = .ok (.iconst 0, 1) := by decide +kernel
theorem dX10_compare_90 : decode cX10_compare 90 = .ok (.istore_n 3, 1) := by decide +kernel
theorem dX10_compare_91 : decode cX10_compare 91 = .ok (.iload_n 3, 1) := by decide +kernel
theorem dX10_compare_92 : decode cX10_compare 92 = .ok (.ifCond .eq 13, 3) := by decide +kernel
theorem dX10_compare_95 : decode cX10_compare 95 = .ok (.aload_n 0, 1) := by decide +kernel
theorem dX10_compare_96 : decode cX10_compare 96 = .ok (.dup, 1) := by decide +kernel
theorem dX10_compare_97 : decode cX10_compare 97 = .ok (.getfield 108, 3) := by decide +kernel
theorem dX10_compare_100 : decode cX10_compare 100 = .ok (.iconst 1, 1) := by decide +kernel
theorem dX10_compare_101 : decode cX10_compare 101 = .ok (.iadd, 1) := by decide +kernel
theorem dX10_compare_102 : decode cX10_compare 102 = .ok (.putfield 108, 3) := by decide +kernel
theorem dX10_compare_105 : decode cX10_compare 105 = .ok (.aload_n 0, 1) := by decide +kernel
theorem dX10_compare_106 : decode cX10_compare 106 = .ok (.iload_n 2, 1) := by decide +kernel
theorem dX10_compare_107 : decode cX10_compare 107 = .ok (.invokevirtual 190, 3) := by decide +kernel
theorem dX10_compare_110 : decode cX10_compare 110 = .ok (.ifCond .ne 5, 3) := by decide +kernel
theorem dX10_compare_113 : decode cX10_compare 113 = .ok (.iconst 0, 1) := by decide +kernel
theorem dX10_compare_114 : decode cX10_compare 114 = .ok (.ireturn, 1) := by decide +kernel
theorem dX10_compare_115 : decode cX10_compare 115 = .ok (.iload_n 1, 1) := by decide +kernel
theorem dX10_compare_116 : decode cX10_compare 116 = .ok (.bipush 60, 2) := by decide +kernel
theorem dX10_compare_118 : decode cX10_compare 118 = .ok (.if_icmp .ne 15, 3) := by decide +kernel
theorem dX10_compare_121 : decode cX10_compare 121 = .ok (.iload_n 3, 1) := by decide +kernel
theorem dX10_compare_122 : decode cX10_compare 122 = .ok (.ifCond .eq 7, 3) := by decide +kernel
theorem dX10_compare_125 : decode cX10_compare 125 = .ok (.iconst 1, 1) := by decide +kernel
theorem dX10_compare_126 : decode cX10_compare 126 = .ok (.goto 26, 3) := by decide +kernel
theorem dX10_compare_129 : decode cX10_compare 129 = .ok (.iconst 0, 1) := by decide +kernel
theorem dX10_compare_130 : decode cX10_compare 130 = .ok (.goto 22, 3) := by decide +kernel
theorem dX10_compare_133 : decode cX10_compare 133 = .ok (.iload_n 1, 1) := by decide +kernel
theorem dX10_compare_134 : decode cX10_compare 134 = .ok (.bipush 61, 2) := by decide +kernel
theorem dX10_compare_136 : decode cX10_compare 136 = .ok (.if_icmp .ne 7, 3) := by decide +kernel
theorem dX10_compare_139 : decode cX10_compare 139 = .ok (.iconst 2, 1) := by decide +kernel
theorem dX10_compare_140 : decode cX10_compare 140 = .ok (.goto 12, 3) := by decide +kernel
theorem dX10_compare_143 : decode cX10_compare 143 = .ok (.iload_n 3, 1) := by decide +kernel
theorem dX10_compare_144 : decode cX10_compare 144 = .ok (.ifCond .eq 7, 3) := by decide +kernel
theorem dX10_compare_147 : decode cX10_compare 147 = .ok (.iconst 3, 1) := by decide +kernel
theorem dX10_compare_148 : decode cX10_compare 148 = .ok (.goto 4, 3) := by decide +kernel
theorem dX10_compare_151 : decode cX10_compare 151 = .ok (.iconst 4, 1) := by decide +kernel
theorem dX10_compare_152 : decode cX10_compare 152 = .ok (.istore 4, 2) := by decide +kernel
theorem dX10_compare_154 : decode cX10_compare 154 = .ok (.aload_n 0, 1) := by decide +kernel
theorem dX10_compare_155 : decode cX10_compare 155 = .ok (.invokevirtual 203, 3) := by decide +kernel
theorem dX10_compare_158 : decode cX10_compare 158 = .ok (.ifCond .ne 5, 3) := by decide +kernel
theorem dX10_compare_161 : decode cX10_compare 161 = .ok (.iconst 0, 1) := by decide +kernel
theorem dX10_compare_162 : decode cX10_compare 162 = .ok (.ireturn, 1) := by decide +kernel
theorem dX10_compare_163 : decode cX10_compare 163 = .ok (.aload_n 0, 1) := by decide +kernel
theorem dX10_compare_164 : decode cX10_compare 164 = .ok (.bipush 6, 2) := by decide +kernel
theorem dX10_compare_166 : decode cX10_compare 166 = .ok (.iload 4, 2) := by decide +kernel
theorem dX10_compare_168 : decode cX10_compare 168 = .ok (.iadd, 1) := by decide +kernel
theorem dX10_compare_169 : decode cX10_compare 169 = .ok (.iconst 0, 1) := by decide +kernel
theorem dX10_compare_170 : decode cX10_compare 170 = .ok (.invokevirtual 182, 3) := by decide +kernel
theorem dX10_compare_173 : decode cX10_compare 173 = .ok (.iconst 1, 1) := by decide +kernel
theorem dX10_compare_174 : decode cX10_compare 174 = .ok (.ireturn, 1) := by decide +kernel
def f_X10_compare_152 (a0 : Nat) (s0 : Int32) (σ : mm_S) : Option (Int32 × mm_S) :=
    bd (f_X10_sum a0 σ) fun r3 σ2 =>
    if r3 = 0 then
      some ((0 : Int32), σ2)
    else
      bv (f_X10_puts a0 ((6 : Int32) + s0) (0 : Int32) σ2) fun σ6 =>
      some ((1 : Int32), σ6)
theorem v_X10_compare_152 {g : mm_G} (d : Nat) {a0 : Nat} {s0 : Int32} {σ : mm_S} {res : Int32 × mm_S}  (h_a0 : (mm_K a0).1 = 10) (h : f_X10_compare_152 a0 s0 σ = some res) : SV g (d + 6) yy_X10_compare 152 [(0, .ref a0)] [.int s0] σ (.int res.1) res.2 := by
  unfold f_X10_compare_152 at h
  refine e_istore (L' := [(0, .ref a0), (4, .int s0)]) dX10_compare_152  (by decide) rfl ?_
  refine e_aload_n 0 dX10_compare_154 rfl rfl ?_
  obtain ⟨r3, σ2, q1, h⟩ := bd_some h
  refine s_callVi [] dX10_compare_155 ml_RX10_203 h_a0 ⟨_, rfl, by decide⟩ rfl (v_X10_sum (d + 0) h_a0 q1) (Nat.le_of_ble_eq_true rfl) ?_
  refine e_if_ne 163 dX10_compare_158 (by decide) (fun c4 => ?_) (fun c4 => ?_)
  · rw [if_neg c4] at h
    refine e_aload_n 0 dX10_compare_163 rfl rfl ?_
    refine e_bipush (v := (6 : Int32)) dX10_compare_164 (by decide) ?_
    refine e_iload 1 dX10_compare_166  rfl ?_
    refine e_iadd dX10_compare_168 ?_
    refine e_iconst (v := (0 : Int32)) dX10_compare_169 (by decide) ?_
    obtain ⟨σ6, q5, h⟩ := bv_some h
    refine s_callVv [.int ((6 : Int32) + s0), .int (0 : Int32)] dX10_compare_170 ml_RX10_182 h_a0 rfl rfl (v_X10_puts (d + 5) h_a0 q5) (Nat.le_of_ble_eq_true rfl) ?_
    refine e_iconst (v := (1 : Int32)) dX10_compare_173 (by decide) ?_
    obtain rfl := Option.some.inj h
    exact s_ret rfl ⟨_, rfl, nb1 (Or.inr rfl)⟩ dX10_compare_174
  · rw [if_pos c4] at h
    refine e_iconst (v := (0 : Int32)) dX10_compare_161 (by decide) ?_
    obtain rfl := Option.some.inj h
    exact s_ret rfl ⟨_, rfl, nb1 (Or.inl rfl)⟩ dX10_compare_162
def f_X10_compare_105 (a0 : Nat) (i1 : Int32) (i2 : Int32) (i3 : Int32) (σ : mm_S) : Option (Int32 × mm_S) :=
    bd (f_X10_makes a0 i2 σ) fun r9 σ8 =>
    if r9 = 0 then
      some ((0 : Int32), σ8)
    else
      if i1 = (60 : Int32) then
        if i3 = 0 then
          f_X10_compare_152 a0 (0 : Int32) σ8
        else
          f_X10_compare_152 a0 (1 : Int32) σ8
      else
        if i1 = (61 : Int32) then
          f_X10_compare_152 a0 (2 : Int32) σ8
        else
          if i3 = 0 then
            f_X10_compare_152 a0 (4 : Int32) σ8
          else
            f_X10_compare_152 a0 (3 : Int32) σ8
theorem v_X10_compare_105 {g : mm_G} (d : Nat) {a0 : Nat} {i1 : Int32} {i2 : Int32} {i3 : Int32} {σ : mm_S} {res : Int32 × mm_S}  (h_a0 : (mm_K a0).1 = 10) (h : f_X10_compare_105 a0 i1 i2 i3 σ = some res) : SV g (d + 6) yy_X10_compare 105 [(0, .ref a0), (1, .int i1), (2, .int i2), (3, .int i3)] [] σ (.int res.1) res.2 := by
  unfold f_X10_compare_105 at h
  refine e_aload_n 0 dX10_compare_105 rfl rfl ?_
  refine e_iload_n 2 dX10_compare_106 rfl rfl ?_
  obtain ⟨r9, σ8, q7, h⟩ := bd_some h
  refine s_callVi [.int i2] dX10_compare_107 ml_RX10_190 h_a0 ⟨_, rfl, by decide⟩ rfl (v_X10_makes (d + 4) h_a0 q7) (Nat.le_of_ble_eq_true rfl) ?_
  refine e_if_ne 115 dX10_compare_110 (by decide) (fun c10 => ?_) (fun c10 => ?_)
  · rw [if_neg c10] at h
    refine e_iload_n 1 dX10_compare_115 rfl rfl ?_
    refine e_bipush (v := (60 : Int32)) dX10_compare_116 (by decide) ?_
    refine e_icmp_ne 133 dX10_compare_118 (by decide) (fun c11 => ?_) (fun c11 => ?_)
    · rw [if_neg c11] at h
      refine e_iload_n 1 dX10_compare_133 rfl rfl ?_
      refine e_bipush (v := (61 : Int32)) dX10_compare_134 (by decide) ?_
      refine e_icmp_ne 143 dX10_compare_136 (by decide) (fun c12 => ?_) (fun c12 => ?_)
      · rw [if_neg c12] at h
        refine e_iload_n 3 dX10_compare_143 rfl rfl ?_
        refine e_if_eq 151 dX10_compare_144 (by decide) (fun c13 => ?_) (fun c13 => ?_)
        · rw [if_pos c13] at h
          refine e_iconst (v := (4 : Int32)) dX10_compare_151 (by decide) ?_
          refine s_pick (L' := [(0, .ref a0)]) [0] rfl ?_
          exact v_X10_compare_152 d h_a0 h
        · rw [if_neg c13] at h
          refine e_iconst (v := (3 : Int32)) dX10_compare_147 (by decide) ?_
          refine e_goto 152 dX10_compare_148 (by decide) ?_
          refine s_pick (L' := [(0, .ref a0)]) [0] rfl ?_
          exact v_X10_compare_152 d h_a0 h
      · rw [if_pos c12] at h
        refine e_iconst (v := (2 : Int32)) dX10_compare_139 (by decide) ?_
        refine e_goto 152 dX10_compare_140 (by decide) ?_
        refine s_pick (L' := [(0, .ref a0)]) [0] rfl ?_
        exact v_X10_compare_152 d h_a0 h
    · rw [if_pos c11] at h
      refine e_iload_n 3 dX10_compare_121 rfl rfl ?_
      refine e_if_eq 129 dX10_compare_122 (by decide) (fun c14 => ?_) (fun c14 => ?_)
      · rw [if_pos c14] at h
        refine e_iconst (v := (0 : Int32)) dX10_compare_129 (by decide) ?_
        refine e_goto 152 dX10_compare_130 (by decide) ?_
        refine s_pick (L' := [(0, .ref a0)]) [0] rfl ?_
        exact v_X10_compare_152 d h_a0 h
      · rw [if_neg c14] at h
        refine e_iconst (v := (1 : Int32)) dX10_compare_125 (by decide) ?_
        refine e_goto 152 dX10_compare_126 (by decide) ?_
        refine s_pick (L' := [(0, .ref a0)]) [0] rfl ?_
        exact v_X10_compare_152 d h_a0 h
  · rw [if_pos c10] at h
    refine e_iconst (v := (0 : Int32)) dX10_compare_113 (by decide) ?_
    obtain rfl := Option.some.inj h
    exact s_ret rfl ⟨_, rfl, nb1 (Or.inl rfl)⟩ dX10_compare_114
def f_X10_compare_90 (a0 : Nat) (i1 : Int32) (i2 : Int32) (s0 : Int32) (σ : mm_S) : Option (Int32 × mm_S) :=
    if s0 = 0 then
      f_X10_compare_105 a0 i1 i2 s0 σ
    else
      lt (su_i σ a0 8 ((σ.1 a0 8) + (1 : Int32))) fun σ16 =>
      f_X10_compare_105 a0 i1 i2 s0 σ16
theorem v_X10_compare_90 {g : mm_G} (d : Nat) {a0 : Nat} {i1 : Int32} {i2 : Int32} {s0 : Int32} {σ : mm_S} {res : Int32 × mm_S}  (h_a0 : (mm_K a0).1 = 10) (h : f_X10_compare_90 a0 i1 i2 s0 σ = some res) : SV g (d + 6) yy_X10_compare 90 [(0, .ref a0), (1, .int i1), (2, .int i2)] [.int s0] σ (.int res.1) res.2 := by
  unfold f_X10_compare_90 at h
  refine e_istore_n (L' := [(0, .ref a0), (1, .int i1), (2, .int i2), (3, .int s0)]) dX10_compare_90 rfl (by decide) rfl ?_
  refine e_iload_n 3 dX10_compare_91 rfl rfl ?_
  refine e_if_eq 105 dX10_compare_92 (by decide) (fun c15 => ?_) (fun c15 => ?_)
  · rw [if_pos c15] at h
    refine s_pick (L' := [(0, .ref a0), (1, .int i1), (2, .int i2), (3, .int s0)]) [0, 1, 2, 3] rfl ?_
    exact v_X10_compare_105 d h_a0 h
  · rw [if_neg c15] at h
    refine e_aload_n 0 dX10_compare_95 rfl rfl ?_
    refine e_dup dX10_compare_96 rfl ?_
    refine s_geti dX10_compare_97 fl_RX10_108 h_a0 ?_
    refine e_iconst (v := (1 : Int32)) dX10_compare_100 (by decide) ?_
    refine e_iadd dX10_compare_101 ?_
    refine s_puti dX10_compare_102 fl_RX10_108 h_a0 rfl rfl rfl ?_
    obtain ⟨σ16, q17, h⟩ := lt_some h
    refine s_nms q17 ?_
    refine s_pick (L' := [(0, .ref a0), (1, .int i1), (2, .int i2), (3, .int s0)]) [0, 1, 2, 3] rfl ?_
    exact v_X10_compare_105 d h_a0 h
def f_X10_compare_44 (a0 : Nat) (i1 : Int32) (i2 : Int32) (σ : mm_S) : Option (Int32 × mm_S) :=
    lt (su_i σ a0 8 ((σ.1 a0 8) + (1 : Int32))) fun σ18 =>
    if i1 = (61 : Int32) then
      f_X10_compare_90 a0 i1 i2 (0 : Int32) σ18
    else
      if (σ18.1 a0 1) ≤ (σ18.1 a0 8) then
        f_X10_compare_90 a0 i1 i2 (0 : Int32) σ18
      else
        gd (σ18.1 a0 8) 400 <|
        if (σ18.1 215 (σ18.1 a0 8).toNatClampNeg) = (61 : Int32) then
          f_X10_compare_90 a0 i1 i2 (1 : Int32) σ18
        else
          f_X10_compare_90 a0 i1 i2 (0 : Int32) σ18
theorem v_X10_compare_44 {g : mm_G} (d : Nat) {a0 : Nat} {i1 : Int32} {i2 : Int32} {σ : mm_S} {res : Int32 × mm_S}  (h_a0 : (mm_K a0).1 = 10) (h : f_X10_compare_44 a0 i1 i2 σ = some res) : SV g (d + 6) yy_X10_compare 44 [(0, .ref a0), (1, .int i1), (2, .int i2)] [] σ (.int res.1) res.2 := by
  unfold f_X10_compare_44 at h
  refine e_aload_n 0 dX10_compare_44 rfl rfl ?_
  refine e_dup dX10_compare_45 rfl ?_
  refine s_geti dX10_compare_46 fl_RX10_108 h_a0 ?_
  refine e_iconst (v := (1 : Int32)) dX10_compare_49 (by decide) ?_
  refine e_iadd dX10_compare_50 ?_
  refine s_puti dX10_compare_51 fl_RX10_108 h_a0 rfl rfl rfl ?_
  obtain ⟨σ18, q19, h⟩ := lt_some h
  refine s_nms q19 ?_
  refine e_iload_n 1 dX10_compare_54 rfl rfl ?_
  refine e_bipush (v := (61 : Int32)) dX10_compare_55 (by decide) ?_
  refine e_icmp_eq 89 dX10_compare_57 (by decide) (fun c20 => ?_) (fun c20 => ?_)
  · rw [if_pos c20] at h
    refine e_iconst (v := (0 : Int32)) dX10_compare_89 (by decide) ?_
    refine s_pick (L' := [(0, .ref a0), (1, .int i1), (2, .int i2)]) [0, 1, 2] rfl ?_
    exact v_X10_compare_90 d h_a0 h
  · rw [if_neg c20] at h
    refine e_aload_n 0 dX10_compare_60 rfl rfl ?_
    refine s_geti dX10_compare_61 fl_RX10_108 h_a0 ?_
    refine e_aload_n 0 dX10_compare_64 rfl rfl ?_
    refine s_geti dX10_compare_65 fl_RX10_98 h_a0 ?_
    refine e_icmp_ge 89 dX10_compare_68 (by decide) (fun c21 => ?_) (fun c21 => ?_)
    · rw [if_pos c21] at h
      refine e_iconst (v := (0 : Int32)) dX10_compare_89 (by decide) ?_
      refine s_pick (L' := [(0, .ref a0), (1, .int i1), (2, .int i2)]) [0, 1, 2] rfl ?_
      exact v_X10_compare_90 d h_a0 h
    · rw [if_neg c21] at h
      refine e_aload_n 0 dX10_compare_71 rfl rfl ?_
      refine s_getr dX10_compare_72 fl_RX10_7 h_a0 (r_10_0 h_a0).1 ?_
      refine e_aload_n 0 dX10_compare_75 rfl rfl ?_
      refine s_geti dX10_compare_76 fl_RX10_108 h_a0 ?_
      obtain ⟨q22, h⟩ := gd_some h
      refine s_bald dX10_compare_79 (r_10_0 (w := 0) h_a0).2 q22 ?_
      refine e_bipush (v := (61 : Int32)) dX10_compare_80 (by decide) ?_
      refine e_icmp_ne 89 dX10_compare_82 (by decide) (fun c23 => ?_) (fun c23 => ?_)
      · rw [if_neg c23] at h
        refine e_iconst (v := (0 : Int32)) dX10_compare_89 (by decide) ?_
        refine s_pick (L' := [(0, .ref a0), (1, .int i1), (2, .int i2)]) [0, 1, 2] rfl ?_
        exact v_X10_compare_90 d h_a0 h
      · rw [if_pos c23] at h
        refine e_iconst (v := (1 : Int32)) dX10_compare_85 (by decide) ?_
        refine e_goto 90 dX10_compare_86 (by decide) ?_
        refine s_pick (L' := [(0, .ref a0), (1, .int i1), (2, .int i2)]) [0, 1, 2] rfl ?_
        exact v_X10_compare_90 d h_a0 h
def f_X10_compare (a0 : Nat) (σ : mm_S) : Option (Int32 × mm_S) :=
    bd (f_X10_sum a0 σ) fun r42 σ41 =>
    if r42 = 0 then
      some ((0 : Int32), σ41)
    else
      bd (f_X10_see a0 σ41) fun r46 σ45 =>
      lt ((σ45.1 a0 8)) fun x47 =>
      if r46 = (60 : Int32) then
        f_X10_compare_44 a0 r46 x47 σ45
      else
        if r46 = (61 : Int32) then
          f_X10_compare_44 a0 r46 x47 σ45
        else
          if r46 = (62 : Int32) then
            f_X10_compare_44 a0 r46 x47 σ45
          else
            bd (f_X10_fails a0 (0 : Int32) x47 σ45) fun r54 σ53 =>
            gb r54 <|
            some (r54, σ53)
theorem v_X10_compare {g : mm_G} (d : Nat) {a0 : Nat} {σ : mm_S} {res : Int32 × mm_S} (h_a0 : (mm_K a0).1 = 10) (h : f_X10_compare a0 σ = some res) : SM g (d + 6) yy_X10_compare [.ref a0] σ (.int res.1) res.2 := by
  refine s_of (by decide) (Nat.le_of_ble_eq_true rfl) (L := [(0, .ref a0)]) rfl ?_
  unfold f_X10_compare at h
  refine e_aload_n 0 dX10_compare_0 rfl rfl ?_
  obtain ⟨r42, σ41, q40, h⟩ := bd_some h
  refine s_callVi [] dX10_compare_1 ml_RX10_203 h_a0 ⟨_, rfl, by decide⟩ rfl (v_X10_sum (d + 0) h_a0 q40) (Nat.le_of_ble_eq_true rfl) ?_
  refine e_if_ne 9 dX10_compare_4 (by decide) (fun c43 => ?_) (fun c43 => ?_)
  · rw [if_neg c43] at h
    refine e_aload_n 0 dX10_compare_9 rfl rfl ?_
    obtain ⟨r46, σ45, q44, h⟩ := bd_some h
    refine s_callVi [] dX10_compare_10 ml_RX10_111 h_a0 ⟨_, rfl, by decide⟩ rfl (v_X10_see (d + 5) h_a0 q44) (Nat.le_of_ble_eq_true rfl) ?_
    refine e_istore_n (L' := [(0, .ref a0), (1, .int r46)]) dX10_compare_13 rfl (by decide) rfl ?_
    refine e_aload_n 0 dX10_compare_14 rfl rfl ?_
    refine s_geti dX10_compare_15 fl_RX10_108 h_a0 ?_
    obtain ⟨x47, q48, h⟩ := lt_some h
    refine s_nmi q48 ?_
    refine e_istore_n (L' := [(0, .ref a0), (1, .int r46), (2, .int x47)]) dX10_compare_18 rfl (by decide) rfl ?_
    refine e_iload_n 1 dX10_compare_19 rfl rfl ?_
    refine e_bipush (v := (60 : Int32)) dX10_compare_20 (by decide) ?_
    refine e_icmp_eq 44 dX10_compare_22 (by decide) (fun c49 => ?_) (fun c49 => ?_)
    · rw [if_pos c49] at h
      refine s_pick (L' := [(0, .ref a0), (1, .int r46), (2, .int x47)]) [0, 1, 2] rfl ?_
      exact v_X10_compare_44 d h_a0 h
    · rw [if_neg c49] at h
      refine e_iload_n 1 dX10_compare_25 rfl rfl ?_
      refine e_bipush (v := (61 : Int32)) dX10_compare_26 (by decide) ?_
      refine e_icmp_eq 44 dX10_compare_28 (by decide) (fun c50 => ?_) (fun c50 => ?_)
      · rw [if_pos c50] at h
        refine s_pick (L' := [(0, .ref a0), (1, .int r46), (2, .int x47)]) [0, 1, 2] rfl ?_
        exact v_X10_compare_44 d h_a0 h
      · rw [if_neg c50] at h
        refine e_iload_n 1 dX10_compare_31 rfl rfl ?_
        refine e_bipush (v := (62 : Int32)) dX10_compare_32 (by decide) ?_
        refine e_icmp_eq 44 dX10_compare_34 (by decide) (fun c51 => ?_) (fun c51 => ?_)
        · rw [if_pos c51] at h
          refine s_pick (L' := [(0, .ref a0), (1, .int r46), (2, .int x47)]) [0, 1, 2] rfl ?_
          exact v_X10_compare_44 d h_a0 h
        · rw [if_neg c51] at h
          refine e_aload_n 0 dX10_compare_37 rfl rfl ?_
          refine e_iconst (v := (0 : Int32)) dX10_compare_38 (by decide) ?_
          refine e_iload_n 2 dX10_compare_39 rfl rfl ?_
          obtain ⟨r54, σ53, q52, h⟩ := bd_some h
          refine s_callVi [.int (0 : Int32), .int x47] dX10_compare_40 ml_RX10_129 h_a0 ⟨_, rfl, by decide⟩ rfl (v_X10_fails (d + 5) h_a0 q52) (Nat.le_of_ble_eq_true rfl) ?_
          obtain ⟨q55, h⟩ := gb_some h
          obtain rfl := Option.some.inj h
          exact s_ret rfl ⟨_, rfl, nb1 q55⟩ dX10_compare_43
  · rw [if_pos c43] at h
    refine e_iconst (v := (0 : Int32)) dX10_compare_7 (by decide) ?_
    obtain rfl := Option.some.inj h
    exact s_ret rfl ⟨_, rfl, nb1 (Or.inl rfl)⟩ dX10_compare_8
abbrev yy_X10_fact : mm_Y := (yX10_fact, cX10_fact, 3, (some .boolean))
theorem dX10_fact_0 : decode cX10_fact 0 = .ok (.iconst 1, 1) := by decide +kernel
theorem dX10_fact_1 : decode cX10_fact 1 = .ok (.istore_n 1, 1) := by decide +kernel
theorem dX10_fact_2 : decode cX10_fact 2 = .ok (.iload_n 1, 1) := by decide +kernel
theorem dX10_fact_3 : decode cX10_fact 3 = .ok (.ifCond .eq 72, 3) := by decide +kernel
theorem dX10_fact_6 : decode cX10_fact 6 = .ok (.iconst 0, 1) := by decide +kernel
theorem dX10_fact_7 : decode cX10_fact 7 = .ok (.istore_n 1, 1) := by decide +kernel
theorem dX10_fact_8 : decode cX10_fact 8 = .ok (.aload_n 0, 1) := by decide +kernel
theorem dX10_fact_9 : decode cX10_fact 9 = .ok (.invokevirtual 111, 3) := by decide +kernel
theorem dX10_fact_12 : decode cX10_fact 12 = .ok (.istore_n 2, 1) := by decide +kernel
theorem dX10_fact_13 : decode cX10_fact 13 = .ok (.aload_n 0, 1) := by decide +kernel
theorem dX10_fact_14 : decode cX10_fact 14 = .ok (.ldc2_w 206, 3) := by decide +kernel
theorem dX10_fact_17 : decode cX10_fact 17 = .ok (.invokevirtual 119, 3) := by decide +kernel
theorem dX10_fact_20 : decode cX10_fact 20 = .ok (.ifCond .eq 23, 3) := by decide +kernel
theorem dX10_fact_23 : decode cX10_fact 23 = .ok (.aload_n 0, 1) := by decide +kernel
theorem dX10_fact_24 : decode cX10_fact 24 = .ok (.bipush 11, 2) := by decide +kernel
theorem dX10_fact_26 : decode cX10_fact 26 = .ok (.invokevirtual 208, 3) := by decide +kernel
theorem dX10_fact_29 : decode cX10_fact 29 = .ok (.ifCond .ne 5, 3) := by decide +kernel
theorem dX10_fact_32 : decode cX10_fact 32 = .ok (.iconst 0, 1) := by decide +kernel
theorem dX10_fact_33 : decode cX10_fact 33 = .ok (.ireturn, 1) := by decide +kernel
theorem dX10_fact_34 : decode cX10_fact 34 = .ok (.aload_n 0, 1) := by decide +kernel
theorem dX10_fact_35 : decode cX10_fact 35 = .ok (.invokevirtual 123, 3) := by decide +kernel
theorem dX10_fact_38 : decode cX10_fact 38 = .ok (.iconst 1, 1) := by decide +kernel
theorem dX10_fact_39 : decode cX10_fact 39 = .ok (.istore_n 1, 1) := by decide +kernel
theorem dX10_fact_40 : decode cX10_fact 40 = .ok (.goto 32, 3) := by decide +kernel
theorem dX10_fact_43 : decode cX10_fact 43 = .ok (.iload_n 2, 1) := by decide +kernel
theorem dX10_fact_44 : decode cX10_fact 44 = .ok (.bipush 91, 2) := by decide +kernel
theorem dX10_fact_46 : decode cX10_fact 46 = .ok (.if_icmp .ne 26, 3) := by decide +kernel
theorem dX10_fact_49 : decode cX10_fact 49 = .ok (.aload_n 0, 1) := by decide +kernel
theorem dX10_fact_50 : decode cX10_fact 50 = .ok (.bipush 91, 2) := by decide +kernel
theorem dX10_fact_52 : decode cX10_fact 52 = .ok (.invokevirtual 208, 3) := by decide +kernel
theorem dX10_fact_55 : decode cX10_fact 55 = .ok (.ifCond .ne 5, 3) := by decide +kernel
theorem dX10_fact_58 : decode cX10_fact 58 = .ok (.iconst 0, 1) := by decide +kernel
theorem dX10_fact_59 : decode cX10_fact 59 = .ok (.ireturn, 1) := by decide +kernel
theorem dX10_fact_60 : decode cX10_fact 60 = .ok (.aload_n 0, 1) := by decide +kernel
theorem dX10_fact_61 : decode cX10_fact 61 = .ok (.dup, 1) := by decide +kernel
theorem dX10_fact_62 : decode cX10_fact 62 = .ok (.getfield 108, 3) := by decide +kernel
theorem dX10_fact_65 : decode cX10_fact 65 = .ok (.iconst 1, 1) := by decide +kernel
theorem dX10_fact_66 : decode cX10_fact 66 = .ok (.iadd, 1) := by decide +kernel
theorem dX10_fact_67 : decode cX10_fact 67 = .ok (.putfield 108, 3) := by decide +kernel
theorem dX10_fact_70 : decode cX10_fact 70 = .ok (.iconst 1, 1) := by decide +kernel
theorem dX10_fact_71 : decode cX10_fact 71 = .ok (.istore_n 1, 1) := by decide +kernel
theorem dX10_fact_72 : decode cX10_fact 72 = .ok (.goto (-70), 3) := by decide +kernel
theorem dX10_fact_75 : decode cX10_fact 75 = .ok (.aload_n 0, 1) := by decide +kernel
theorem dX10_fact_76 : decode cX10_fact 76 = .ok (.invokevirtual 211, 3) := by decide +kernel
theorem dX10_fact_79 : decode cX10_fact 79 = .ok (.ireturn, 1) := by decide +kernel
def f_X10_fact_2 (a0 : Nat) (i1 : Int32) (σ : mm_S) : Option (Int32 × mm_S) :=
  lp lpN (fun (k2 : (Int32) → mm_S → Option (Int32 × mm_S)) (v : Int32) (σ : mm_S) =>
    if v = 0 then
      bd (f_X10_compare a0 σ) fun r4 σ3 =>
      gb r4 <|
      some (r4, σ3)
    else
      bd (f_X10_see a0 σ) fun r8 σ7 =>
      bd (f_X10_isWord a0 (14836 : Int64) σ7) fun r11 σ10 =>
      if r11 = 0 then
        if r8 = (91 : Int32) then
          bd (f_X10_opens a0 (91 : Int32) σ10) fun r16 σ15 =>
          if r16 = 0 then
            some ((0 : Int32), σ15)
          else
            lt (su_i σ15 a0 8 ((σ15.1 a0 8) + (1 : Int32))) fun σ18 =>
            k2 (1 : Int32) σ18
        else
          k2 (0 : Int32) σ10
      else
        bd (f_X10_opens a0 (11 : Int32) σ10) fun r22 σ21 =>
        if r22 = 0 then
          some ((0 : Int32), σ21)
        else
          bv (f_X10_passWord a0 σ21) fun σ25 =>
          k2 (1 : Int32) σ25) i1 σ
theorem v_X10_fact_2 {g : mm_G} (d : Nat) {a0 : Nat} {i1 : Int32} {σ : mm_S} {res : Int32 × mm_S}  (h_a0 : (mm_K a0).1 = 10) (h : f_X10_fact_2 a0 i1 σ = some res) : SV g (d + 7) yy_X10_fact 2 [(0, .ref a0), (1, .int i1)] [] σ (.int res.1) res.2 := by
  unfold f_X10_fact_2 at h
  refine lp_ind (P := fun v σ => SV g (d + 7) yy_X10_fact 2 [(0, .ref a0), (1, .int v)] [] σ (.int res.1) res.2) (fun k2 H2 v σ h => ?_) _ i1 σ h
  refine e_iload_n 1 dX10_fact_2 rfl rfl ?_
  refine e_if_eq 75 dX10_fact_3 (by decide) (fun c1 => ?_) (fun c1 => ?_)
  · rw [if_pos c1] at h
    refine e_aload_n 0 dX10_fact_75 rfl rfl ?_
    obtain ⟨r4, σ3, q2, h⟩ := bd_some h
    refine s_callVi [] dX10_fact_76 ml_RX10_211 h_a0 ⟨_, rfl, by decide⟩ rfl (v_X10_compare (d + 0) h_a0 q2) (Nat.le_of_ble_eq_true rfl) ?_
    obtain ⟨q5, h⟩ := gb_some h
    obtain rfl := Option.some.inj h
    exact s_ret rfl ⟨_, rfl, nb1 q5⟩ dX10_fact_79
  · rw [if_neg c1] at h
    refine e_iconst (v := (0 : Int32)) dX10_fact_6 (by decide) ?_
    refine e_istore_n (L' := [(0, .ref a0), (1, .int (0 : Int32))]) dX10_fact_7 rfl (by decide) rfl ?_
    refine e_aload_n 0 dX10_fact_8 rfl rfl ?_
    obtain ⟨r8, σ7, q6, h⟩ := bd_some h
    refine s_callVi [] dX10_fact_9 ml_RX10_111 h_a0 ⟨_, rfl, by decide⟩ rfl (v_X10_see (d + 6) h_a0 q6) (Nat.le_of_ble_eq_true rfl) ?_
    refine e_istore_n (L' := [(0, .ref a0), (1, .int (0 : Int32)), (2, .int r8)]) dX10_fact_12 rfl (by decide) rfl ?_
    refine e_aload_n 0 dX10_fact_13 rfl rfl ?_
    refine e_ldc2 dX10_fact_14 co_RX10_206 ?_
    obtain ⟨r11, σ10, q9, h⟩ := bd_some h
    refine s_callVi [.long (14836 : Int64)] dX10_fact_17 ml_RX10_119 h_a0 ⟨_, rfl, by decide⟩ rfl (v_X10_isWord (d + 5) h_a0 q9) (Nat.le_of_ble_eq_true rfl) ?_
    refine e_if_eq 43 dX10_fact_20 (by decide) (fun c12 => ?_) (fun c12 => ?_)
    · rw [if_pos c12] at h
      refine e_iload_n 2 dX10_fact_43 rfl rfl ?_
      refine e_bipush (v := (91 : Int32)) dX10_fact_44 (by decide) ?_
      refine e_icmp_ne 72 dX10_fact_46 (by decide) (fun c13 => ?_) (fun c13 => ?_)
      · rw [if_neg c13] at h
        refine e_goto 2 dX10_fact_72 (by decide) ?_
        refine s_pick (L' := [(0, .ref a0), (1, .int (0 : Int32))]) [0, 1] rfl ?_
        exact H2 (0 : Int32) σ10 h
      · rw [if_pos c13] at h
        refine e_aload_n 0 dX10_fact_49 rfl rfl ?_
        refine e_bipush (v := (91 : Int32)) dX10_fact_50 (by decide) ?_
        obtain ⟨r16, σ15, q14, h⟩ := bd_some h
        refine s_callVi [.int (91 : Int32)] dX10_fact_52 ml_RX10_208 h_a0 ⟨_, rfl, by decide⟩ rfl (v_X10_opens (d + 5) h_a0 q14) (Nat.le_of_ble_eq_true rfl) ?_
        refine e_if_ne 60 dX10_fact_55 (by decide) (fun c17 => ?_) (fun c17 => ?_)
        · rw [if_neg c17] at h
          refine e_aload_n 0 dX10_fact_60 rfl rfl ?_
          refine e_dup dX10_fact_61 rfl ?_
          refine s_geti dX10_fact_62 fl_RX10_108 h_a0 ?_
          refine e_iconst (v := (1 : Int32)) dX10_fact_65 (by decide) ?_
          refine e_iadd dX10_fact_66 ?_
          refine s_puti dX10_fact_67 fl_RX10_108 h_a0 rfl rfl rfl ?_
          obtain ⟨σ18, q19, h⟩ := lt_some h
          refine s_nms q19 ?_
          refine e_iconst (v := (1 : Int32)) dX10_fact_70 (by decide) ?_
          refine e_istore_n (L' := [(0, .ref a0), (1, .int (1 : Int32)), (2, .int r8)]) dX10_fact_71 rfl (by decide) rfl ?_
          refine e_goto 2 dX10_fact_72 (by decide) ?_
          refine s_pick (L' := [(0, .ref a0), (1, .int (1 : Int32))]) [0, 1] rfl ?_
          exact H2 (1 : Int32) σ18 h
        · rw [if_pos c17] at h
          refine e_iconst (v := (0 : Int32)) dX10_fact_58 (by decide) ?_
          obtain rfl := Option.some.inj h
          exact s_ret rfl ⟨_, rfl, nb1 (Or.inl rfl)⟩ dX10_fact_59
    · rw [if_neg c12] at h
      refine e_aload_n 0 dX10_fact_23 rfl rfl ?_
      refine e_bipush (v := (11 : Int32)) dX10_fact_24 (by decide) ?_
      obtain ⟨r22, σ21, q20, h⟩ := bd_some h
      refine s_callVi [.int (11 : Int32)] dX10_fact_26 ml_RX10_208 h_a0 ⟨_, rfl, by decide⟩ rfl (v_X10_opens (d + 5) h_a0 q20) (Nat.le_of_ble_eq_true rfl) ?_
      refine e_if_ne 34 dX10_fact_29 (by decide) (fun c23 => ?_) (fun c23 => ?_)
      · rw [if_neg c23] at h
        refine e_aload_n 0 dX10_fact_34 rfl rfl ?_
        obtain ⟨σ25, q24, h⟩ := bv_some h
        refine s_callVv [] dX10_fact_35 ml_RX10_123 h_a0 rfl rfl (v_X10_passWord (d + 5) h_a0 q24) (Nat.le_of_ble_eq_true rfl) ?_
        refine e_iconst (v := (1 : Int32)) dX10_fact_38 (by decide) ?_
        refine e_istore_n (L' := [(0, .ref a0), (1, .int (1 : Int32)), (2, .int r8)]) dX10_fact_39 rfl (by decide) rfl ?_
        refine e_goto 72 dX10_fact_40 (by decide) ?_
        refine e_goto 2 dX10_fact_72 (by decide) ?_
        refine s_pick (L' := [(0, .ref a0), (1, .int (1 : Int32))]) [0, 1] rfl ?_
        exact H2 (1 : Int32) σ25 h
      · rw [if_pos c23] at h
        refine e_iconst (v := (0 : Int32)) dX10_fact_32 (by decide) ?_
        obtain rfl := Option.some.inj h
        exact s_ret rfl ⟨_, rfl, nb1 (Or.inl rfl)⟩ dX10_fact_33
def f_X10_fact (a0 : Nat) (σ : mm_S) : Option (Int32 × mm_S) :=
    f_X10_fact_2 a0 (1 : Int32) σ
theorem v_X10_fact {g : mm_G} (d : Nat) {a0 : Nat} {σ : mm_S} {res : Int32 × mm_S} (h_a0 : (mm_K a0).1 = 10) (h : f_X10_fact a0 σ = some res) : SM g (d + 7) yy_X10_fact [.ref a0] σ (.int res.1) res.2 := by
  refine s_of (by decide) (Nat.le_of_ble_eq_true rfl) (L := [(0, .ref a0)]) rfl ?_
  unfold f_X10_fact at h
  refine e_iconst (v := (1 : Int32)) dX10_fact_0 (by decide) ?_
  refine e_istore_n (L' := [(0, .ref a0), (1, .int (1 : Int32))]) dX10_fact_1 rfl (by decide) rfl ?_
  refine s_pick (L' := [(0, .ref a0), (1, .int (1 : Int32))]) [0, 1] rfl ?_
  exact v_X10_fact_2 d h_a0 h
abbrev yy_X10_isInside : mm_Y := (yX10_isInside, cX10_isInside, 2, (some .boolean))
theorem dX10_isInside_0 : decode cX10_isInside 0 = .ok (.iconst 0, 1) := by decide +kernel
theorem dX10_isInside_1 : decode cX10_isInside 1 = .ok (.istore_n 1, 1) := by decide +kernel
theorem dX10_isInside_2 : decode cX10_isInside 2 = .ok (.iload_n 1, 1) := by decide +kernel
theorem dX10_isInside_3 : decode cX10_isInside 3 = .ok (.aload_n 0, 1) := by decide +kernel
theorem dX10_isInside_4 : decode cX10_isInside 4 = .ok (.getfield 175, 3) := by decide +kernel
theorem dX10_isInside_7 : decode cX10_isInside 7 = .ok (.if_icmp .ge 22, 3) := by decide +kernel
theorem dX10_isInside_10 : decode cX10_isInside 10 = .ok (.aload_n 0, 1) := by decide +kernel
theorem dX10_isInside_11 : decode cX10_isInside 11 = .ok (.getfield 29, 3) := by decide +kernel
theorem dX10_isInside_14 : decode cX10_isInside 14 = .ok (.iload_n 1, 1) := by decide +kernel
theorem dX10_isInside_15 : decode cX10_isInside 15 = .ok (.iaload, 1) := by decide +kernel
theorem dX10_isInside_16 : decode cX10_isInside 16 = .ok (.bipush 91, 2) := by decide +kernel
theorem dX10_isInside_18 : decode cX10_isInside 18 = .ok (.if_icmp .ne 5, 3) := by decide +kernel
theorem dX10_isInside_21 : decode cX10_isInside 21 = .ok (.iconst 1, 1) := by decide +kernel
theorem dX10_isInside_22 : decode cX10_isInside 22 = .ok (.ireturn, 1) := by decide +kernel
theorem dX10_isInside_23 : decode cX10_isInside 23 = .ok (.iinc 1 1, 3) := by decide +kernel
theorem dX10_isInside_26 : decode cX10_isInside 26 = .ok (.goto (-24), 3) := by decide +kernel
theorem dX10_isInside_29 : decode cX10_isInside 29 = .ok (.iconst 0, 1) := by decide +kernel
theorem dX10_isInside_30 : decode cX10_isInside 30 = .ok (.ireturn, 1) := by decide +kernel
def f_X10_isInside_2 (a0 : Nat) (i1 : Int32) (σ : mm_S) : Option (Int32 × mm_S) :=
  lp lpN (fun (k2 : (Int32) → mm_S → Option (Int32 × mm_S)) (v : Int32) (σ : mm_S) =>
    if (σ.1 a0 16) ≤ v then
      some ((0 : Int32), σ)
    else
      gd v 400 <|
      if (σ.1 221 v.toNatClampNeg) = (91 : Int32) then
        some ((1 : Int32), σ)
      else
        lt (v + Int32.ofInt (1)) fun x4 =>
        k2 x4 σ) i1 σ
theorem v_X10_isInside_2 {g : mm_G} (d : Nat) {a0 : Nat} {i1 : Int32} {σ : mm_S} {res : Int32 × mm_S}  (h_a0 : (mm_K a0).1 = 10) (h : f_X10_isInside_2 a0 i1 σ = some res) : SV g (d + 0) yy_X10_isInside 2 [(0, .ref a0), (1, .int i1)] [] σ (.int res.1) res.2 := by
  unfold f_X10_isInside_2 at h
  refine lp_ind (P := fun v σ => SV g (d + 0) yy_X10_isInside 2 [(0, .ref a0), (1, .int v)] [] σ (.int res.1) res.2) (fun k2 H2 v σ h => ?_) _ i1 σ h
  refine e_iload_n 1 dX10_isInside_2 rfl rfl ?_
  refine e_aload_n 0 dX10_isInside_3 rfl rfl ?_
  refine s_geti dX10_isInside_4 fl_RX10_175 h_a0 ?_
  refine e_icmp_ge 29 dX10_isInside_7 (by decide) (fun c1 => ?_) (fun c1 => ?_)
  · rw [if_pos c1] at h
    refine e_iconst (v := (0 : Int32)) dX10_isInside_29 (by decide) ?_
    obtain rfl := Option.some.inj h
    exact s_ret rfl ⟨_, rfl, nb1 (Or.inl rfl)⟩ dX10_isInside_30
  · rw [if_neg c1] at h
    refine e_aload_n 0 dX10_isInside_10 rfl rfl ?_
    refine s_getr dX10_isInside_11 fl_RX10_29 h_a0 (r_10_15 h_a0).1 ?_
    refine e_iload_n 1 dX10_isInside_14 rfl rfl ?_
    obtain ⟨q2, h⟩ := gd_some h
    refine s_iald dX10_isInside_15 (r_10_15 (w := 0) h_a0).2 q2 ?_
    refine e_bipush (v := (91 : Int32)) dX10_isInside_16 (by decide) ?_
    refine e_icmp_ne 23 dX10_isInside_18 (by decide) (fun c3 => ?_) (fun c3 => ?_)
    · rw [if_neg c3] at h
      obtain ⟨x4, q5, h⟩ := lt_some h
      refine e_iinc (v := x4) (L' := [(0, .ref a0), (1, .int x4)]) 1 dX10_isInside_23 rfl q5.symm (by decide) rfl ?_
      refine e_goto 2 dX10_isInside_26 (by decide) ?_
      refine s_pick (L' := [(0, .ref a0), (1, .int x4)]) [0, 1] rfl ?_
      exact H2 x4 σ h
    · rw [if_pos c3] at h
      refine e_iconst (v := (1 : Int32)) dX10_isInside_21 (by decide) ?_
      obtain rfl := Option.some.inj h
      exact s_ret rfl ⟨_, rfl, nb1 (Or.inr rfl)⟩ dX10_isInside_22
def f_X10_isInside (a0 : Nat) (σ : mm_S) : Option (Int32 × mm_S) :=
    f_X10_isInside_2 a0 (0 : Int32) σ
theorem v_X10_isInside {g : mm_G} (d : Nat) {a0 : Nat} {σ : mm_S} {res : Int32 × mm_S} (h_a0 : (mm_K a0).1 = 10) (h : f_X10_isInside a0 σ = some res) : SM g (d + 0) yy_X10_isInside [.ref a0] σ (.int res.1) res.2 := by
  refine s_of (by decide) (Nat.le_of_ble_eq_true rfl) (L := [(0, .ref a0)]) rfl ?_
  unfold f_X10_isInside at h
  refine e_iconst (v := (0 : Int32)) dX10_isInside_0 (by decide) ?_
  refine e_istore_n (L' := [(0, .ref a0), (1, .int (0 : Int32))]) dX10_isInside_1 rfl (by decide) rfl ?_
  refine s_pick (L' := [(0, .ref a0), (1, .int (0 : Int32))]) [0, 1] rfl ?_
  exact v_X10_isInside_2 d h_a0 h
