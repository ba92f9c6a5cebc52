abbrev yy_X10_house : mm_Y := (yX10_house, cX10_house, 2, (some .int))
theorem dX10_house_0 : decode cX10_house 0 = .ok (.aload_n 0, 1) := by decide +kernel
theorem dX10_house_1 : decode cX10_house 1 = .ok (.bipush 6, 2) := by decide +kernel
theorem dX10_house_3 : decode cX10_house 3 = .ok (.putfield 166, 3) := by decide +kernel
theorem dX10_house_6 : decode cX10_house 6 = .ok (.iconst 0, 1) := by decide +kernel
theorem dX10_house_7 : decode cX10_house 7 = .ok (.istore_n 1, 1) := by decide +kernel
theorem dX10_house_8 : decode cX10_house 8 = .ok (.iload_n 1, 1) := by decide +kernel
theorem dX10_house_9 : decode cX10_house 9 = .ok (.bipush 90, 2) := by decide +kernel
theorem dX10_house_11 : decode cX10_house 11 = .ok (.if_icmp .ge 16, 3) := by decide +kernel
theorem dX10_house_14 : decode cX10_house 14 = .ok (.aload_n 0, 1) := by decide +kernel
theorem dX10_house_15 : decode cX10_house 15 = .ok (.getfield 26, 3) := by decide +kernel
theorem dX10_house_18 : decode cX10_house 18 = .ok (.iload_n 1, 1) := by decide +kernel
theorem dX10_house_19 : decode cX10_house 19 = .ok (.iconst 0, 1) := by decide +kernel
theorem dX10_house_20 : decode cX10_house 20 = .ok (.iastore, 1) := by decide +kernel
theorem dX10_house_21 : decode cX10_house 21 = .ok (.iinc 1 1, 3) := by decide +kernel
theorem dX10_house_24 : decode cX10_house 24 = .ok (.goto (-16), 3) := by decide +kernel
theorem dX10_house_27 : decode cX10_house 27 = .ok (.aload_n 0, 1) := by decide +kernel
theorem dX10_house_28 : decode cX10_house 28 = .ok (.invokevirtual 278, 3) := by decide +kernel
theorem dX10_house_31 : decode cX10_house 31 = .ok (.ifCond .ne 11, 3) := by decide +kernel
theorem dX10_house_34 : decode cX10_house 34 = .ok (.bipush (-2), 2) := by decide +kernel
theorem dX10_house_36 : decode cX10_house 36 = .ok (.aload_n 0, 1) := by decide +kernel
theorem dX10_house_37 : decode cX10_house 37 = .ok (.getfield 105, 3) := by decide +kernel
theorem dX10_house_40 : decode cX10_house 40 = .ok (.isub, 1) := by decide +kernel
theorem dX10_house_41 : decode cX10_house 41 = .ok (.ireturn, 1) := by decide +kernel
theorem dX10_house_42 : decode cX10_house 42 = .ok (.iconst 0, 1) := by decide +kernel
theorem dX10_house_43 : decode cX10_house 43 = .ok (.istore_n 1, 1) := by decide +kernel
theorem dX10_house_44 : decode cX10_house 44 = .ok (.iload_n 1, 1) := by decide +kernel
theorem dX10_house_45 : decode cX10_house 45 = .ok (.bipush 121, 2) := by decide +kernel
theorem dX10_house_47 : decode cX10_house 47 = .ok (.if_icmp .ge 31, 3) := by decide +kernel
theorem dX10_house_50 : decode cX10_house 50 = .ok (.aload_n 0, 1) := by decide +kernel
theorem dX10_house_51 : decode cX10_house 51 = .ok (.getfield 39, 3) := by decide +kernel
theorem dX10_house_54 : decode cX10_house 54 = .ok (.iload_n 1, 1) := by decide +kernel
theorem dX10_house_55 : decode cX10_house 55 = .ok (.iload_n 1, 1) := by decide +kernel
theorem dX10_house_56 : decode cX10_house 56 = .ok (.bipush 90, 2) := by decide +kernel
theorem dX10_house_58 : decode cX10_house 58 = .ok (.if_icmp .ge 12, 3) := by decide +kernel
theorem dX10_house_61 : decode cX10_house 61 = .ok (.aload_n 0, 1) := by decide +kernel
theorem dX10_house_62 : decode cX10_house 62 = .ok (.getfield 26, 3) := by decide +kernel
theorem dX10_house_65 : decode cX10_house 65 = .ok (.iload_n 1, 1) := by decide +kernel
theorem dX10_house_66 : decode cX10_house 66 = .ok (.iaload, 1) := by decide +kernel
theorem dX10_house_67 : decode cX10_house 67 = .ok (.goto 4, 3) := by decide +kernel
theorem dX10_house_70 : decode cX10_house 70 = .ok (.iconst 0, 1) := by decide +kernel
theorem dX10_house_71 : decode cX10_house 71 = .ok (.iastore, 1) := by decide +kernel
theorem dX10_house_72 : decode cX10_house 72 = .ok (.iinc 1 1, 3) := by decide +kernel
theorem dX10_house_75 : decode cX10_house 75 = .ok (.goto (-31), 3) := by decide +kernel
theorem dX10_house_78 : decode cX10_house 78 = .ok (.aload_n 0, 1) := by decide +kernel
theorem dX10_house_79 : decode cX10_house 79 = .ok (.invokevirtual 281, 3) := by decide +kernel
theorem dX10_house_82 : decode cX10_house 82 = .ok (.aload_n 0, 1) := by decide +kernel
theorem dX10_house_83 : decode cX10_house 83 = .ok (.iconst 0, 1) := by decide +kernel
theorem dX10_house_84 : decode cX10_house 84 = .ok (.putfield 284, 3) := by decide +kernel
theorem dX10_house_87 : decode cX10_house 87 = .ok (.aload_n 0, 1) := by decide +kernel
theorem dX10_house_88 : decode cX10_house 88 = .ok (.getfield 39, 3) := by decide +kernel
theorem dX10_house_91 : decode cX10_house 91 = .ok (.iconst 3, 1) := by decide +kernel
theorem dX10_house_92 : decode cX10_house 92 = .ok (.iaload, 1) := by decide +kernel
theorem dX10_house_93 : decode cX10_house 93 = .ok (.ireturn, 1) := by decide +kernel
def f_X10_house_44 (a0 : Nat) (i1 : Int32) (σ : mm_S) : Option (Int32 × mm_S) :=
  lp lpN (fun (k44 : (Int32) → mm_S → Option (Int32 × mm_S)) (v : Int32) (σ : mm_S) =>
    if (121 : Int32) ≤ v then
      bv (f_X10_begins a0 σ) fun σ3 =>
      lt (su_i σ3 a0 31 (0 : Int32)) fun σ4 =>
      gd (3 : Int32) 121 <|
      some ((σ4.1 224 (3 : Int32).toNatClampNeg), σ4)
    else
      if (90 : Int32) ≤ v then
        gd v 121 <|
        lt (su_i σ 224 v.toNatClampNeg (0 : Int32)) fun σ9 =>
        lt (v + Int32.ofInt (1)) fun x11 =>
        k44 x11 σ9
      else
        gd v 90 <|
        gd v 121 <|
        lt (su_i σ 224 v.toNatClampNeg (σ.1 220 v.toNatClampNeg)) fun σ15 =>
        lt (v + Int32.ofInt (1)) fun x17 =>
        k44 x17 σ15) i1 σ
theorem v_X10_house_44 {g : mm_G} (d : Nat) {a0 : Nat} {i1 : Int32} {σ : mm_S} {res : Int32 × mm_S}  (h_a0 : (mm_K a0).1 = 10) (h : f_X10_house_44 a0 i1 σ = some res) : SV g (d + 12) yy_X10_house 44 [(0, .ref a0), (1, .int i1)] [] σ (.int res.1) res.2 := by
  unfold f_X10_house_44 at h
  refine lp_ind (P := fun v σ => SV g (d + 12) yy_X10_house 44 [(0, .ref a0), (1, .int v)] [] σ (.int res.1) res.2) (fun k44 H44 v σ h => ?_) _ i1 σ h
  refine e_iload_n 1 dX10_house_44 rfl rfl ?_
  refine e_bipush (v := (121 : Int32)) dX10_house_45 (by decide) ?_
  refine e_icmp_ge 78 dX10_house_47 (by decide) (fun c1 => ?_) (fun c1 => ?_)
  · rw [if_pos c1] at h
    refine e_aload_n 0 dX10_house_78 rfl rfl ?_
    obtain ⟨σ3, q2, h⟩ := bv_some h
    refine s_callVv [] dX10_house_79 ml_RX10_281 h_a0 rfl rfl (v_X10_begins (d + 11) h_a0 q2) (Nat.le_of_ble_eq_true rfl) ?_
    refine e_aload_n 0 dX10_house_82 rfl rfl ?_
    refine e_iconst (v := (0 : Int32)) dX10_house_83 (by decide) ?_
    refine s_puti dX10_house_84 fl_RX10_284 h_a0 rfl rfl rfl ?_
    obtain ⟨σ4, q5, h⟩ := lt_some h
    refine s_nms q5 ?_
    refine e_aload_n 0 dX10_house_87 rfl rfl ?_
    refine s_getr dX10_house_88 fl_RX10_39 h_a0 (r_10_20 h_a0).1 ?_
    refine e_iconst (v := (3 : Int32)) dX10_house_91 (by decide) ?_
    obtain ⟨q6, h⟩ := gd_some h
    refine s_iald dX10_house_92 (r_10_20 (w := 0) h_a0).2 q6 ?_
    obtain rfl := Option.some.inj h
    exact s_ret rfl ⟨_, rfl, rfl⟩ dX10_house_93
  · rw [if_neg c1] at h
    refine e_aload_n 0 dX10_house_50 rfl rfl ?_
    refine s_getr dX10_house_51 fl_RX10_39 h_a0 (r_10_20 h_a0).1 ?_
    refine e_iload_n 1 dX10_house_54 rfl rfl ?_
    refine e_iload_n 1 dX10_house_55 rfl rfl ?_
    refine e_bipush (v := (90 : Int32)) dX10_house_56 (by decide) ?_
    refine e_icmp_ge 70 dX10_house_58 (by decide) (fun c7 => ?_) (fun c7 => ?_)
    · rw [if_pos c7] at h
      refine e_iconst (v := (0 : Int32)) dX10_house_70 (by decide) ?_
      obtain ⟨q8, h⟩ := gd_some h
      refine s_iast dX10_house_71 (r_10_20 (w := 0) h_a0).2 q8 ?_
      obtain ⟨σ9, q10, h⟩ := lt_some h
      refine s_nms q10 ?_
      obtain ⟨x11, q12, h⟩ := lt_some h
      refine e_iinc (v := x11) (L' := [(0, .ref a0), (1, .int x11)]) 1 dX10_house_72 rfl q12.symm (by decide) rfl ?_
      refine e_goto 44 dX10_house_75 (by decide) ?_
      refine s_pick (L' := [(0, .ref a0), (1, .int x11)]) [0, 1] rfl ?_
      exact H44 x11 σ9 h
    · rw [if_neg c7] at h
      refine e_aload_n 0 dX10_house_61 rfl rfl ?_
      refine s_getr dX10_house_62 fl_RX10_26 h_a0 (r_10_7 h_a0).1 ?_
      refine e_iload_n 1 dX10_house_65 rfl rfl ?_
      obtain ⟨q13, h⟩ := gd_some h
      refine s_iald dX10_house_66 (r_10_7 (w := 0) h_a0).2 q13 ?_
      refine e_goto 71 dX10_house_67 (by decide) ?_
      obtain ⟨q14, h⟩ := gd_some h
      refine s_iast dX10_house_71 (r_10_20 (w := 0) h_a0).2 q14 ?_
      obtain ⟨σ15, q16, h⟩ := lt_some h
      refine s_nms q16 ?_
      obtain ⟨x17, q18, h⟩ := lt_some h
      refine e_iinc (v := x17) (L' := [(0, .ref a0), (1, .int x17)]) 1 dX10_house_72 rfl q18.symm (by decide) rfl ?_
      refine e_goto 44 dX10_house_75 (by decide) ?_
      refine s_pick (L' := [(0, .ref a0), (1, .int x17)]) [0, 1] rfl ?_
      exact H44 x17 σ15 h
def f_X10_house_8 (a0 : Nat) (i1 : Int32) (σ : mm_S) : Option (Int32 × mm_S) :=
  lp lpN (fun (k8 : (Int32) → mm_S → Option (Int32 × mm_S)) (v : Int32) (σ : mm_S) =>
    if (90 : Int32) ≤ v then
      bd (f_X10_readsAll a0 σ) fun r22 σ21 =>
      if r22 = 0 then
        some (((-2 : Int32) - (σ21.1 a0 9)), σ21)
      else
        f_X10_house_44 a0 (0 : Int32) σ21
    else
      gd v 90 <|
      lt (su_i σ 220 v.toNatClampNeg (0 : Int32)) fun σ25 =>
      lt (v + Int32.ofInt (1)) fun x27 =>
      k8 x27 σ25) i1 σ
theorem v_X10_house_8 {g : mm_G} (d : Nat) {a0 : Nat} {i1 : Int32} {σ : mm_S} {res : Int32 × mm_S}  (h_a0 : (mm_K a0).1 = 10) (h : f_X10_house_8 a0 i1 σ = some res) : SV g (d + 12) yy_X10_house 8 [(0, .ref a0), (1, .int i1)] [] σ (.int res.1) res.2 := by
  unfold f_X10_house_8 at h
  refine lp_ind (P := fun v σ => SV g (d + 12) yy_X10_house 8 [(0, .ref a0), (1, .int v)] [] σ (.int res.1) res.2) (fun k8 H8 v σ h => ?_) _ i1 σ h
  refine e_iload_n 1 dX10_house_8 rfl rfl ?_
  refine e_bipush (v := (90 : Int32)) dX10_house_9 (by decide) ?_
  refine e_icmp_ge 27 dX10_house_11 (by decide) (fun c19 => ?_) (fun c19 => ?_)
  · rw [if_pos c19] at h
    refine e_aload_n 0 dX10_house_27 rfl rfl ?_
    obtain ⟨r22, σ21, q20, h⟩ := bd_some h
    refine s_callVi [] dX10_house_28 ml_RX10_278 h_a0 ⟨_, rfl, by decide⟩ rfl (v_X10_readsAll (d + 0) h_a0 q20) (Nat.le_of_ble_eq_true rfl) ?_
    refine e_if_ne 42 dX10_house_31 (by decide) (fun c23 => ?_) (fun c23 => ?_)
    · rw [if_neg c23] at h
      refine e_iconst (v := (0 : Int32)) dX10_house_42 (by decide) ?_
      refine e_istore_n (L' := [(0, .ref a0), (1, .int (0 : Int32))]) dX10_house_43 rfl (by decide) rfl ?_
      refine s_pick (L' := [(0, .ref a0), (1, .int (0 : Int32))]) [0, 1] rfl ?_
      exact v_X10_house_44 d h_a0 h
    · rw [if_pos c23] at h
      refine e_bipush (v := (-2 : Int32)) dX10_house_34 (by decide) ?_
      refine e_aload_n 0 dX10_house_36 rfl rfl ?_
      refine s_geti dX10_house_37 fl_RX10_105 h_a0 ?_
      refine e_isub dX10_house_40 ?_
      obtain rfl := Option.some.inj h
      exact s_ret rfl ⟨_, rfl, rfl⟩ dX10_house_41
  · rw [if_neg c19] at h
    refine e_aload_n 0 dX10_house_14 rfl rfl ?_
    refine s_getr dX10_house_15 fl_RX10_26 h_a0 (r_10_7 h_a0).1 ?_
    refine e_iload_n 1 dX10_house_18 rfl rfl ?_
    refine e_iconst (v := (0 : Int32)) dX10_house_19 (by decide) ?_
    obtain ⟨q24, h⟩ := gd_some h
    refine s_iast dX10_house_20 (r_10_7 (w := 0) h_a0).2 q24 ?_
    obtain ⟨σ25, q26, h⟩ := lt_some h
    refine s_nms q26 ?_
    obtain ⟨x27, q28, h⟩ := lt_some h
    refine e_iinc (v := x27) (L' := [(0, .ref a0), (1, .int x27)]) 1 dX10_house_21 rfl q28.symm (by decide) rfl ?_
    refine e_goto 8 dX10_house_24 (by decide) ?_
    refine s_pick (L' := [(0, .ref a0), (1, .int x27)]) [0, 1] rfl ?_
    exact H8 x27 σ25 h
def f_X10_house (a0 : Nat) (σ : mm_S) : Option (Int32 × mm_S) :=
    lt (su_i σ a0 11 (6 : Int32)) fun σ31 =>
    f_X10_house_8 a0 (0 : Int32) σ31
theorem v_X10_house {g : mm_G} (d : Nat) {a0 : Nat} {σ : mm_S} {res : Int32 × mm_S} (h_a0 : (mm_K a0).1 = 10) (h : f_X10_house a0 σ = some res) : SM g (d + 12) yy_X10_house [.ref a0] σ (.int res.1) res.2 := by
  refine s_of (by decide) (Nat.le_of_ble_eq_true rfl) (L := [(0, .ref a0)]) rfl ?_
  unfold f_X10_house at h
  refine e_aload_n 0 dX10_house_0 rfl rfl ?_
  refine e_bipush (v := (6 : Int32)) dX10_house_1 (by decide) ?_
  refine s_puti dX10_house_3 fl_RX10_166 h_a0 rfl rfl rfl ?_
  obtain ⟨σ31, q32, h⟩ := lt_some h
  refine s_nms q32 ?_
  refine e_iconst (v := (0 : Int32)) dX10_house_6 (by decide) ?_
  refine e_istore_n (L' := [(0, .ref a0), (1, .int (0 : Int32))]) dX10_house_7 rfl (by decide) rfl ?_
  refine s_pick (L' := [(0, .ref a0), (1, .int (0 : Int32))]) [0, 1] rfl ?_
  exact v_X10_house_8 d h_a0 h
abbrev yy_X10_isRule : mm_Y := (yX10_isRule, cX10_isRule, 2, (some .boolean))
theorem dX10_isRule_0 : decode cX10_isRule 0 = .ok (.iload_n 1, 1) := by decide +kernel
theorem dX10_isRule_1 : decode cX10_isRule 1 = .ok (.ifCond .lt 15, 3) := by decide +kernel
theorem dX10_isRule_4 : decode cX10_isRule 4 = .ok (.iload_n 1, 1) := by decide +kernel
theorem dX10_isRule_5 : decode cX10_isRule 5 = .ok (.aload_n 0, 1) := by decide +kernel
theorem dX10_isRule_6 : decode cX10_isRule 6 = .ok (.getfield 275, 3) := by decide +kernel
theorem dX10_isRule_9 : decode cX10_isRule 9 = .ok (.if_icmp .ge 7, 3) := by decide +kernel
theorem dX10_isRule_12 : decode cX10_isRule 12 = .ok (.iconst 1, 1) := by decide +kernel
theorem dX10_isRule_13 : decode cX10_isRule 13 = .ok (.goto 4, 3) := by decide +kernel
theorem dX10_isRule_16 : decode cX10_isRule 16 = .ok (.iconst 0, 1) := by decide +kernel
theorem dX10_isRule_17 : decode cX10_isRule 17 = .ok (.ireturn, 1) := by decide +kernel
def f_X10_isRule (a0 : Nat) (i1 : Int32) (σ : mm_S) : Option (Int32 × mm_S) :=
    if i1 < 0 then
      some ((0 : Int32), σ)
    else
      if (σ.1 a0 2) ≤ i1 then
        some ((0 : Int32), σ)
      else
        some ((1 : Int32), σ)
theorem v_X10_isRule {g : mm_G} (d : Nat) {a0 : Nat} {i1 : Int32} {σ : mm_S} {res : Int32 × mm_S} (h_a0 : (mm_K a0).1 = 10) (h : f_X10_isRule a0 i1 σ = some res) : SM g (d + 0) yy_X10_isRule [.ref a0, .int i1] σ (.int res.1) res.2 := by
  refine s_of (by decide) (Nat.le_of_ble_eq_true rfl) (L := [(0, .ref a0), (1, .int i1)]) rfl ?_
  unfold f_X10_isRule at h
  refine e_iload_n 1 dX10_isRule_0 rfl rfl ?_
  refine e_if_lt 16 dX10_isRule_1 (by decide) (fun c3 => ?_) (fun c3 => ?_)
  · rw [if_pos c3] at h
    refine e_iconst (v := (0 : Int32)) dX10_isRule_16 (by decide) ?_
    obtain rfl := Option.some.inj h
    exact s_ret rfl ⟨_, rfl, nb1 (Or.inl rfl)⟩ dX10_isRule_17
  · rw [if_neg c3] at h
    refine e_iload_n 1 dX10_isRule_4 rfl rfl ?_
    refine e_aload_n 0 dX10_isRule_5 rfl rfl ?_
    refine s_geti dX10_isRule_6 fl_RX10_275 h_a0 ?_
    refine e_icmp_ge 16 dX10_isRule_9 (by decide) (fun c4 => ?_) (fun c4 => ?_)
    · rw [if_pos c4] at h
      refine e_iconst (v := (0 : Int32)) dX10_isRule_16 (by decide) ?_
      obtain rfl := Option.some.inj h
      exact s_ret rfl ⟨_, rfl, nb1 (Or.inl rfl)⟩ dX10_isRule_17
    · rw [if_neg c4] at h
      refine e_iconst (v := (1 : Int32)) dX10_isRule_12 (by decide) ?_
      refine e_goto 17 dX10_isRule_13 (by decide) ?_
      obtain rfl := Option.some.inj h
      exact s_ret rfl ⟨_, rfl, nb1 (Or.inr rfl)⟩ dX10_isRule_17
abbrev yy_X10_push : mm_Y := (yX10_push, cX10_push, 3, none)
theorem dX10_push_0 : decode cX10_push 0 = .ok (.aload_n 0, 1) := by decide +kernel
theorem dX10_push_1 : decode cX10_push 1 = .ok (.getfield 32, 3) := by decide +kernel
theorem dX10_push_4 : decode cX10_push 4 = .ok (.aload_n 0, 1) := by decide +kernel
theorem dX10_push_5 : decode cX10_push 5 = .ok (.getfield 287, 3) := by decide +kernel
theorem dX10_push_8 : decode cX10_push 8 = .ok (.lload_n 1, 1) := by decide +kernel
theorem dX10_push_9 : decode cX10_push 9 = .ok (.lastore, 1) := by decide +kernel
theorem dX10_push_10 : decode cX10_push 10 = .ok (.aload_n 0, 1) := by decide +kernel
theorem dX10_push_11 : decode cX10_push 11 = .ok (.dup, 1) := by decide +kernel
theorem dX10_push_12 : decode cX10_push 12 = .ok (.getfield 287, 3) := by decide +kernel
theorem dX10_push_15 : decode cX10_push 15 = .ok (.iconst 1, 1) := by decide +kernel
theorem dX10_push_16 : decode cX10_push 16 = .ok (.iadd, 1) := by decide +kernel
theorem dX10_push_17 : decode cX10_push 17 = .ok (.putfield 287, 3) := by decide +kernel
theorem dX10_push_20 : decode cX10_push 20 = .ok (.return_, 1) := by decide +kernel
def f_X10_push (a0 : Nat) (j1 : Int64) (σ : mm_S) : Option (mm_S) :=
    gd (σ.1 a0 18) 64 <|
    lt (su_j σ 222 (σ.1 a0 18).toNatClampNeg j1) fun σ7 =>
    lt (su_i σ7 a0 18 ((σ7.1 a0 18) + (1 : Int32))) fun σ9 =>
    some σ9
theorem v_X10_push {g : mm_G} (d : Nat) {a0 : Nat} {j1 : Int64} {σ : mm_S} {res : mm_S} (h_a0 : (mm_K a0).1 = 10) (h : f_X10_push a0 j1 σ = some res) : SM g (d + 0) yy_X10_push [.ref a0, .long j1] σ .null res := by
  refine s_of (by decide) (Nat.le_of_ble_eq_true rfl) (L := [(0, .ref a0), (1, .long j1)]) rfl ?_
  unfold f_X10_push at h
  refine e_aload_n 0 dX10_push_0 rfl rfl ?_
  refine s_getr dX10_push_1 fl_RX10_32 h_a0 (r_10_17 h_a0).1 ?_
  refine e_aload_n 0 dX10_push_4 rfl rfl ?_
  refine s_geti dX10_push_5 fl_RX10_287 h_a0 ?_
  refine e_lload_n 1 dX10_push_8 rfl rfl ?_
  obtain ⟨q6, h⟩ := gd_some h
  refine s_last dX10_push_9 (r_10_17 (w := 0) h_a0).2 q6 ?_
  obtain ⟨σ7, q8, h⟩ := lt_some h
  refine s_nms q8 ?_
  refine e_aload_n 0 dX10_push_10 rfl rfl ?_
  refine e_dup dX10_push_11 rfl ?_
  refine s_geti dX10_push_12 fl_RX10_287 h_a0 ?_
  refine e_iconst (v := (1 : Int32)) dX10_push_15 (by decide) ?_
  refine e_iadd dX10_push_16 ?_
  refine s_puti dX10_push_17 fl_RX10_287 h_a0 rfl rfl rfl ?_
  obtain ⟨σ9, q10, h⟩ := lt_some h
  refine s_nms q10 ?_
  obtain rfl := Option.some.inj h
  exact s_ret rfl rfl dX10_push_20
abbrev yy_X10_pop : mm_Y := (yX10_pop, cX10_pop, 1, (some .long))
theorem dX10_pop_0 : decode cX10_pop 0 = .ok (.aload_n 0, 1) := by decide +kernel
theorem dX10_pop_1 : decode cX10_pop 1 = .ok (.dup, 1) := by decide +kernel
theorem dX10_pop_2 : decode cX10_pop 2 = .ok (.getfield 287, 3) := by decide +kernel
theorem dX10_pop_5 : decode cX10_pop 5 = .ok (.iconst 1, 1) := by decide +kernel
theorem dX10_pop_6 : decode cX10_pop 6 = .ok (.isub, 1) := by decide +kernel
theorem dX10_pop_7 : decode cX10_pop 7 = .ok (.putfield 287, 3) := by decide +kernel
theorem dX10_pop_10 : decode cX10_pop 10 = .ok (.aload_n 0, 1) := by decide +kernel
theorem dX10_pop_11 : decode cX10_pop 11 = .ok (.getfield 32, 3) := by decide +kernel
theorem dX10_pop_14 : decode cX10_pop 14 = .ok (.aload_n 0, 1) := by decide +kernel
theorem dX10_pop_15 : decode cX10_pop 15 = .ok (.getfield 287, 3) := by decide +kernel
theorem dX10_pop_18 : decode cX10_pop 18 = .ok (.laload, 1) := by decide +kernel
theorem dX10_pop_19 : decode cX10_pop 19 = .ok (.lreturn, 1) := by decide +kernel
def f_X10_pop (a0 : Nat) (σ : mm_S) : Option (Int64 × mm_S) :=
    lt (su_i σ a0 18 ((σ.1 a0 18) - (1 : Int32))) fun σ4 =>
    gd (σ4.1 a0 18) 64 <|
    some ((σ4.2.1 222 (σ4.1 a0 18).toNatClampNeg), σ4)
theorem v_X10_pop {g : mm_G} (d : Nat) {a0 : Nat} {σ : mm_S} {res : Int64 × mm_S} (h_a0 : (mm_K a0).1 = 10) (h : f_X10_pop a0 σ = some res) : SM g (d + 0) yy_X10_pop [.ref a0] σ (.long res.1) res.2 := by
  refine s_of (by decide) (Nat.le_of_ble_eq_true rfl) (L := [(0, .ref a0)]) rfl ?_
  unfold f_X10_pop at h
  refine e_aload_n 0 dX10_pop_0 rfl rfl ?_
  refine e_dup dX10_pop_1 rfl ?_
  refine s_geti dX10_pop_2 fl_RX10_287 h_a0 ?_
  refine e_iconst (v := (1 : Int32)) dX10_pop_5 (by decide) ?_
  refine e_isub dX10_pop_6 ?_
  refine s_puti dX10_pop_7 fl_RX10_287 h_a0 rfl rfl rfl ?_
  obtain ⟨σ4, q5, h⟩ := lt_some h
  refine s_nms q5 ?_
  refine e_aload_n 0 dX10_pop_10 rfl rfl ?_
  refine s_getr dX10_pop_11 fl_RX10_32 h_a0 (r_10_17 h_a0).1 ?_
  refine e_aload_n 0 dX10_pop_14 rfl rfl ?_
  refine s_geti dX10_pop_15 fl_RX10_287 h_a0 ?_
  obtain ⟨q6, h⟩ := gd_some h
  refine s_lald dX10_pop_18 (r_10_17 (w := 0) h_a0).2 q6 ?_
  obtain rfl := Option.some.inj h
  exact s_ret rfl ⟨_, rfl⟩ dX10_pop_19
abbrev yy_X10_one : mm_Y := (yX10_one, cX10_one, 5, (some .long))
theorem dX10_one_0 : decode cX10_one 0 = .ok (.iload_n 0, 1) := by decide +kernel
theorem dX10_one_1 : decode cX10_one 1 = .ok (.tableswitch 171 2 14 #[67, 71, 75, 79, 107, 119, 131, 143, 155, 171, 167, 171, 93], 67) := by decide +kernel
theorem dX10_one_68 : decode cX10_one 68 = .ok (.lload_n 1, 1) := by decide +kernel
theorem dX10_one_69 : decode cX10_one 69 = .ok (.lload_n 3, 1) := by decide +kernel
theorem dX10_one_70 : decode cX10_one 70 = .ok (.ladd, 1) := by decide +kernel
theorem dX10_one_71 : decode cX10_one 71 = .ok (.lreturn, 1) := by decide +kernel
theorem dX10_one_72 : decode cX10_one 72 = .ok (.lload_n 1, 1) := by decide +kernel
theorem dX10_one_73 : decode cX10_one 73 = .ok (.lload_n 3, 1) := by decide +kernel
theorem dX10_one_74 : decode cX10_one 74 = .ok (.lsub, 1) := by decide +kernel
theorem dX10_one_75 : decode cX10_one 75 = .ok (.lreturn, 1) := by decide +kernel
theorem dX10_one_76 : decode cX10_one 76 = .ok (.lload_n 1, 1) := by decide +kernel
theorem dX10_one_77 : decode cX10_one 77 = .ok (.lload_n 3, 1) := by decide +kernel
theorem dX10_one_78 : decode cX10_one 78 = .ok (.lmul, 1) := by decide +kernel
theorem dX10_one_79 : decode cX10_one 79 = .ok (.lreturn, 1) := by decide +kernel
theorem dX10_one_80 : decode cX10_one 80 = .ok (.lload_n 3, 1) := by decide +kernel
theorem dX10_one_81 : decode cX10_one 81 = .ok (.lconst 0, 1) := by decide +kernel
theorem dX10_one_82 : decode cX10_one 82 = .ok (.lcmp, 1) := by decide +kernel
theorem dX10_one_83 : decode cX10_one 83 = .ok (.ifCond .ne 7, 3) := by decide +kernel
theorem dX10_one_86 : decode cX10_one 86 = .ok (.lconst 0, 1) := by decide +kernel
theorem dX10_one_87 : decode cX10_one 87 = .ok (.goto 6, 3) := by decide +kernel
theorem dX10_one_90 : decode cX10_one 90 = .ok (.lload_n 1, 1) := by decide +kernel
theorem dX10_one_91 : decode cX10_one 91 = .ok (.lload_n 3, 1) := by decide +kernel
theorem dX10_one_92 : decode cX10_one 92 = .ok (.ldiv, 1) := by decide +kernel
theorem dX10_one_93 : decode cX10_one 93 = .ok (.lreturn, 1) := by decide +kernel
theorem dX10_one_94 : decode cX10_one 94 = .ok (.lload_n 3, 1) := by decide +kernel
theorem dX10_one_95 : decode cX10_one 95 = .ok (.lconst 0, 1) := by decide +kernel
theorem dX10_one_96 : decode cX10_one 96 = .ok (.lcmp, 1) := by decide +kernel
theorem dX10_one_97 : decode cX10_one 97 = .ok (.ifCond .ne 7, 3) := by decide +kernel
theorem dX10_one_100 : decode cX10_one 100 = .ok (.lconst 0, 1) := by decide +kernel
theorem dX10_one_101 : decode cX10_one 101 = .ok (.goto 6, 3) := by decide +kernel
theorem dX10_one_104 : decode cX10_one 104 = .ok (.lload_n 1, 1) := by decide +kernel
theorem dX10_one_105 : decode cX10_one 105 = .ok (.lload_n 3, 1) := by decide +kernel
theorem dX10_one_106 : decode cX10_one 106 = .ok (.lrem, 1) := by decide +kernel
theorem dX10_one_107 : decode cX10_one 107 = .ok (.lreturn, 1) := by decide +kernel
theorem dX10_one_108 : decode cX10_one 108 = .ok (.lload_n 1, 1) := by decide +kernel
theorem dX10_one_109 : decode cX10_one 109 = .ok (.lload_n 3, 1) := by decide +kernel
theorem dX10_one_110 : decode cX10_one 110 = .ok (.lcmp, 1) := by decide +kernel
theorem dX10_one_111 : decode cX10_one 111 = .ok (.ifCond .ge 7, 3) := by decide +kernel
theorem dX10_one_114 : decode cX10_one 114 = .ok (.lconst 1, 1) := by decide +kernel
theorem dX10_one_115 : decode cX10_one 115 = .ok (.goto 4, 3) := by decide +kernel
theorem dX10_one_118 : decode cX10_one 118 = .ok (.lconst 0, 1) := by decide +kernel
theorem dX10_one_119 : decode cX10_one 119 = .ok (.lreturn, 1) := by decide +kernel
theorem dX10_one_120 : decode cX10_one 120 = .ok (.lload_n 1, 1) := by decide +kernel
theorem dX10_one_121 : decode cX10_one 121 = .ok (.lload_n 3, 1) := by decide +kernel
theorem dX10_one_122 : decode cX10_one 122 = .ok (.lcmp, 1) := by decide +kernel
theorem dX10_one_123 : decode cX10_one 123 = .ok (.ifCond .gt 7, 3) := by decide +kernel
theorem dX10_one_126 : decode cX10_one 126 = .ok (.lconst 1, 1) := by decide +kernel
theorem dX10_one_127 : decode cX10_one 127 = .ok (.goto 4, 3) := by decide +kernel
theorem dX10_one_130 : decode cX10_one 130 = .ok (.lconst 0, 1) := by decide +kernel
theorem dX10_one_131 : decode cX10_one 131 = .ok (.lreturn, 1) := by decide +kernel
theorem dX10_one_132 : decode cX10_one 132 = .ok (.lload_n 1, 1) := by decide +kernel
theorem dX10_one_133 : decode cX10_one 133 = .ok (.lload_n 3, 1) := by decide +kernel
theorem dX10_one_134 : decode cX10_one 134 = .ok (.lcmp, 1) := by decide +kernel
theorem dX10_one_135 : decode cX10_one 135 = .ok (.ifCond .ne 7, 3) := by decide +kernel
theorem dX10_one_138 : decode cX10_one 138 = .ok (.lconst 1, 1) := by decide +kernel
theorem dX10_one_139 : decode cX10_one 139 = .ok (.goto 4, 3) := by decide +kernel
theorem dX10_one_142 : decode cX10_one 142 = .ok (.lconst 0, 1) := by decide +kernel
theorem dX10_one_143 : decode cX10_one 143 = .ok (.lreturn, 1) := by decide +kernel
theorem dX10_one_144 : decode cX10_one 144 = .ok (.lload_n 1, 1) := by decide +kernel
theorem dX10_one_145 : decode cX10_one 145 = .ok (.lload_n 3, 1) := by decide +kernel
theorem dX10_one_146 : decode cX10_one 146 = .ok (.lcmp, 1) := by decide +kernel
theorem dX10_one_147 : decode cX10_one 147 = .ok (.ifCond .lt 7, 3) := by decide +kernel
theorem dX10_one_150 : decode cX10_one 150 = .ok (.lconst 1, 1) := by decide +kernel
theorem dX10_one_151 : decode cX10_one 151 = .ok (.goto 4, 3) := by decide +kernel
theorem dX10_one_154 : decode cX10_one 154 = .ok (.lconst 0, 1) := by decide +kernel
theorem dX10_one_155 : decode cX10_one 155 = .ok (.lreturn, 1) := by decide +kernel
theorem dX10_one_156 : decode cX10_one 156 = .ok (.lload_n 1, 1) := by decide +kernel
theorem dX10_one_157 : decode cX10_one 157 = .ok (.lload_n 3, 1) := by decide +kernel
theorem dX10_one_158 : decode cX10_one 158 = .ok (.lcmp, 1) := by decide +kernel
theorem dX10_one_159 : decode cX10_one 159 = .ok (.ifCond .le 7, 3) := by decide +kernel
theorem dX10_one_162 : decode cX10_one 162 = .ok (.lconst 1, 1) := by decide +kernel
theorem dX10_one_163 : decode cX10_one 163 = .ok (.goto 4, 3) := by decide +kernel
theorem dX10_one_166 : decode cX10_one 166 = .ok (.lconst 0, 1) := by decide +kernel
theorem dX10_one_167 : decode cX10_one 167 = .ok (.lreturn, 1) := by decide +kernel
theorem dX10_one_168 : decode cX10_one 168 = .ok (.lload_n 1, 1) := by decide +kernel
theorem dX10_one_169 : decode cX10_one 169 = .ok (.lload_n 3, 1) := by decide +kernel
theorem dX10_one_170 : decode cX10_one 170 = .ok (.land, 1) := by decide +kernel
theorem dX10_one_171 : decode cX10_one 171 = .ok (.lreturn, 1) := by decide +kernel
theorem dX10_one_172 : decode cX10_one 172 = .ok (.lload_n 1, 1) := by decide +kernel
theorem dX10_one_173 : decode cX10_one 173 = .ok (.lload_n 3, 1) := by decide +kernel
theorem dX10_one_174 : decode cX10_one 174 = .ok (.lor, 1) := by decide +kernel
theorem dX10_one_175 : decode cX10_one 175 = .ok (.lreturn, 1) := by decide +kernel
def f_X10_one (i0 : Int32) (j1 : Int64) (j3 : Int64) (σ : mm_S) : Option (Int64 × mm_S) :=
    if i0 = 2 then
      some ((j1 + j3), σ)
    else
    if i0 = 3 then
      some ((j1 - j3), σ)
    else
    if i0 = 4 then
      some ((j1 * j3), σ)
    else
    if i0 = 5 then
      if (lg_cmp j3 (0 : Int64)) = 0 then
        some ((0 : Int64), σ)
      else
        gl j3 <|
        some ((j1 / j3), σ)
    else
    if i0 = 6 then
      if 0 ≤ (lg_cmp j1 j3) then
        some ((0 : Int64), σ)
      else
        some ((1 : Int64), σ)
    else
    if i0 = 7 then
      if 0 < (lg_cmp j1 j3) then
        some ((0 : Int64), σ)
      else
        some ((1 : Int64), σ)
    else
    if i0 = 8 then
      if (lg_cmp j1 j3) = 0 then
        some ((1 : Int64), σ)
      else
        some ((0 : Int64), σ)
    else
    if i0 = 9 then
      if (lg_cmp j1 j3) < 0 then
        some ((0 : Int64), σ)
      else
        some ((1 : Int64), σ)
    else
    if i0 = 10 then
      if (lg_cmp j1 j3) ≤ 0 then
        some ((0 : Int64), σ)
      else
        some ((1 : Int64), σ)
    else
    if i0 = 11 then
      some ((j1 ||| j3), σ)
    else
    if i0 = 12 then
      some ((j1 &&& j3), σ)
    else
    if i0 = 13 then
      some ((j1 ||| j3), σ)
    else
    if i0 = 14 then
      if (lg_cmp j3 (0 : Int64)) = 0 then
        some ((0 : Int64), σ)
      else
        gl j3 <|
        some ((j1 - j1 / j3 * j3), σ)
    else
    some ((j1 ||| j3), σ)
theorem v_X10_one {g : mm_G} (d : Nat) {i0 : Int32} {j1 : Int64} {j3 : Int64} {σ : mm_S} {res : Int64 × mm_S}  (h : f_X10_one i0 j1 j3 σ = some res) : SM g (d + 0) yy_X10_one [.int i0, .long j1, .long j3] σ (.long res.1) res.2 := by
  refine s_of (by decide) (Nat.le_of_ble_eq_true rfl) (L := [(0, .int i0), (1, .long j1), (3, .long j3)]) rfl ?_
  unfold f_X10_one at h
  refine e_iload_n 0 dX10_one_0 rfl rfl ?_
  by_cases c23 : i0 = 2
  · rw [if_pos c23] at h
    refine s_eqi c23 ?_
    refine e_tabIn 68 dX10_one_1 (by decide) (by decide) rfl (by decide) ?_
    refine e_lload_n 1 dX10_one_68 rfl rfl ?_
    refine e_lload_n 2 dX10_one_69 rfl rfl ?_
    refine e_ladd dX10_one_70 ?_
    obtain rfl := Option.some.inj h
    exact s_ret rfl ⟨_, rfl⟩ dX10_one_71
  rw [if_neg c23] at h
  by_cases c24 : i0 = 3
  · rw [if_pos c24] at h
    refine s_eqi c24 ?_
    refine e_tabIn 72 dX10_one_1 (by decide) (by decide) rfl (by decide) ?_
    refine e_lload_n 1 dX10_one_72 rfl rfl ?_
    refine e_lload_n 2 dX10_one_73 rfl rfl ?_
    refine e_lsub dX10_one_74 ?_
    obtain rfl := Option.some.inj h
    exact s_ret rfl ⟨_, rfl⟩ dX10_one_75
  rw [if_neg c24] at h
  by_cases c25 : i0 = 4
  · rw [if_pos c25] at h
    refine s_eqi c25 ?_
    refine e_tabIn 76 dX10_one_1 (by decide) (by decide) rfl (by decide) ?_
    refine e_lload_n 1 dX10_one_76 rfl rfl ?_
    refine e_lload_n 2 dX10_one_77 rfl rfl ?_
    refine e_lmul dX10_one_78 ?_
    obtain rfl := Option.some.inj h
    exact s_ret rfl ⟨_, rfl⟩ dX10_one_79
  rw [if_neg c25] at h
  by_cases c26 : i0 = 5
  · rw [if_pos c26] at h
    refine s_eqi c26 ?_
    refine e_tabIn 80 dX10_one_1 (by decide) (by decide) rfl (by decide) ?_
    refine e_lload_n 2 dX10_one_80 rfl rfl ?_
    refine e_lconst (v := (0 : Int64)) dX10_one_81 (by decide) ?_
    refine e_lcmp dX10_one_82 ?_
    refine e_if_ne 90 dX10_one_83 (by decide) (fun c27 => ?_) (fun c27 => ?_)
    · rw [if_neg c27] at h
      refine e_lload_n 1 dX10_one_90 rfl rfl ?_
      refine e_lload_n 2 dX10_one_91 rfl rfl ?_
      obtain ⟨q28, h⟩ := gl_some h
      refine e_ldiv dX10_one_92 q28 ?_
      obtain rfl := Option.some.inj h
      exact s_ret rfl ⟨_, rfl⟩ dX10_one_93
    · rw [if_pos c27] at h
      refine e_lconst (v := (0 : Int64)) dX10_one_86 (by decide) ?_
      refine e_goto 93 dX10_one_87 (by decide) ?_
      obtain rfl := Option.some.inj h
      exact s_ret rfl ⟨_, rfl⟩ dX10_one_93
  rw [if_neg c26] at h
  by_cases c29 : i0 = 6
  · rw [if_pos c29] at h
    refine s_eqi c29 ?_
    refine e_tabIn 108 dX10_one_1 (by decide) (by decide) rfl (by decide) ?_
    refine e_lload_n 1 dX10_one_108 rfl rfl ?_
    refine e_lload_n 2 dX10_one_109 rfl rfl ?_
    refine e_lcmp dX10_one_110 ?_
    refine e_if_ge 118 dX10_one_111 (by decide) (fun c30 => ?_) (fun c30 => ?_)
    · rw [if_pos c30] at h
      refine e_lconst (v := (0 : Int64)) dX10_one_118 (by decide) ?_
      obtain rfl := Option.some.inj h
      exact s_ret rfl ⟨_, rfl⟩ dX10_one_119
    · rw [if_neg c30] at h
      refine e_lconst (v := (1 : Int64)) dX10_one_114 (by decide) ?_
      refine e_goto 119 dX10_one_115 (by decide) ?_
      obtain rfl := Option.some.inj h
      exact s_ret rfl ⟨_, rfl⟩ dX10_one_119
  rw [if_neg c29] at h
  by_cases c31 : i0 = 7
  · rw [if_pos c31] at h
    refine s_eqi c31 ?_
    refine e_tabIn 120 dX10_one_1 (by decide) (by decide) rfl (by decide) ?_
    refine e_lload_n 1 dX10_one_120 rfl rfl ?_
    refine e_lload_n 2 dX10_one_121 rfl rfl ?_
    refine e_lcmp dX10_one_122 ?_
    refine e_if_gt 130 dX10_one_123 (by decide) (fun c32 => ?_) (fun c32 => ?_)
    · rw [if_pos c32] at h
      refine e_lconst (v := (0 : Int64)) dX10_one_130 (by decide) ?_
      obtain rfl := Option.some.inj h
      exact s_ret rfl ⟨_, rfl⟩ dX10_one_131
    · rw [if_neg c32] at h
      refine e_lconst (v := (1 : Int64)) dX10_one_126 (by decide) ?_
      refine e_goto 131 dX10_one_127 (by decide) ?_
      obtain rfl := Option.some.inj h
      exact s_ret rfl ⟨_, rfl⟩ dX10_one_131
  rw [if_neg c31] at h
  by_cases c33 : i0 = 8
  · rw [if_pos c33] at h
    refine s_eqi c33 ?_
    refine e_tabIn 132 dX10_one_1 (by decide) (by decide) rfl (by decide) ?_
    refine e_lload_n 1 dX10_one_132 rfl rfl ?_
    refine e_lload_n 2 dX10_one_133 rfl rfl ?_
    refine e_lcmp dX10_one_134 ?_
    refine e_if_ne 142 dX10_one_135 (by decide) (fun c34 => ?_) (fun c34 => ?_)
    · rw [if_neg c34] at h
      refine e_lconst (v := (0 : Int64)) dX10_one_142 (by decide) ?_
      obtain rfl := Option.some.inj h
      exact s_ret rfl ⟨_, rfl⟩ dX10_one_143
    · rw [if_pos c34] at h
      refine e_lconst (v := (1 : Int64)) dX10_one_138 (by decide) ?_
      refine e_goto 143 dX10_one_139 (by decide) ?_
      obtain rfl := Option.some.inj h
      exact s_ret rfl ⟨_, rfl⟩ dX10_one_143
  rw [if_neg c33] at h
  by_cases c35 : i0 = 9
  · rw [if_pos c35] at h
    refine s_eqi c35 ?_
    refine e_tabIn 144 dX10_one_1 (by decide) (by decide) rfl (by decide) ?_
    refine e_lload_n 1 dX10_one_144 rfl rfl ?_
    refine e_lload_n 2 dX10_one_145 rfl rfl ?_
    refine e_lcmp dX10_one_146 ?_
    refine e_if_lt 154 dX10_one_147 (by decide) (fun c36 => ?_) (fun c36 => ?_)
    · rw [if_pos c36] at h
      refine e_lconst (v := (0 : Int64)) dX10_one_154 (by decide) ?_
      obtain rfl := Option.some.inj h
      exact s_ret rfl ⟨_, rfl⟩ dX10_one_155
    · rw [if_neg c36] at h
      refine e_lconst (v := (1 : Int64)) dX10_one_150 (by decide) ?_
      refine e_goto 155 dX10_one_151 (by decide) ?_
      obtain rfl := Option.some.inj h
      exact s_ret rfl ⟨_, rfl⟩ dX10_one_155
  rw [if_neg c35] at h
  by_cases c37 : i0 = 10
  · rw [if_pos c37] at h
    refine s_eqi c37 ?_
    refine e_tabIn 156 dX10_one_1 (by decide) (by decide) rfl (by decide) ?_
    refine e_lload_n 1 dX10_one_156 rfl rfl ?_
    refine e_lload_n 2 dX10_one_157 rfl rfl ?_
    refine e_lcmp dX10_one_158 ?_
    refine e_if_le 166 dX10_one_159 (by decide) (fun c38 => ?_) (fun c38 => ?_)
    · rw [if_pos c38] at h
      refine e_lconst (v := (0 : Int64)) dX10_one_166 (by decide) ?_
      obtain rfl := Option.some.inj h
      exact s_ret rfl ⟨_, rfl⟩ dX10_one_167
    · rw [if_neg c38] at h
      refine e_lconst (v := (1 : Int64)) dX10_one_162 (by decide) ?_
      refine e_goto 167 dX10_one_163 (by decide) ?_
      obtain rfl := Option.some.inj h
      exact s_ret rfl ⟨_, rfl⟩ dX10_one_167
  rw [if_neg c37] at h
  by_cases c39 : i0 = 11
  · rw [if_pos c39] at h
    refine s_eqi c39 ?_
    refine e_tabIn 172 dX10_one_1 (by decide) (by decide) rfl (by decide) ?_
    refine e_lload_n 1 dX10_one_172 rfl rfl ?_
    refine e_lload_n 2 dX10_one_173 rfl rfl ?_
    refine e_lor dX10_one_174 ?_
    obtain rfl := Option.some.inj h
    exact s_ret rfl ⟨_, rfl⟩ dX10_one_175
  rw [if_neg c39] at h
  by_cases c40 : i0 = 12
  · rw [if_pos c40] at h
    refine s_eqi c40 ?_
    refine e_tabIn 168 dX10_one_1 (by decide) (by decide) rfl (by decide) ?_
    refine e_lload_n 1 dX10_one_168 rfl rfl ?_
    refine e_lload_n 2 dX10_one_169 rfl rfl ?_
    refine e_land dX10_one_170 ?_
    obtain rfl := Option.some.inj h
    exact s_ret rfl ⟨_, rfl⟩ dX10_one_171
  rw [if_neg c40] at h
  by_cases c41 : i0 = 13
  · rw [if_pos c41] at h
    refine s_eqi c41 ?_
    refine e_tabIn 172 dX10_one_1 (by decide) (by decide) rfl (by decide) ?_
    refine e_lload_n 1 dX10_one_172 rfl rfl ?_
    refine e_lload_n 2 dX10_one_173 rfl rfl ?_
    refine e_lor dX10_one_174 ?_
    obtain rfl := Option.some.inj h
    exact s_ret rfl ⟨_, rfl⟩ dX10_one_175
  rw [if_neg c41] at h
  by_cases c42 : i0 = 14
  · rw [if_pos c42] at h
    refine s_eqi c42 ?_
    refine e_tabIn 94 dX10_one_1 (by decide) (by decide) rfl (by decide) ?_
    refine e_lload_n 2 dX10_one_94 rfl rfl ?_
    refine e_lconst (v := (0 : Int64)) dX10_one_95 (by decide) ?_
    refine e_lcmp dX10_one_96 ?_
    refine e_if_ne 104 dX10_one_97 (by decide) (fun c43 => ?_) (fun c43 => ?_)
    · rw [if_neg c43] at h
      refine e_lload_n 1 dX10_one_104 rfl rfl ?_
      refine e_lload_n 2 dX10_one_105 rfl rfl ?_
      obtain ⟨q44, h⟩ := gl_some h
      refine e_lrem dX10_one_106 q44 ?_
      obtain rfl := Option.some.inj h
      exact s_ret rfl ⟨_, rfl⟩ dX10_one_107
    · rw [if_pos c43] at h
      refine e_lconst (v := (0 : Int64)) dX10_one_100 (by decide) ?_
      refine e_goto 107 dX10_one_101 (by decide) ?_
      obtain rfl := Option.some.inj h
      exact s_ret rfl ⟨_, rfl⟩ dX10_one_107
  rw [if_neg c42] at h
  have c23' := lv_neT (a := 2) c23 rfl
  have c24' := lv_neT (a := 3) c24 rfl
  have c25' := lv_neT (a := 4) c25 rfl
  have c26' := lv_neT (a := 5) c26 rfl
  have c29' := lv_neT (a := 6) c29 rfl
  have c31' := lv_neT (a := 7) c31 rfl
  have c33' := lv_neT (a := 8) c33 rfl
  have c35' := lv_neT (a := 9) c35 rfl
  have c37' := lv_neT (a := 10) c37 rfl
  have c39' := lv_neT (a := 11) c39 rfl
  have c40' := lv_neT (a := 12) c40 rfl
  have c41' := lv_neT (a := 13) c41 rfl
  have c42' := lv_neT (a := 14) c42 rfl
  refine e_tabOut 172 dX10_one_1 (by omega) (by decide) ?_
  refine e_lload_n 1 dX10_one_172 rfl rfl ?_
  refine e_lload_n 2 dX10_one_173 rfl rfl ?_
  refine e_lor dX10_one_174 ?_
  obtain rfl := Option.some.inj h
  exact s_ret rfl ⟨_, rfl⟩ dX10_one_175
abbrev yy_X10_reckons : mm_Y := (yX10_reckons, cX10_reckons, 11, (some .long))
theorem dX10_reckons_0 : decode cX10_reckons 0 = .ok (.aload_n 0, 1) := by decide +kernel
theorem dX10_reckons_1 : decode cX10_reckons 1 = .ok (.iconst 0, 1) := by decide +kernel
theorem dX10_reckons_2 : decode cX10_reckons 2 = .ok (.putfield 287, 3) := by decide +kernel
theorem dX10_reckons_5 : decode cX10_reckons 5 = .ok (.iload_n 2, 1) := by decide +kernel
theorem dX10_reckons_6 : decode cX10_reckons 6 = .ok (.istore 4, 2) := by decide +kernel
theorem dX10_reckons_8 : decode cX10_reckons 8 = .ok (.iload 4, 2) := by decide +kernel
theorem dX10_reckons_10 : decode cX10_reckons 10 = .ok (.iload_n 3, 1) := by decide +kernel
theorem dX10_reckons_11 : decode cX10_reckons 11 = .ok (.if_icmp .ge 124, 3) := by decide +kernel
theorem dX10_reckons_14 : decode cX10_reckons 14 = .ok (.aload_n 0, 1) := by decide +kernel
theorem dX10_reckons_15 : decode cX10_reckons 15 = .ok (.getfield 13, 3) := by decide +kernel
theorem dX10_reckons_18 : decode cX10_reckons 18 = .ok (.sipush 400, 3) := by decide +kernel
theorem dX10_reckons_21 : decode cX10_reckons 21 = .ok (.iload_n 1, 1) := by decide +kernel
theorem dX10_reckons_22 : decode cX10_reckons 22 = .ok (.imul, 1) := by decide +kernel
theorem dX10_reckons_23 : decode cX10_reckons 23 = .ok (.iload 4, 2) := by decide +kernel
theorem dX10_reckons_25 : decode cX10_reckons 25 = .ok (.iadd, 1) := by decide +kernel
theorem dX10_reckons_26 : decode cX10_reckons 26 = .ok (.iaload, 1) := by decide +kernel
theorem dX10_reckons_27 : decode cX10_reckons 27 = .ok (.bipush 15, 2) := by decide +kernel
theorem dX10_reckons_29 : decode cX10_reckons 29 = .ok (.iand, 1) := by decide +kernel
theorem dX10_reckons_30 : decode cX10_reckons 30 = .ok (.istore 5, 2) := by decide +kernel
theorem dX10_reckons_32 : decode cX10_reckons 32 = .ok (.aload_n 0, 1) := by decide +kernel
theorem dX10_reckons_33 : decode cX10_reckons 33 = .ok (.getfield 13, 3) := by decide +kernel
theorem dX10_reckons_36 : decode cX10_reckons 36 = .ok (.sipush 400, 3) := by decide +kernel
theorem dX10_reckons_39 : decode cX10_reckons 39 = .ok (.iload_n 1, 1) := by decide +kernel
theorem dX10_reckons_40 : decode cX10_reckons 40 = .ok (.imul, 1) := by decide +kernel
theorem dX10_reckons_41 : decode cX10_reckons 41 = .ok (.iload 4, 2) := by decide +kernel
theorem dX10_reckons_43 : decode cX10_reckons 43 = .ok (.iadd, 1) := by decide +kernel
theorem dX10_reckons_44 : decode cX10_reckons 44 = .ok (.iaload, 1) := by decide +kernel
theorem dX10_reckons_45 : decode cX10_reckons 45 = .ok (.iconst 4, 1) := by decide +kernel
theorem dX10_reckons_46 : decode cX10_reckons 46 = .ok (.ishr, 1) := by decide +kernel
theorem dX10_reckons_47 : decode cX10_reckons 47 = .ok (.istore 6, 2) := by decide +kernel
theorem dX10_reckons_49 : decode cX10_reckons 49 = .ok (.iload 5, 2) := by decide +kernel
theorem dX10_reckons_51 : decode cX10_reckons 51 = .ok (.ifCond .ne 13, 3) := by decide +kernel
theorem dX10_reckons_54 : decode cX10_reckons 54 = .ok (.aload_n 0, 1) := by decide +kernel
theorem dX10_reckons_55 : decode cX10_reckons 55 = .ok (.iload 6, 2) := by decide +kernel
theorem dX10_reckons_57 : decode cX10_reckons 57 = .ok (.i2l, 1) := by decide +kernel
theorem dX10_reckons_58 : decode cX10_reckons 58 = .ok (.invokevirtual 290, 3) := by decide +kernel
theorem dX10_reckons_61 : decode cX10_reckons 61 = .ok (.goto 68, 3) := by decide +kernel
theorem dX10_reckons_64 : decode cX10_reckons 64 = .ok (.iload 5, 2) := by decide +kernel
theorem dX10_reckons_66 : decode cX10_reckons 66 = .ok (.iconst 1, 1) := by decide +kernel
theorem dX10_reckons_67 : decode cX10_reckons 67 = .ok (.if_icmp .ne 17, 3) := by decide +kernel
theorem dX10_reckons_70 : decode cX10_reckons 70 = .ok (.aload_n 0, 1) := by decide +kernel
theorem dX10_reckons_71 : decode cX10_reckons 71 = .ok (.aload_n 0, 1) := by decide +kernel
theorem dX10_reckons_72 : decode cX10_reckons 72 = .ok (.getfield 36, 3) := by decide +kernel
theorem dX10_reckons_75 : decode cX10_reckons 75 = .ok (.iload 6, 2) := by decide +kernel
theorem dX10_reckons_77 : decode cX10_reckons 77 = .ok (.laload, 1) := by decide +kernel
theorem dX10_reckons_78 : decode cX10_reckons 78 = .ok (.invokevirtual 290, 3) := by decide +kernel
theorem dX10_reckons_81 : decode cX10_reckons 81 = .ok (.goto 48, 3) := by decide +kernel
theorem dX10_reckons_84 : decode cX10_reckons 84 = .ok (.iload 5, 2) := by decide +kernel
theorem dX10_reckons_86 : decode cX10_reckons 86 = .ok (.bipush 11, 2) := by decide +kernel
theorem dX10_reckons_88 : decode cX10_reckons 88 = .ok (.if_icmp .ne 16, 3) := by decide +kernel
theorem dX10_reckons_91 : decode cX10_reckons 91 = .ok (.aload_n 0, 1) := by decide +kernel
theorem dX10_reckons_92 : decode cX10_reckons 92 = .ok (.lconst 1, 1) := by decide +kernel
theorem dX10_reckons_93 : decode cX10_reckons 93 = .ok (.aload_n 0, 1) := by decide +kernel
theorem dX10_reckons_94 : decode cX10_reckons 94 = .ok (.invokevirtual 294, 3) := by decide +kernel
theorem dX10_reckons_97 : decode cX10_reckons 97 = .ok (.lsub, 1) := by decide +kernel
theorem dX10_reckons_98 : decode cX10_reckons 98 = .ok (.invokevirtual 290, 3) := by decide +kernel
theorem dX10_reckons_101 : decode cX10_reckons 101 = .ok (.goto 28, 3) := by decide +kernel
theorem dX10_reckons_104 : decode cX10_reckons 104 = .ok (.aload_n 0, 1) := by decide +kernel
theorem dX10_reckons_105 : decode cX10_reckons 105 = .ok (.invokevirtual 294, 3) := by decide +kernel
theorem dX10_reckons_108 : decode cX10_reckons 108 = .ok (.lstore 7, 2) := by decide +kernel
theorem dX10_reckons_110 : decode cX10_reckons 110 = .ok (.aload_n 0, 1) := by decide +kernel
theorem dX10_reckons_111 : decode cX10_reckons 111 = .ok (.invokevirtual 294, 3) := by decide +kernel
theorem dX10_reckons_114 : decode cX10_reckons 114 = .ok (.lstore 9, 2) := by decide +kernel
theorem dX10_reckons_116 : decode cX10_reckons 116 = .ok (.aload_n 0, 1) := by decide +kernel
theorem dX10_reckons_117 : decode cX10_reckons 117 = .ok (.iload 5, 2) := by decide +kernel
theorem dX10_reckons_119 : decode cX10_reckons 119 = .ok (.lload 9, 2) := by decide +kernel
theorem dX10_reckons_121 : decode cX10_reckons 121 = .ok (.lload 7, 2) := by decide +kernel
theorem dX10_reckons_123 : decode cX10_reckons 123 = .ok (.invokestatic 298, 3) := by decide +kernel
theorem dX10_reckons_126 : decode cX10_reckons 126 = .ok (.invokevirtual 290, 3) := by decide +kernel
theorem dX10_reckons_129 : decode cX10_reckons 129 = .ok (.iinc 4 1, 3) := by decide +kernel
theorem dX10_reckons_132 : decode cX10_reckons 132 = .ok (.goto (-124), 3) := by decide +kernel
theorem dX10_reckons_135 : decode cX10_reckons 135 = .ok (.aload_n 0, 1) := by decide +kernel
theorem dX10_reckons_136 : decode cX10_reckons 136 = .ok (.invokevirtual 294, 3) := by decide +kernel
theorem dX10_reckons_139 : decode cX10_reckons 139 = .ok (.lreturn, 1) := by decide +kernel
def f_X10_reckons_8 (a0 : Nat) (i1 : Int32) (i3 : Int32) (i4 : Int32) (σ : mm_S) : Option (Int64 × mm_S) :=
  lp lpN (fun (k8 : (Int32) → mm_S → Option (Int64 × mm_S)) (v : Int32) (σ : mm_S) =>
    if i3 ≤ v then
      bd (f_X10_pop a0 σ) fun r4 σ3 =>
      some (r4, σ3)
    else
      gd (((400 : Int32) * i1) + v) 2400 <|
      lt (((σ.1 216 (((400 : Int32) * i1) + v).toNatClampNeg) &&& (15 : Int32))) fun x6 =>
      gd (((400 : Int32) * i1) + v) 2400 <|
      lt (((σ.1 216 (((400 : Int32) * i1) + v).toNatClampNeg) >>> ((4 : Int32) &&& 31))) fun x9 =>
      if x6 = 0 then
        bv (f_X10_push a0 (x9 : Int32).toInt64 σ) fun σ40 =>
        lt (v + Int32.ofInt (1)) fun x41 =>
        k8 x41 σ40
      else
        if x6 = (1 : Int32) then
          gd x9 13 <|
          bv (f_X10_push a0 (σ.2.1 223 x9.toNatClampNeg) σ) fun σ36 =>
          lt (v + Int32.ofInt (1)) fun x37 =>
          k8 x37 σ36
        else
          if x6 = (11 : Int32) then
            bd (f_X10_pop a0 σ) fun r29 σ28 =>
            bv (f_X10_push a0 ((1 : Int64) - r29) σ28) fun σ31 =>
            lt (v + Int32.ofInt (1)) fun x32 =>
            k8 x32 σ31
          else
            bd (f_X10_pop a0 σ) fun r16 σ15 =>
            bd (f_X10_pop a0 σ15) fun r19 σ18 =>
            bd (f_X10_one x6 r19 r16 σ18) fun r22 σ21 =>
            bv (f_X10_push a0 r22 σ21) fun σ24 =>
            lt (v + Int32.ofInt (1)) fun x25 =>
            k8 x25 σ24) i4 σ
theorem v_X10_reckons_8 {g : mm_G} (d : Nat) {a0 : Nat} {i1 : Int32} {i3 : Int32} {i4 : Int32} {σ : mm_S} {res : Int64 × mm_S}  (h_a0 : (mm_K a0).1 = 10) (h : f_X10_reckons_8 a0 i1 i3 i4 σ = some res) : SV g (d + 1) yy_X10_reckons 8 [(0, .ref a0), (1, .int i1), (3, .int i3), (4, .int i4)] [] σ (.long res.1) res.2 := by
  unfold f_X10_reckons_8 at h
  refine lp_ind (P := fun v σ => SV g (d + 1) yy_X10_reckons 8 [(0, .ref a0), (1, .int i1), (3, .int i3), (4, .int v)] [] σ (.long res.1) res.2) (fun k8 H8 v σ h => ?_) _ i4 σ h
  refine e_iload 3 dX10_reckons_8  rfl ?_
  refine e_iload_n 2 dX10_reckons_10 rfl rfl ?_
  refine e_icmp_ge 135 dX10_reckons_11 (by decide) (fun c1 => ?_) (fun c1 => ?_)
  · rw [if_pos c1] at h
    refine e_aload_n 0 dX10_reckons_135 rfl rfl ?_
    obtain ⟨r4, σ3, q2, h⟩ := bd_some h
    refine s_callVl [] dX10_reckons_136 ml_RX10_294 h_a0 rfl rfl (v_X10_pop (d + 0) h_a0 q2) (Nat.le_of_ble_eq_true rfl) ?_
    obtain rfl := Option.some.inj h
    exact s_ret rfl ⟨_, rfl⟩ dX10_reckons_139
  · rw [if_neg c1] at h
    refine e_aload_n 0 dX10_reckons_14 rfl rfl ?_
    refine s_getr dX10_reckons_15 fl_RX10_13 h_a0 (r_10_3 h_a0).1 ?_
    refine e_sipush (v := (400 : Int32)) dX10_reckons_18 (by decide) ?_
    refine e_iload_n 1 dX10_reckons_21 rfl rfl ?_
    refine e_imul dX10_reckons_22 ?_
    refine e_iload 3 dX10_reckons_23  rfl ?_
    refine e_iadd dX10_reckons_25 ?_
    obtain ⟨q5, h⟩ := gd_some h
    refine s_iald dX10_reckons_26 (r_10_3 (w := 0) h_a0).2 q5 ?_
    refine e_bipush (v := (15 : Int32)) dX10_reckons_27 (by decide) ?_
    refine e_iand dX10_reckons_29 ?_
    obtain ⟨x6, q7, h⟩ := lt_some h
    refine s_nmi q7 ?_
    refine e_istore (L' := [(0, .ref a0), (1, .int i1), (3, .int i3), (4, .int v), (5, .int x6)]) dX10_reckons_30  (by decide) rfl ?_
    refine e_aload_n 0 dX10_reckons_32 rfl rfl ?_
    refine s_getr dX10_reckons_33 fl_RX10_13 h_a0 (r_10_3 h_a0).1 ?_
    refine e_sipush (v := (400 : Int32)) dX10_reckons_36 (by decide) ?_
    refine e_iload_n 1 dX10_reckons_39 rfl rfl ?_
    refine e_imul dX10_reckons_40 ?_
    refine e_iload 3 dX10_reckons_41  rfl ?_
    refine e_iadd dX10_reckons_43 ?_
    obtain ⟨q8, h⟩ := gd_some h
    refine s_iald dX10_reckons_44 (r_10_3 (w := 0) h_a0).2 q8 ?_
    refine e_iconst (v := (4 : Int32)) dX10_reckons_45 (by decide) ?_
    refine e_ishr dX10_reckons_46 ?_
    obtain ⟨x9, q10, h⟩ := lt_some h
    refine s_nmi q10 ?_
    refine e_istore (L' := [(0, .ref a0), (1, .int i1), (3, .int i3), (4, .int v), (5, .int x6), (6, .int x9)]) dX10_reckons_47  (by decide) rfl ?_
    refine e_iload 4 dX10_reckons_49  rfl ?_
    refine e_if_ne 64 dX10_reckons_51 (by decide) (fun c11 => ?_) (fun c11 => ?_)
    · rw [if_neg c11] at h
      refine e_iload 4 dX10_reckons_64  rfl ?_
      refine e_iconst (v := (1 : Int32)) dX10_reckons_66 (by decide) ?_
      refine e_icmp_ne 84 dX10_reckons_67 (by decide) (fun c12 => ?_) (fun c12 => ?_)
      · rw [if_neg c12] at h
        refine e_iload 4 dX10_reckons_84  rfl ?_
        refine e_bipush (v := (11 : Int32)) dX10_reckons_86 (by decide) ?_
        refine e_icmp_ne 104 dX10_reckons_88 (by decide) (fun c13 => ?_) (fun c13 => ?_)
        · rw [if_neg c13] at h
          refine e_aload_n 0 dX10_reckons_104 rfl rfl ?_
          obtain ⟨r16, σ15, q14, h⟩ := bd_some h
          refine s_callVl [] dX10_reckons_105 ml_RX10_294 h_a0 rfl rfl (v_X10_pop (d + 0) h_a0 q14) (Nat.le_of_ble_eq_true rfl) ?_
          refine e_lstore (L' := [(0, .ref a0), (1, .int i1), (3, .int i3), (4, .int v), (5, .int x6), (6, .int x9), (7, .long r16)]) dX10_reckons_108  (by decide) rfl ?_
          refine e_aload_n 0 dX10_reckons_110 rfl rfl ?_
          obtain ⟨r19, σ18, q17, h⟩ := bd_some h
          refine s_callVl [] dX10_reckons_111 ml_RX10_294 h_a0 rfl rfl (v_X10_pop (d + 0) h_a0 q17) (Nat.le_of_ble_eq_true rfl) ?_
          refine e_lstore (L' := [(0, .ref a0), (1, .int i1), (3, .int i3), (4, .int v), (5, .int x6), (6, .int x9), (7, .long r16), (9, .long r19)]) dX10_reckons_114  (by decide) rfl ?_
          refine e_aload_n 0 dX10_reckons_116 rfl rfl ?_
          refine e_iload 4 dX10_reckons_117  rfl ?_
          refine e_lload 7 dX10_reckons_119  rfl ?_
          refine e_lload 6 dX10_reckons_121  rfl ?_
          obtain ⟨r22, σ21, q20, h⟩ := bd_some h
          refine s_callSl [.int x6, .long r19, .long r16] dX10_reckons_123 ml_RX10_298 rfl rfl (v_X10_one (d + 0)  q20) (Nat.le_of_ble_eq_true rfl) ?_
          obtain ⟨σ24, q23, h⟩ := bv_some h
          refine s_callVv [.long r22] dX10_reckons_126 ml_RX10_290 h_a0 rfl rfl (v_X10_push (d + 0) h_a0 q23) (Nat.le_of_ble_eq_true rfl) ?_
          obtain ⟨x25, q26, h⟩ := lt_some h
          refine e_iinc (v := x25) (L' := [(0, .ref a0), (1, .int i1), (3, .int i3), (4, .int x25), (5, .int x6), (6, .int x9), (7, .long r16), (9, .long r19)]) 3 dX10_reckons_129 rfl q26.symm (by decide) rfl ?_
          refine e_goto 8 dX10_reckons_132 (by decide) ?_
          refine s_pick (L' := [(0, .ref a0), (1, .int i1), (3, .int i3), (4, .int x25)]) [0, 1, 2, 3] rfl ?_
          exact H8 x25 σ24 h
        · rw [if_pos c13] at h
          refine e_aload_n 0 dX10_reckons_91 rfl rfl ?_
          refine e_lconst (v := (1 : Int64)) dX10_reckons_92 (by decide) ?_
          refine e_aload_n 0 dX10_reckons_93 rfl rfl ?_
          obtain ⟨r29, σ28, q27, h⟩ := bd_some h
          refine s_callVl [] dX10_reckons_94 ml_RX10_294 h_a0 rfl rfl (v_X10_pop (d + 0) h_a0 q27) (Nat.le_of_ble_eq_true rfl) ?_
          refine e_lsub dX10_reckons_97 ?_
          obtain ⟨σ31, q30, h⟩ := bv_some h
          refine s_callVv [.long ((1 : Int64) - r29)] dX10_reckons_98 ml_RX10_290 h_a0 rfl rfl (v_X10_push (d + 0) h_a0 q30) (Nat.le_of_ble_eq_true rfl) ?_
          refine e_goto 129 dX10_reckons_101 (by decide) ?_
          obtain ⟨x32, q33, h⟩ := lt_some h
          refine e_iinc (v := x32) (L' := [(0, .ref a0), (1, .int i1), (3, .int i3), (4, .int x32), (5, .int x6), (6, .int x9)]) 3 dX10_reckons_129 rfl q33.symm (by decide) rfl ?_
          refine e_goto 8 dX10_reckons_132 (by decide) ?_
          refine s_pick (L' := [(0, .ref a0), (1, .int i1), (3, .int i3), (4, .int x32)]) [0, 1, 2, 3] rfl ?_
          exact H8 x32 σ31 h
      · rw [if_pos c12] at h
        refine e_aload_n 0 dX10_reckons_70 rfl rfl ?_
        refine e_aload_n 0 dX10_reckons_71 rfl rfl ?_
        refine s_getr dX10_reckons_72 fl_RX10_36 h_a0 (r_10_19 h_a0).1 ?_
        refine e_iload 5 dX10_reckons_75  rfl ?_
        obtain ⟨q34, h⟩ := gd_some h
        refine s_lald dX10_reckons_77 (r_10_19 (w := 0) h_a0).2 q34 ?_
        obtain ⟨σ36, q35, h⟩ := bv_some h
        refine s_callVv [.long (σ.2.1 223 x9.toNatClampNeg)] dX10_reckons_78 ml_RX10_290 h_a0 rfl rfl (v_X10_push (d + 0) h_a0 q35) (Nat.le_of_ble_eq_true rfl) ?_
        refine e_goto 129 dX10_reckons_81 (by decide) ?_
        obtain ⟨x37, q38, h⟩ := lt_some h
        refine e_iinc (v := x37) (L' := [(0, .ref a0), (1, .int i1), (3, .int i3), (4, .int x37), (5, .int x6), (6, .int x9)]) 3 dX10_reckons_129 rfl q38.symm (by decide) rfl ?_
        refine e_goto 8 dX10_reckons_132 (by decide) ?_
        refine s_pick (L' := [(0, .ref a0), (1, .int i1), (3, .int i3), (4, .int x37)]) [0, 1, 2, 3] rfl ?_
        exact H8 x37 σ36 h
    · rw [if_pos c11] at h
      refine e_aload_n 0 dX10_reckons_54 rfl rfl ?_
      refine e_iload 5 dX10_reckons_55  rfl ?_
      refine e_i2l dX10_reckons_57 ?_
      obtain ⟨σ40, q39, h⟩ := bv_some h
      refine s_callVv [.long (x9 : Int32).toInt64] dX10_reckons_58 ml_RX10_290 h_a0 rfl rfl (v_X10_push (d + 0) h_a0 q39) (Nat.le_of_ble_eq_true rfl) ?_
      refine e_goto 129 dX10_reckons_61 (by decide) ?_
      obtain ⟨x41, q42, h⟩ := lt_some h
      refine e_iinc (v := x41) (L' := [(0, .ref a0), (1, .int i1), (3, .int i3), (4, .int x41), (5, .int x6), (6, .int x9)]) 3 dX10_reckons_129 rfl q42.symm (by decide) rfl ?_
      refine e_goto 8 dX10_reckons_132 (by decide) ?_
      refine s_pick (L' := [(0, .ref a0), (1, .int i1), (3, .int i3), (4, .int x41)]) [0, 1, 2, 3] rfl ?_
      exact H8 x41 σ40 h
def f_X10_reckons (a0 : Nat) (i1 : Int32) (i2 : Int32) (i3 : Int32) (σ : mm_S) : Option (Int64 × mm_S) :=
    lt (su_i σ a0 18 (0 : Int32)) fun σ45 =>
    f_X10_reckons_8 a0 i1 i3 i2 σ45
theorem v_X10_reckons {g : mm_G} (d : Nat) {a0 : Nat} {i1 : Int32} {i2 : Int32} {i3 : Int32} {σ : mm_S} {res : Int64 × mm_S} (h_a0 : (mm_K a0).1 = 10) (h : f_X10_reckons a0 i1 i2 i3 σ = some res) : SM g (d + 1) yy_X10_reckons [.ref a0, .int i1, .int i2, .int i3] σ (.long res.1) res.2 := by
  refine s_of (by decide) (Nat.le_of_ble_eq_true rfl) (L := [(0, .ref a0), (1, .int i1), (2, .int i2), (3, .int i3)]) rfl ?_
  unfold f_X10_reckons at h
  refine e_aload_n 0 dX10_reckons_0 rfl rfl ?_
  refine e_iconst (v := (0 : Int32)) dX10_reckons_1 (by decide) ?_
  refine s_puti dX10_reckons_2 fl_RX10_287 h_a0 rfl rfl rfl ?_
  obtain ⟨σ45, q46, h⟩ := lt_some h
  refine s_nms q46 ?_
  refine e_iload_n 2 dX10_reckons_5 rfl rfl ?_
  refine e_istore (L' := [(0, .ref a0), (1, .int i1), (2, .int i2), (3, .int i3), (4, .int i2)]) dX10_reckons_6  (by decide) rfl ?_
  refine s_pick (L' := [(0, .ref a0), (1, .int i1), (3, .int i3), (4, .int i2)]) [0, 1, 3, 4] rfl ?_
  exact v_X10_reckons_8 d h_a0 h
